/-! ===== a run of the reference ===== -/
/-- cells that a run of the reference may change -/
def FrN (h h' : Hp) : Prop := (∀ d, d ≠ 122 → d ≠ 123 → d ≠ 132 → d ≠ 133 → d ≠ 134 → hI h' d = hI h d) ∧ (∀ k, k ≠ 26 → k ≠ 27 → k ≠ 37 → hI h' 122 k = hI h 122 k) ∧ (∀ k, 368 ≤ k → hI h' 123 k = hI h 123 k) ∧ (∀ d, d ≠ 122 → hL h' d = hL h d) ∧ (∀ k, k ≠ 36 → hL h' 122 k = hL h 122 k)
theorem FrN.rf {h : Hp} : FrN h h := ⟨fun _ _ _ _ _ _ => rfl, fun _ _ _ _ => rfl, fun _ _ => rfl, fun _ _ => rfl, fun _ _ => rfl⟩
theorem FrN.trans {a b c : Hp} (x : FrN a b) (y : FrN b c) : FrN a c := ⟨fun d p q r s t => (y.1 d p q r s t).trans (x.1 d p q r s t), fun k p q r => (y.2.1 k p q r).trans (x.2.1 k p q r), fun k p => (y.2.2.1 k p).trans (x.2.2.1 k p), fun d p => (y.2.2.2.1 d p).trans (x.2.2.2.1 d p), fun k p => (y.2.2.2.2 k p).trans (x.2.2.2.2 k p)⟩
def MR (h : Hp) (S : St) : Prop := RmH h 0 (tA S) ∧ hL h 122 36 = tR S ∧ hI h 122 37 = tH S ∧ ∀ o, encl S o → hI h 132 o = nI (tL S o)
theorem mS0 {h : Hp} {A : Ho} (rm : RmH h 0 A) : hI h 123 5 = nI (sN (oS A)) := rm.2.2.1
theorem mSk {h : Hp} {A : Ho} (rm : RmH h 0 A) {k : Nat} (hk : k < sN (oS A)) : hI h 123 (436 + 4 * k) = nI (sK (oS A) k) := by
  have := (rm.2.2.2 k hk).1
  rw [Nat.zero_add] at this
  exact this
theorem mSa {h : Hp} {A : Ho} (rm : RmH h 0 A) {k : Nat} (hk : k < sN (oS A)) (h7 : sK (oS A) k ≠ 7) : hI h 123 (436 + 4 * k + 1) = nI (sA (oS A) k) := by
  have := ((rm.2.2.2 k hk).2.1 h7).1
  rw [Nat.zero_add, show 437 + 4 * k = 436 + 4 * k + 1 by omega] at this
  exact this
theorem mSb {h : Hp} {A : Ho} (rm : RmH h 0 A) {k : Nat} (hk : k < sN (oS A)) (h7 : sK (oS A) k ≠ 7) : hI h 123 (436 + 4 * k + 2) = nI (sB (oS A) k) := by
  have := ((rm.2.2.2 k hk).2.1 h7).2
  rw [Nat.zero_add, show 438 + 4 * k = 436 + 4 * k + 2 by omega] at this
  exact this
theorem mSm {h : Hp} {A : Ho} (rm : RmH h 0 A) {k : Nat} (hk : k < sN (oS A)) (h5 : 5 ≤ sK (oS A) k) : hI h 123 (436 + 4 * k + 3) = nI (sM (oS A) k) := by
  have := (rm.2.2.2 k hk).2.2 h5
  rw [Nat.zero_add, show 439 + 4 * k = 436 + 4 * k + 3 by omega] at this
  exact this
theorem RmH_dk {q : Nat} {h h' : Hp} {A : Ho} {D : Nat → Nat} (ok : HoOk q A) (r : RmH h 0 A) (f : FrR h h') (eD : ∀ k, k < oN A → hI h' 123 (338 + k) = nI (D k)) : RmH h' 0 (dkA A D) := by
  have hA := ok.1
  refine RmH_wdm ok r (by rw [f.2.1 1 (by omega)]; exact r.1.2.1) (fun i hi => ?_) eD (fun k k1 k2 k3 k4 => f.2.1 k (by omega))
  rw [f.2.1 (18 + 11 * i) (by omega)]
  have := (r.1.2.2 i hi).2.2.2.1
  rw [Nat.zero_add] at this
  exact this
theorem FrR.n {h h' : Hp} (f : FrR h h') : FrN h h' := ⟨fun d _ a _ _ b => f.1 d a b, fun k _ _ _ => by rw [f.1 122 (by decide) (by decide)], fun k a => f.2.1 k (Or.inr a), fun d _ => by rw [f.2.2], fun k _ => by rw [f.2.2]⟩
theorem FrD.n {h h' : Hp} (f : FrD h h') : FrN h h' := ⟨fun d a b _ c e => f.1 d b c e a, fun k a b _ => f.2.1 k a b, f.2.2.1, fun d _ => by rw [f.2.2.2], fun k _ => by rw [f.2.2.2]⟩
theorem m_endS {h : Hp} {q : Nat} {S : St} (g : gdS q S) (mr : MR h S) (hp : tP S < sN (oS (tA S))) (e7 : sK (oS (tA S)) (tP S) = 7) : ∃ h', B_X12_behindEnds_2 h 122 (nI (tP S)) = some (.inl (h', nI (tP (trS S)))) ∧ MR h' (trS S) ∧ FrN h h' := by
  obtain ⟨rm, r1, r2, r5⟩ := mr
  obtain ⟨g1, g2, g3, g4⟩ := id g
  have sp := g1.2.2.2.2
  have h80 := sp.1
  obtain ⟨m1, m2, m3⟩ := (sp.k hp).2.2.2.2.2.2.2.2 e7
  have ho : sM (oS (tA S)) (tP S) < sN (oS (tA S)) := by omega
  have eT : trS S = endS S := if_pos e7
  have k7 := mSk rm hp
  rw [e7] at k7
  have mm := mSm rm hp (by omega)
  have ko := mSk rm ho
  have fw : ∀ h', RmH h' 0 (tA S) → hL h' 122 36 = tR S → hI h' 122 37 = tH S → (∀ o, o ≠ sM (oS (tA S)) (tP S) → hI h' 132 o = hI h 132 o) → MR h' (tA S, tP S + 1, tL S, tD S, tH S, tR S) := by
    intro h' a1 a2 a3 a4
    refine ⟨a1, a2, a3, fun o eo => ?_⟩
    obtain ⟨x1, x2, x3, x4⟩ := eo
    have x1 : o < sN (oS (tA S)) := x1
    have x2 : sK (oS (tA S)) o = 5 := x2
    have x3 : o < tP S + 1 := x3
    have x4 : tP S + 1 ≤ sM (oS (tA S)) o := x4
    have n1' : o ≠ tP S := fun e => by rw [e, e7] at x2; omega
    have n2' : o ≠ sM (oS (tA S)) (tP S) := fun e => by rw [e, m3] at x4; omega
    show _ = nI (tL S o)
    rw [a4 o n2']
    exact r5 o ⟨x1, x2, by omega, by omega⟩
  rw [eT]
  by_cases c5 : sK (oS (tA S)) (sM (oS (tA S)) (tP S)) = 5
  · rw [c5] at ko
    have en : encl S (sM (oS (tA S)) (tP S)) := ⟨ho, c5, m1, Nat.le_of_eq m3.symm⟩
    have lo := r5 _ en
    have l9 := g4 _ en
    by_cases c1 : 1 < tL S (sM (oS (tA S)) (tP S))
    · have tp : endS S = (tA S, sM (oS (tA S)) (tP S) + 1, (fun o => if o = sM (oS (tA S)) (tP S) then tL S o - 1 else tL S o), tD S, tH S, tR S) := if_pos ⟨c5, c1⟩
      rw [tp]
      refine ⟨uI h 132 (sM (oS (tA S)) (tP S)) (nI (tL S (sM (oS (tA S)) (tP S)) - 1)), ?_, ⟨RmH_congr (hI_uI_o (by decide)) rm, r1, by rw [hI_uI_o (by decide)]; exact r2, fun o eo => ?_⟩, ⟨fun d _ _ a _ _ => hI_uI_o a, fun k _ _ _ => by rw [hI_uI_o (by decide)], fun k _ => by rw [hI_uI_o (by decide)], fun _ _ => rfl, fun _ _ => rfl⟩⟩
      · show _ = some (Sum.inl (_, nI (sM (oS (tA S)) (tP S) + 1)))
        unfold B_X12_behindEnds_2 J_X12_behindEnds_74 J_X12_behindEnds_75 J_X12_behindEnds_92
        simp (disch := omega) only [↓m1_n, li_n, li_0, li_1, lt_y, lt_n, le_y, le_n, eq_n, nL, nLe, nEq, nEm, mEn, nLm, mLn, nLem, mLen, nI_add, nI_mul, nI_sub, nI_m, ib_nI, nx_nI, gd_y, bnd_e, bind_y, ↓reduceIte, hI_uI_o, hI_uI_s, hI_uI_e, hL_uI, hI_uL, hL_uL_o, hL_uL_s, hL_uL_e, and1_a, and1_b, Bool.not_true, Bool.not_false, Nat.zero_add, Nat.add_zero, Nat.add_sub_cancel, eq_self, ne_b, g0_0, g0_1, g0_2, g0_3, g0_4, g0_5, g0_6, g0_7, g0_8, g0_9, n1, n2, g3_2, g3_3, g3_4, g3_5, g3_6, g3_7, g3_8, g3_9, n4, n5, n6, n7, n8, n9, g10_2, g10_3, g10_4, g10_5, n11, n12, n13, n14, g15_2, g15_3, g15_4, g15_5, n16, n17, n18, n19, g40_0, g40_1, g40_2, g44_0, g44_2, g44_3, g44_5, g44_6, g44_10, g51_3, g51_4, g51_5, g51_6, g51_7, g57_3, g57_4, g57_5, g57_6, g57_7, n120, n121, g122_0, g122_4, g122_5, g122_6, g122_7, g122_8, g122_18, g122_19, g122_20, g122_21, g122_24, g122_25, g122_28, g122_29, g122_31, g122_32, g122_33, g122_39, g122_40, g122_41, g122_45, g122_46, g122_47, g122_48, n123, n124, n125, n126, n127, n128, n129, n130, n131, n132, n133, n134, n135, n136, n137, n138, n139, n140, n141, n142, n143, n144, n145, n146, mS0 rm, k7, mm, ko, lo]
      · obtain ⟨x1, x2, x3, x4⟩ := eo
        have x1 : o < sN (oS (tA S)) := x1
        have x2 : sK (oS (tA S)) o = 5 := x2
        have x3 : o < sM (oS (tA S)) (tP S) + 1 := x3
        have x4 : sM (oS (tA S)) (tP S) + 1 ≤ sM (oS (tA S)) o := x4
        show _ = nI (if o = sM (oS (tA S)) (tP S) then tL S o - 1 else tL S o)
        by_cases co : o = sM (oS (tA S)) (tP S)
        · rw [if_pos co, co, hI_uI_e]
        · rw [if_neg co, hI_uI_s co]
          have := sp.nest (o := o) (p := sM (oS (tA S)) (tP S)) (by omega) (by omega) (Or.inl x2) (Or.inl c5) (by omega)
          exact r5 o ⟨x1, x2, by omega, by omega⟩
    · have tp : endS S = (tA S, tP S + 1, tL S, tD S, tH S, tR S) := if_neg (fun e => c1 e.2)
      rw [tp]
      refine ⟨h, ?_, fw h rm r1 r2 (fun _ _ => rfl), FrN.rf⟩
      show _ = some (Sum.inl (_, nI (tP S + 1)))
      unfold B_X12_behindEnds_2 J_X12_behindEnds_74 J_X12_behindEnds_75 J_X12_behindEnds_92
      simp (disch := omega) only [↓m1_n, li_n, li_0, li_1, lt_y, lt_n, le_y, le_n, eq_n, nL, nLe, nEq, nEm, mEn, nLm, mLn, nLem, mLen, nI_add, nI_mul, nI_sub, nI_m, ib_nI, nx_nI, gd_y, bnd_e, bind_y, ↓reduceIte, hI_uI_o, hI_uI_s, hI_uI_e, hL_uI, hI_uL, hL_uL_o, hL_uL_s, hL_uL_e, and1_a, and1_b, Bool.not_true, Bool.not_false, Nat.zero_add, Nat.add_zero, Nat.add_sub_cancel, eq_self, ne_b, g0_0, g0_1, g0_2, g0_3, g0_4, g0_5, g0_6, g0_7, g0_8, g0_9, n1, n2, g3_2, g3_3, g3_4, g3_5, g3_6, g3_7, g3_8, g3_9, n4, n5, n6, n7, n8, n9, g10_2, g10_3, g10_4, g10_5, n11, n12, n13, n14, g15_2, g15_3, g15_4, g15_5, n16, n17, n18, n19, g40_0, g40_1, g40_2, g44_0, g44_2, g44_3, g44_5, g44_6, g44_10, g51_3, g51_4, g51_5, g51_6, g51_7, g57_3, g57_4, g57_5, g57_6, g57_7, n120, n121, g122_0, g122_4, g122_5, g122_6, g122_7, g122_8, g122_18, g122_19, g122_20, g122_21, g122_24, g122_25, g122_28, g122_29, g122_31, g122_32, g122_33, g122_39, g122_40, g122_41, g122_45, g122_46, g122_47, g122_48, n123, n124, n125, n126, n127, n128, n129, n130, n131, n132, n133, n134, n135, n136, n137, n138, n139, n140, n141, n142, n143, n144, n145, n146, mS0 rm, k7, mm, ko, lo]
  · have c6 : sK (oS (tA S)) (sM (oS (tA S)) (tP S)) = 6 := by omega
    rw [c6] at ko
    have tp : endS S = (tA S, tP S + 1, tL S, tD S, tH S, tR S) := if_neg (fun e => c5 e.1)
    rw [tp]
    refine ⟨h, ?_, fw h rm r1 r2 (fun _ _ => rfl), FrN.rf⟩
    show _ = some (Sum.inl (_, nI (tP S + 1)))
    unfold B_X12_behindEnds_2 J_X12_behindEnds_74 J_X12_behindEnds_75 J_X12_behindEnds_92
    simp (disch := omega) only [↓m1_n, li_n, li_0, li_1, lt_y, lt_n, le_y, le_n, eq_n, nL, nLe, nEq, nEm, mEn, nLm, mLn, nLem, mLen, nI_add, nI_mul, nI_sub, nI_m, ib_nI, nx_nI, gd_y, bnd_e, bind_y, ↓reduceIte, hI_uI_o, hI_uI_s, hI_uI_e, hL_uI, hI_uL, hL_uL_o, hL_uL_s, hL_uL_e, and1_a, and1_b, Bool.not_true, Bool.not_false, Nat.zero_add, Nat.add_zero, Nat.add_sub_cancel, eq_self, ne_b, g0_0, g0_1, g0_2, g0_3, g0_4, g0_5, g0_6, g0_7, g0_8, g0_9, n1, n2, g3_2, g3_3, g3_4, g3_5, g3_6, g3_7, g3_8, g3_9, n4, n5, n6, n7, n8, n9, g10_2, g10_3, g10_4, g10_5, n11, n12, n13, n14, g15_2, g15_3, g15_4, g15_5, n16, n17, n18, n19, g40_0, g40_1, g40_2, g44_0, g44_2, g44_3, g44_5, g44_6, g44_10, g51_3, g51_4, g51_5, g51_6, g51_7, g57_3, g57_4, g57_5, g57_6, g57_7, n120, n121, g122_0, g122_4, g122_5, g122_6, g122_7, g122_8, g122_18, g122_19, g122_20, g122_21, g122_24, g122_25, g122_28, g122_29, g122_31, g122_32, g122_33, g122_39, g122_40, g122_41, g122_45, g122_46, g122_47, g122_48, n123, n124, n125, n126, n127, n128, n129, n130, n131, n132, n133, n134, n135, n136, n137, n138, n139, n140, n141, n142, n143, n144, n145, n146, mS0 rm, k7, mm, ko]
theorem MR_step {h h' : Hp} {q : Nat} {S : St} (g : gdS q S) (mr : MR h S) (hp : tP S < sN (oS (tA S))) (e7 : sK (oS (tA S)) (tP S) ≠ 7) (a1 : RmH h' 0 (stpA (tA S) (tP S))) (a2 : hL h' 122 36 = tR (stpS S)) (a3 : hI h' 122 37 = tH (stpS S)) (a6 : ∀ o, o ≠ tP S → hI h' 132 o = hI h 132 o) (a7 : sK (oS (tA S)) (tP S) = 5 → hI h' 132 (tP S) = nI (sA (oS (tA S)) (tP S))) : MR h' (stpS S) := by
  refine ⟨a1, a2, a3, fun o eo => ?_⟩
  show _ = nI (if o = tP S ∧ sK (oS (tA S)) (tP S) = 5 then sA (oS (tA S)) (tP S) else tL S o)
  rcases encl_stp g hp e7 eo with ⟨x1, x2⟩ | ⟨x1, x2⟩
  · rw [if_pos ⟨x1, x2⟩, x1]
    exact a7 x2
  · rw [if_neg (fun e => x1 e.1), a6 o x1]
    exact mr.2.2.2 o x2
theorem m_stp {h : Hp} {q : Nat} {S : St} (g : gdS q S) (mr : MR h S) (hp : tP S < sN (oS (tA S))) (e7 : sK (oS (tA S)) (tP S) ≠ 7) (hd : tD S < 200) : ∃ h', F_X12_does h 122 (nI (tP S)) = some (h', nI (tP (stpS S))) ∧ MR h' (stpS S) ∧ FrN h h' := by
  obtain ⟨rm, r1, r2, r5⟩ := id mr
  obtain ⟨g1, g2, g3, g4⟩ := id g
  have sp := g1.2.2.2.2
  have h80 := sp.1
  have K := sp.k hp
  have kk := mSk rm hp
  have ka := mSa rm hp e7
  have kb := mSb rm hp e7
  have hA := g1.1
  have tPs : tP (stpS S) = stpP (tA S) (tP S) := rfl
  have K7 : sK (oS (tA S)) (tP S) = 0 ∨ sK (oS (tA S)) (tP S) = 1 ∨ sK (oS (tA S)) (tP S) = 2 ∨ sK (oS (tA S)) (tP S) = 3 ∨ sK (oS (tA S)) (tP S) = 4 ∨ sK (oS (tA S)) (tP S) = 5 ∨ sK (oS (tA S)) (tP S) = 6 := by omega
  have pl : sK (oS (tA S)) (tP S) ≠ 6 → stpP (tA S) (tP S) = tP S + 1 := fun n6 => if_neg (fun e => n6 e.1)
  rcases K7 with k0 | k0 | k0 | k0 | k0 | k0 | k0
  · rw [k0] at kk
    obtain ⟨ba, bb⟩ := K.2.1 k0
    obtain ⟨h2, x1, x2, x3⟩ := m_passDeck (b := decide (sB (oS (tA S)) (tP S) = 1)) g1 rm ba
    refine ⟨uI h2 122 37 (tH S + nI (pH (tA S) (sA (oS (tA S)) (tP S)) (decide (sB (oS (tA S)) (tP S) = 1)))), ?_, MR_step g mr hp e7 ?_ ?_ ?_ ?_ ?_, ?_⟩
    · rw [tPs, pl (by omega)]
      unfold F_X12_does
      by_cases eb : sB (oS (tA S)) (tP S) = 1
      · rw [decide_eq_true eb] at x1 ⊢
        have x1' : F_X12_passesDeck h 122 (nI (sA (oS (tA S)) (tP S))) (nI 1) = _ := x1
        simp (disch := omega) only [↓m1_n, li_n, li_0, li_1, lt_y, lt_n, le_y, le_n, eq_n, nL, nLe, nEq, nEm, mEn, nLm, mLn, nLem, mLen, nI_add, nI_mul, nI_sub, nI_m, ib_nI, nx_nI, gd_y, bnd_e, bind_y, ↓reduceIte, hI_uI_o, hI_uI_s, hI_uI_e, hL_uI, hI_uL, hL_uL_o, hL_uL_s, hL_uL_e, and1_a, and1_b, Bool.not_true, Bool.not_false, Nat.zero_add, Nat.add_zero, Nat.add_sub_cancel, eq_self, ne_b, g0_0, g0_1, g0_2, g0_3, g0_4, g0_5, g0_6, g0_7, g0_8, g0_9, n1, n2, g3_2, g3_3, g3_4, g3_5, g3_6, g3_7, g3_8, g3_9, n4, n5, n6, n7, n8, n9, g10_2, g10_3, g10_4, g10_5, n11, n12, n13, n14, g15_2, g15_3, g15_4, g15_5, n16, n17, n18, n19, g40_0, g40_1, g40_2, g44_0, g44_2, g44_3, g44_5, g44_6, g44_10, g51_3, g51_4, g51_5, g51_6, g51_7, g57_3, g57_4, g57_5, g57_6, g57_7, n120, n121, g122_0, g122_4, g122_5, g122_6, g122_7, g122_8, g122_18, g122_19, g122_20, g122_21, g122_24, g122_25, g122_28, g122_29, g122_31, g122_32, g122_33, g122_39, g122_40, g122_41, g122_45, g122_46, g122_47, g122_48, n123, n124, n125, n126, n127, n128, n129, n130, n131, n132, n133, n134, n135, n136, n137, n138, n139, n140, n141, n142, n143, n144, n145, n146, r2, kk, ka, kb, eb, swt, x1', eq_y]
      · have eb0 : sB (oS (tA S)) (tP S) = 0 := by omega
        rw [decide_eq_false eb] at x1 ⊢
        have x1' : F_X12_passesDeck h 122 (nI (sA (oS (tA S)) (tP S))) (nI 0) = _ := x1
        simp (disch := omega) only [↓m1_n, li_n, li_0, li_1, lt_y, lt_n, le_y, le_n, eq_n, nL, nLe, nEq, nEm, mEn, nLm, mLn, nLem, mLen, nI_add, nI_mul, nI_sub, nI_m, ib_nI, nx_nI, gd_y, bnd_e, bind_y, ↓reduceIte, hI_uI_o, hI_uI_s, hI_uI_e, hL_uI, hI_uL, hL_uL_o, hL_uL_s, hL_uL_e, and1_a, and1_b, Bool.not_true, Bool.not_false, Nat.zero_add, Nat.add_zero, Nat.add_sub_cancel, eq_self, ne_b, g0_0, g0_1, g0_2, g0_3, g0_4, g0_5, g0_6, g0_7, g0_8, g0_9, n1, n2, g3_2, g3_3, g3_4, g3_5, g3_6, g3_7, g3_8, g3_9, n4, n5, n6, n7, n8, n9, g10_2, g10_3, g10_4, g10_5, n11, n12, n13, n14, g15_2, g15_3, g15_4, g15_5, n16, n17, n18, n19, g40_0, g40_1, g40_2, g44_0, g44_2, g44_3, g44_5, g44_6, g44_10, g51_3, g51_4, g51_5, g51_6, g51_7, g57_3, g57_4, g57_5, g57_6, g57_7, n120, n121, g122_0, g122_4, g122_5, g122_6, g122_7, g122_8, g122_18, g122_19, g122_20, g122_21, g122_24, g122_25, g122_28, g122_29, g122_31, g122_32, g122_33, g122_39, g122_40, g122_41, g122_45, g122_46, g122_47, g122_48, n123, n124, n125, n126, n127, n128, n129, n130, n131, n132, n133, n134, n135, n136, n137, n138, n139, n140, n141, n142, n143, n144, n145, n146, r2, kk, ka, kb, eb0, swt, x1', eq_y]
    · have ea : stpA (tA S) (tP S) = passA (tA S) (sA (oS (tA S)) (tP S)) (decide (sB (oS (tA S)) (tP S) = 1)) := if_pos k0
      rw [ea]
      exact RmH_congr (hI_uI_o (by decide)) x2
    · have et : tR (stpS S) = tR S := if_neg (by omega)
      rw [et, hL_uI, x3.2.2.2]
      exact r1
    · have et : tH (stpS S) = tH S + nI (pH (tA S) (sA (oS (tA S)) (tP S)) (decide (sB (oS (tA S)) (tP S) = 1))) := if_pos k0
      rw [et, hI_uI_e]
    · intro o _
      rw [hI_uI_o (by decide), x3.1 132 (by decide) (by decide) (by decide) (by decide)]
    · intro e; omega
    · exact x3.n.trans ⟨fun d a _ _ _ _ => hI_uI_o a, fun k _ _ a => hI_uI_s a, fun k _ => by rw [hI_uI_o (by decide)], fun _ _ => rfl, fun _ _ => rfl⟩
  · rw [k0] at kk
    obtain ⟨ba, bb⟩ := K.2.2.1 (Or.inl k0)
    obtain ⟨h2, x1, x2, x3⟩ := m_put g1 rm ba bb
    refine ⟨h2, ?_, MR_step g mr hp e7 ?_ ?_ ?_ ?_ ?_, x2.n⟩
    · rw [tPs, pl (by omega)]
      unfold F_X12_does
      simp (disch := omega) only [↓m1_n, li_n, li_0, li_1, lt_y, lt_n, le_y, le_n, eq_n, nL, nLe, nEq, nEm, mEn, nLm, mLn, nLem, mLen, nI_add, nI_mul, nI_sub, nI_m, ib_nI, nx_nI, gd_y, bnd_e, bind_y, ↓reduceIte, hI_uI_o, hI_uI_s, hI_uI_e, hL_uI, hI_uL, hL_uL_o, hL_uL_s, hL_uL_e, and1_a, and1_b, Bool.not_true, Bool.not_false, Nat.zero_add, Nat.add_zero, Nat.add_sub_cancel, eq_self, ne_b, g0_0, g0_1, g0_2, g0_3, g0_4, g0_5, g0_6, g0_7, g0_8, g0_9, n1, n2, g3_2, g3_3, g3_4, g3_5, g3_6, g3_7, g3_8, g3_9, n4, n5, n6, n7, n8, n9, g10_2, g10_3, g10_4, g10_5, n11, n12, n13, n14, g15_2, g15_3, g15_4, g15_5, n16, n17, n18, n19, g40_0, g40_1, g40_2, g44_0, g44_2, g44_3, g44_5, g44_6, g44_10, g51_3, g51_4, g51_5, g51_6, g51_7, g57_3, g57_4, g57_5, g57_6, g57_7, n120, n121, g122_0, g122_4, g122_5, g122_6, g122_7, g122_8, g122_18, g122_19, g122_20, g122_21, g122_24, g122_25, g122_28, g122_29, g122_31, g122_32, g122_33, g122_39, g122_40, g122_41, g122_45, g122_46, g122_47, g122_48, n123, n124, n125, n126, n127, n128, n129, n130, n131, n132, n133, n134, n135, n136, n137, n138, n139, n140, n141, n142, n143, n144, n145, n146, kk, ka, kb, swt, x1, eq_y]
    · have ea : stpA (tA S) (tP S) = dkA (tA S) (srt (putR (tA S) (sA (oS (tA S)) (tP S)) (sB (oS (tA S)) (tP S))) (oD (tA S)) (oN (tA S))) := by
        unfold stpA
        rw [if_neg (by omega), if_pos k0]
      rw [ea]
      exact RmH_dk g1 rm x2 x3
    · have et : tR (stpS S) = tR S := if_neg (by omega)
      rw [et, x2.2.2]
      exact r1
    · have et : tH (stpS S) = tH S := if_neg (by omega)
      rw [et, x2.1 122 (by decide) (by decide)]
      exact r2
    · intro o _
      rw [x2.1 132 (by decide) (by decide)]
    · intro e; omega
  · rw [k0] at kk
    have ba := K.2.2.2.1 k0
    obtain ⟨h2, x1, x2, x3⟩ := m_cut' g1 rm ba
    refine ⟨h2, ?_, MR_step g mr hp e7 ?_ ?_ ?_ ?_ ?_, x2.n⟩
    · rw [tPs, pl (by omega)]
      unfold F_X12_does
      simp (disch := omega) only [↓m1_n, li_n, li_0, li_1, lt_y, lt_n, le_y, le_n, eq_n, nL, nLe, nEq, nEm, mEn, nLm, mLn, nLem, mLen, nI_add, nI_mul, nI_sub, nI_m, ib_nI, nx_nI, gd_y, bnd_e, bind_y, ↓reduceIte, hI_uI_o, hI_uI_s, hI_uI_e, hL_uI, hI_uL, hL_uL_o, hL_uL_s, hL_uL_e, and1_a, and1_b, Bool.not_true, Bool.not_false, Nat.zero_add, Nat.add_zero, Nat.add_sub_cancel, eq_self, ne_b, g0_0, g0_1, g0_2, g0_3, g0_4, g0_5, g0_6, g0_7, g0_8, g0_9, n1, n2, g3_2, g3_3, g3_4, g3_5, g3_6, g3_7, g3_8, g3_9, n4, n5, n6, n7, n8, n9, g10_2, g10_3, g10_4, g10_5, n11, n12, n13, n14, g15_2, g15_3, g15_4, g15_5, n16, n17, n18, n19, g40_0, g40_1, g40_2, g44_0, g44_2, g44_3, g44_5, g44_6, g44_10, g51_3, g51_4, g51_5, g51_6, g51_7, g57_3, g57_4, g57_5, g57_6, g57_7, n120, n121, g122_0, g122_4, g122_5, g122_6, g122_7, g122_8, g122_18, g122_19, g122_20, g122_21, g122_24, g122_25, g122_28, g122_29, g122_31, g122_32, g122_33, g122_39, g122_40, g122_41, g122_45, g122_46, g122_47, g122_48, n123, n124, n125, n126, n127, n128, n129, n130, n131, n132, n133, n134, n135, n136, n137, n138, n139, n140, n141, n142, n143, n144, n145, n146, kk, ka, kb, swt, x1, eq_y]
    · have ea : stpA (tA S) (tP S) = dkA (tA S) (cutD (oD (tA S)) (oN (tA S)) (sA (oS (tA S)) (tP S))) := by
        unfold stpA
        rw [if_neg (by omega), if_neg (by omega), if_pos k0]
      rw [ea]
      exact RmH_dk g1 rm x2 x3
    · have et : tR (stpS S) = tR S := if_neg (by omega)
      rw [et, x2.2.2]
      exact r1
    · have et : tH (stpS S) = tH S := if_neg (by omega)
      rw [et, x2.1 122 (by decide) (by decide)]
      exact r2
    · intro o _
      rw [x2.1 132 (by decide) (by decide)]
    · intro e; omega
  · rw [k0] at kk
    obtain ⟨h2, x1, x2, x3⟩ := m_turn g1 rm
    refine ⟨h2, ?_, MR_step g mr hp e7 ?_ ?_ ?_ ?_ ?_, x2.n⟩
    · rw [tPs, pl (by omega)]
      unfold F_X12_does
      simp (disch := omega) only [↓m1_n, li_n, li_0, li_1, lt_y, lt_n, le_y, le_n, eq_n, nL, nLe, nEq, nEm, mEn, nLm, mLn, nLem, mLen, nI_add, nI_mul, nI_sub, nI_m, ib_nI, nx_nI, gd_y, bnd_e, bind_y, ↓reduceIte, hI_uI_o, hI_uI_s, hI_uI_e, hL_uI, hI_uL, hL_uL_o, hL_uL_s, hL_uL_e, and1_a, and1_b, Bool.not_true, Bool.not_false, Nat.zero_add, Nat.add_zero, Nat.add_sub_cancel, eq_self, ne_b, g0_0, g0_1, g0_2, g0_3, g0_4, g0_5, g0_6, g0_7, g0_8, g0_9, n1, n2, g3_2, g3_3, g3_4, g3_5, g3_6, g3_7, g3_8, g3_9, n4, n5, n6, n7, n8, n9, g10_2, g10_3, g10_4, g10_5, n11, n12, n13, n14, g15_2, g15_3, g15_4, g15_5, n16, n17, n18, n19, g40_0, g40_1, g40_2, g44_0, g44_2, g44_3, g44_5, g44_6, g44_10, g51_3, g51_4, g51_5, g51_6, g51_7, g57_3, g57_4, g57_5, g57_6, g57_7, n120, n121, g122_0, g122_4, g122_5, g122_6, g122_7, g122_8, g122_18, g122_19, g122_20, g122_21, g122_24, g122_25, g122_28, g122_29, g122_31, g122_32, g122_33, g122_39, g122_40, g122_41, g122_45, g122_46, g122_47, g122_48, n123, n124, n125, n126, n127, n128, n129, n130, n131, n132, n133, n134, n135, n136, n137, n138, n139, n140, n141, n142, n143, n144, n145, n146, kk, ka, kb, swt, x1, eq_y]
    · have ea : stpA (tA S) (tP S) = dkA (tA S) (trnD (oD (tA S)) (oN (tA S))) := by
        unfold stpA
        rw [if_neg (by omega), if_neg (by omega), if_neg (by omega), if_pos k0]
      rw [ea]
      exact RmH_dk g1 rm x2 x3
    · have et : tR (stpS S) = tR S := if_neg (by omega)
      rw [et, x2.2.2]
      exact r1
    · have et : tH (stpS S) = tH S := if_neg (by omega)
      rw [et, x2.1 122 (by decide) (by decide)]
      exact r2
    · intro o _
      rw [x2.1 132 (by decide) (by decide)]
    · intro e; omega
  · rw [k0] at kk
    obtain ⟨b1, b2, b3⟩ := K.2.2.2.2.1 k0
    have WS := m_wholeSum g1 rm b1 b2 b3
    refine ⟨uL h 122 36 (tR S + (nI (wsm (tA S) (sA (oS (tA S)) (tP S)) (sB (oS (tA S)) (tP S)) (oN (tA S)))).toInt64), ?_, MR_step g mr hp e7 ?_ ?_ ?_ ?_ ?_, ⟨fun _ _ _ _ _ _ => rfl, fun _ _ _ _ => rfl, fun _ _ => rfl, fun d a => hL_uL_o a, fun k a => hL_uL_s a⟩⟩
    · rw [tPs, pl (by omega)]
      unfold F_X12_does
      simp (disch := omega) only [↓m1_n, li_n, li_0, li_1, lt_y, lt_n, le_y, le_n, eq_n, nL, nLe, nEq, nEm, mEn, nLm, mLn, nLem, mLen, nI_add, nI_mul, nI_sub, nI_m, ib_nI, nx_nI, gd_y, bnd_e, bind_y, ↓reduceIte, hI_uI_o, hI_uI_s, hI_uI_e, hL_uI, hI_uL, hL_uL_o, hL_uL_s, hL_uL_e, and1_a, and1_b, Bool.not_true, Bool.not_false, Nat.zero_add, Nat.add_zero, Nat.add_sub_cancel, eq_self, ne_b, g0_0, g0_1, g0_2, g0_3, g0_4, g0_5, g0_6, g0_7, g0_8, g0_9, n1, n2, g3_2, g3_3, g3_4, g3_5, g3_6, g3_7, g3_8, g3_9, n4, n5, n6, n7, n8, n9, g10_2, g10_3, g10_4, g10_5, n11, n12, n13, n14, g15_2, g15_3, g15_4, g15_5, n16, n17, n18, n19, g40_0, g40_1, g40_2, g44_0, g44_2, g44_3, g44_5, g44_6, g44_10, g51_3, g51_4, g51_5, g51_6, g51_7, g57_3, g57_4, g57_5, g57_6, g57_7, n120, n121, g122_0, g122_4, g122_5, g122_6, g122_7, g122_8, g122_18, g122_19, g122_20, g122_21, g122_24, g122_25, g122_28, g122_29, g122_31, g122_32, g122_33, g122_39, g122_40, g122_41, g122_45, g122_46, g122_47, g122_48, n123, n124, n125, n126, n127, n128, n129, n130, n131, n132, n133, n134, n135, n136, n137, n138, n139, n140, n141, n142, n143, n144, n145, n146, r1, kk, ka, kb, swt, WS, eq_y]
    · have ea : stpA (tA S) (tP S) = tA S := by
        unfold stpA
        rw [if_neg (by omega), if_neg (by omega), if_neg (by omega), if_neg (by omega)]
      rw [ea]
      exact RmH_congr rfl rm
    · have et : tR (stpS S) = tR S + (nI (wsm (tA S) (sA (oS (tA S)) (tP S)) (sB (oS (tA S)) (tP S)) (oN (tA S)))).toInt64 := if_pos k0
      rw [et, hL_uL_e]
    · have et : tH (stpS S) = tH S := if_neg (by omega)
      rw [et]
      exact r2
    · intro o _
      rfl
    · intro e; omega
  · rw [k0] at kk
    refine ⟨uI h 132 (tP S) (nI (sA (oS (tA S)) (tP S))), ?_, MR_step g mr hp e7 ?_ ?_ ?_ ?_ ?_, ⟨fun d _ _ a _ _ => hI_uI_o a, fun k _ _ _ => by rw [hI_uI_o (by decide)], fun k _ => by rw [hI_uI_o (by decide)], fun _ _ => rfl, fun _ _ => rfl⟩⟩
    · rw [tPs, pl (by omega)]
      unfold F_X12_does
      simp (disch := omega) only [↓m1_n, li_n, li_0, li_1, lt_y, lt_n, le_y, le_n, eq_n, nL, nLe, nEq, nEm, mEn, nLm, mLn, nLem, mLen, nI_add, nI_mul, nI_sub, nI_m, ib_nI, nx_nI, gd_y, bnd_e, bind_y, ↓reduceIte, hI_uI_o, hI_uI_s, hI_uI_e, hL_uI, hI_uL, hL_uL_o, hL_uL_s, hL_uL_e, and1_a, and1_b, Bool.not_true, Bool.not_false, Nat.zero_add, Nat.add_zero, Nat.add_sub_cancel, eq_self, ne_b, g0_0, g0_1, g0_2, g0_3, g0_4, g0_5, g0_6, g0_7, g0_8, g0_9, n1, n2, g3_2, g3_3, g3_4, g3_5, g3_6, g3_7, g3_8, g3_9, n4, n5, n6, n7, n8, n9, g10_2, g10_3, g10_4, g10_5, n11, n12, n13, n14, g15_2, g15_3, g15_4, g15_5, n16, n17, n18, n19, g40_0, g40_1, g40_2, g44_0, g44_2, g44_3, g44_5, g44_6, g44_10, g51_3, g51_4, g51_5, g51_6, g51_7, g57_3, g57_4, g57_5, g57_6, g57_7, n120, n121, g122_0, g122_4, g122_5, g122_6, g122_7, g122_8, g122_18, g122_19, g122_20, g122_21, g122_24, g122_25, g122_28, g122_29, g122_31, g122_32, g122_33, g122_39, g122_40, g122_41, g122_45, g122_46, g122_47, g122_48, n123, n124, n125, n126, n127, n128, n129, n130, n131, n132, n133, n134, n135, n136, n137, n138, n139, n140, n141, n142, n143, n144, n145, n146, kk, ka, kb, swt, eq_y]
    · have ea : stpA (tA S) (tP S) = tA S := by
        unfold stpA
        rw [if_neg (by omega), if_neg (by omega), if_neg (by omega), if_neg (by omega)]
      rw [ea]
      exact RmH_congr (hI_uI_o (by decide)) rm
    · have et : tR (stpS S) = tR S := if_neg (by omega)
      rw [et]
      exact r1
    · have et : tH (stpS S) = tH S := if_neg (by omega)
      rw [et, hI_uI_o (by decide)]
      exact r2
    · intro o ho
      rw [hI_uI_s ho]
    · intro _
      rw [hI_uI_e]
  · rw [k0] at kk
    obtain ⟨ba, bb⟩ := K.2.2.1 (Or.inr k0)
    have km := mSm rm hp (by omega)
    refine ⟨h, ?_, MR_step g mr hp e7 ?_ ?_ ?_ ?_ ?_, FrN.rf⟩
    · rw [tPs]
      by_cases c : 0 < oN (tA S) ∧ rdN (oH (tA S) (oD (tA S) 0) (sA (oS (tA S)) (tP S))) = sB (oS (tA S)) (tP S)
      · rw [show stpP (tA S) (tP S) = tP S + 1 from if_neg (fun e => e.2 c)]
        have hd0 := (g1.2.1 0 c.1).2.2.2.2
        have d0 : hI h 123 338 = nI (oD (tA S) 0) := mDe rm c.1
        have rr := m_reads g1 rm hd0 ba
        rw [c.2] at rr
        have cn := c.1
        unfold F_X12_does
        simp (disch := omega) only [↓m1_n, li_n, li_0, li_1, lt_y, lt_n, le_y, le_n, eq_n, nL, nLe, nEq, nEm, mEn, nLm, mLn, nLem, mLen, nI_add, nI_mul, nI_sub, nI_m, ib_nI, nx_nI, gd_y, bnd_e, bind_y, ↓reduceIte, hI_uI_o, hI_uI_s, hI_uI_e, hL_uI, hI_uL, hL_uL_o, hL_uL_s, hL_uL_e, and1_a, and1_b, Bool.not_true, Bool.not_false, Nat.zero_add, Nat.add_zero, Nat.add_sub_cancel, eq_self, ne_b, g0_0, g0_1, g0_2, g0_3, g0_4, g0_5, g0_6, g0_7, g0_8, g0_9, n1, n2, g3_2, g3_3, g3_4, g3_5, g3_6, g3_7, g3_8, g3_9, n4, n5, n6, n7, n8, n9, g10_2, g10_3, g10_4, g10_5, n11, n12, n13, n14, g15_2, g15_3, g15_4, g15_5, n16, n17, n18, n19, g40_0, g40_1, g40_2, g44_0, g44_2, g44_3, g44_5, g44_6, g44_10, g51_3, g51_4, g51_5, g51_6, g51_7, g57_3, g57_4, g57_5, g57_6, g57_7, n120, n121, g122_0, g122_4, g122_5, g122_6, g122_7, g122_8, g122_18, g122_19, g122_20, g122_21, g122_24, g122_25, g122_28, g122_29, g122_31, g122_32, g122_33, g122_39, g122_40, g122_41, g122_45, g122_46, g122_47, g122_48, n123, n124, n125, n126, n127, n128, n129, n130, n131, n132, n133, n134, n135, n136, n137, n138, n139, n140, n141, n142, n143, n144, n145, n146, mNc rm, kk, ka, kb, swt, d0, rr, eq_y]
      · rw [show stpP (tA S) (tP S) = sM (oS (tA S)) (tP S) + 1 from if_pos ⟨k0, c⟩]
        by_cases cn : 0 < oN (tA S)
        · have hd0 := (g1.2.1 0 cn).2.2.2.2
          have d0 : hI h 123 338 = nI (oD (tA S) 0) := mDe rm cn
          have rr := m_reads g1 rm hd0 ba
          have rl := rdN_le (oH (tA S) (oD (tA S) 0) (sA (oS (tA S)) (tP S)))
          have ne : ¬ rdN (oH (tA S) (oD (tA S) 0) (sA (oS (tA S)) (tP S))) = sB (oS (tA S)) (tP S) := fun e => c ⟨cn, e⟩
          unfold F_X12_does
          simp (disch := omega) only [↓m1_n, li_n, li_0, li_1, lt_y, lt_n, le_y, le_n, eq_n, nL, nLe, nEq, nEm, mEn, nLm, mLn, nLem, mLen, nI_add, nI_mul, nI_sub, nI_m, ib_nI, nx_nI, gd_y, bnd_e, bind_y, ↓reduceIte, hI_uI_o, hI_uI_s, hI_uI_e, hL_uI, hI_uL, hL_uL_o, hL_uL_s, hL_uL_e, and1_a, and1_b, Bool.not_true, Bool.not_false, Nat.zero_add, Nat.add_zero, Nat.add_sub_cancel, eq_self, ne_b, g0_0, g0_1, g0_2, g0_3, g0_4, g0_5, g0_6, g0_7, g0_8, g0_9, n1, n2, g3_2, g3_3, g3_4, g3_5, g3_6, g3_7, g3_8, g3_9, n4, n5, n6, n7, n8, n9, g10_2, g10_3, g10_4, g10_5, n11, n12, n13, n14, g15_2, g15_3, g15_4, g15_5, n16, n17, n18, n19, g40_0, g40_1, g40_2, g44_0, g44_2, g44_3, g44_5, g44_6, g44_10, g51_3, g51_4, g51_5, g51_6, g51_7, g57_3, g57_4, g57_5, g57_6, g57_7, n120, n121, g122_0, g122_4, g122_5, g122_6, g122_7, g122_8, g122_18, g122_19, g122_20, g122_21, g122_24, g122_25, g122_28, g122_29, g122_31, g122_32, g122_33, g122_39, g122_40, g122_41, g122_45, g122_46, g122_47, g122_48, n123, n124, n125, n126, n127, n128, n129, n130, n131, n132, n133, n134, n135, n136, n137, n138, n139, n140, n141, n142, n143, n144, n145, n146, mNc rm, kk, ka, kb, km, swt, d0, rr, ne, eq_y]
        · unfold F_X12_does
          simp (disch := omega) only [↓m1_n, li_n, li_0, li_1, lt_y, lt_n, le_y, le_n, eq_n, nL, nLe, nEq, nEm, mEn, nLm, mLn, nLem, mLen, nI_add, nI_mul, nI_sub, nI_m, ib_nI, nx_nI, gd_y, bnd_e, bind_y, ↓reduceIte, hI_uI_o, hI_uI_s, hI_uI_e, hL_uI, hI_uL, hL_uL_o, hL_uL_s, hL_uL_e, and1_a, and1_b, Bool.not_true, Bool.not_false, Nat.zero_add, Nat.add_zero, Nat.add_sub_cancel, eq_self, ne_b, g0_0, g0_1, g0_2, g0_3, g0_4, g0_5, g0_6, g0_7, g0_8, g0_9, n1, n2, g3_2, g3_3, g3_4, g3_5, g3_6, g3_7, g3_8, g3_9, n4, n5, n6, n7, n8, n9, g10_2, g10_3, g10_4, g10_5, n11, n12, n13, n14, g15_2, g15_3, g15_4, g15_5, n16, n17, n18, n19, g40_0, g40_1, g40_2, g44_0, g44_2, g44_3, g44_5, g44_6, g44_10, g51_3, g51_4, g51_5, g51_6, g51_7, g57_3, g57_4, g57_5, g57_6, g57_7, n120, n121, g122_0, g122_4, g122_5, g122_6, g122_7, g122_8, g122_18, g122_19, g122_20, g122_21, g122_24, g122_25, g122_28, g122_29, g122_31, g122_32, g122_33, g122_39, g122_40, g122_41, g122_45, g122_46, g122_47, g122_48, n123, n124, n125, n126, n127, n128, n129, n130, n131, n132, n133, n134, n135, n136, n137, n138, n139, n140, n141, n142, n143, n144, n145, n146, mNc rm, kk, ka, kb, km, swt, eq_y]
    · have ea : stpA (tA S) (tP S) = tA S := by
        unfold stpA
        rw [if_neg (by omega), if_neg (by omega), if_neg (by omega), if_neg (by omega)]
      rw [ea]
      exact rm
    · have et : tR (stpS S) = tR S := if_neg (by omega)
      rw [et]
      exact r1
    · have et : tH (stpS S) = tH S := if_neg (by omega)
      rw [et]
      exact r2
    · intro o _
      rfl
    · intro e; omega
/-- from a place on: the ends, then steps -/
noncomputable def goM (h : Hp) (k d : Int32) : Option (Hp × Int32 × Int32) := (F_X12_behindEnds h 122 k).bind (fun r1 => L_X12_run_18 r1.1 122 d r1.2)
theorem m_runL {q : Nat} : ∀ n S h, gdS q S → meS S ≤ n → MR h S → ∃ h', goM h (nI (tP S)) (nI (tD S)) = some (h', nI (tD (finN n S)), nI (tP (finN n S))) ∧ RmH h' 0 (tA (finN n S)) ∧ hL h' 122 36 = tR (finN n S) ∧ hI h' 122 37 = tH (finN n S) ∧ FrN h h' := by
  intro n
  have stop : ∀ S h, gdS q S → MR h S → stpd S → ∃ h', goM h (nI (tP S)) (nI (tD S)) = some (h', nI (tD S), nI (tP S)) ∧ RmH h' 0 (tA S) ∧ hL h' 122 36 = tR S ∧ hI h' 122 37 = tH S ∧ FrN h h' := by
    intro S h g mr st
    obtain ⟨rm, r1, r2, r5⟩ := id mr
    have h80 := g.1.2.2.2.2.1
    have g3 := g.2.2.1
    have e1 : F_X12_behindEnds h 122 (nI (tP S)) = some (h, nI (tP S)) := by
      refine iterW_end ?_
      show B_X12_behindEnds_2 _ _ _ = _
      unfold B_X12_behindEnds_2
      by_cases l : tP S < sN (oS (tA S))
      · have kk := mSk rm l
        have kl := (g.1.2.2.2.2.k l).1
        have n7 : sK (oS (tA S)) (tP S) ≠ 7 := by
          rcases st with e | e
          · omega
          · exact e.1
        simp (disch := omega) only [↓m1_n, li_n, li_0, li_1, lt_y, lt_n, le_y, le_n, eq_n, nL, nLe, nEq, nEm, mEn, nLm, mLn, nLem, mLen, nI_add, nI_mul, nI_sub, nI_m, ib_nI, nx_nI, gd_y, bnd_e, bind_y, ↓reduceIte, hI_uI_o, hI_uI_s, hI_uI_e, hL_uI, hI_uL, hL_uL_o, hL_uL_s, hL_uL_e, and1_a, and1_b, Bool.not_true, Bool.not_false, Nat.zero_add, Nat.add_zero, Nat.add_sub_cancel, eq_self, ne_b, g0_0, g0_1, g0_2, g0_3, g0_4, g0_5, g0_6, g0_7, g0_8, g0_9, n1, n2, g3_2, g3_3, g3_4, g3_5, g3_6, g3_7, g3_8, g3_9, n4, n5, n6, n7, n8, n9, g10_2, g10_3, g10_4, g10_5, n11, n12, n13, n14, g15_2, g15_3, g15_4, g15_5, n16, n17, n18, n19, g40_0, g40_1, g40_2, g44_0, g44_2, g44_3, g44_5, g44_6, g44_10, g51_3, g51_4, g51_5, g51_6, g51_7, g57_3, g57_4, g57_5, g57_6, g57_7, n120, n121, g122_0, g122_4, g122_5, g122_6, g122_7, g122_8, g122_18, g122_19, g122_20, g122_21, g122_24, g122_25, g122_28, g122_29, g122_31, g122_32, g122_33, g122_39, g122_40, g122_41, g122_45, g122_46, g122_47, g122_48, n123, n124, n125, n126, n127, n128, n129, n130, n131, n132, n133, n134, n135, n136, n137, n138, n139, n140, n141, n142, n143, n144, n145, n146, mS0 rm, kk]
      · simp (disch := omega) only [↓m1_n, li_n, li_0, li_1, lt_y, lt_n, le_y, le_n, eq_n, nL, nLe, nEq, nEm, mEn, nLm, mLn, nLem, mLen, nI_add, nI_mul, nI_sub, nI_m, ib_nI, nx_nI, gd_y, bnd_e, bind_y, ↓reduceIte, hI_uI_o, hI_uI_s, hI_uI_e, hL_uI, hI_uL, hL_uL_o, hL_uL_s, hL_uL_e, and1_a, and1_b, Bool.not_true, Bool.not_false, Nat.zero_add, Nat.add_zero, Nat.add_sub_cancel, eq_self, ne_b, g0_0, g0_1, g0_2, g0_3, g0_4, g0_5, g0_6, g0_7, g0_8, g0_9, n1, n2, g3_2, g3_3, g3_4, g3_5, g3_6, g3_7, g3_8, g3_9, n4, n5, n6, n7, n8, n9, g10_2, g10_3, g10_4, g10_5, n11, n12, n13, n14, g15_2, g15_3, g15_4, g15_5, n16, n17, n18, n19, g40_0, g40_1, g40_2, g44_0, g44_2, g44_3, g44_5, g44_6, g44_10, g51_3, g51_4, g51_5, g51_6, g51_7, g57_3, g57_4, g57_5, g57_6, g57_7, n120, n121, g122_0, g122_4, g122_5, g122_6, g122_7, g122_8, g122_18, g122_19, g122_20, g122_21, g122_24, g122_25, g122_28, g122_29, g122_31, g122_32, g122_33, g122_39, g122_40, g122_41, g122_45, g122_46, g122_47, g122_48, n123, n124, n125, n126, n127, n128, n129, n130, n131, n132, n133, n134, n135, n136, n137, n138, n139, n140, n141, n142, n143, n144, n145, n146, mS0 rm]
    refine ⟨h, ?_, rm, r1, r2, FrN.rf⟩
    unfold goM
    rw [e1, Option.bind_some]
    refine iterW_end ?_
    show B_X12_run_18 _ _ _ _ = _
    unfold B_X12_run_18
    by_cases l : tP S < sN (oS (tA S))
    · have d2 : 200 ≤ tD S := by
        rcases st with e | e
        · omega
        · exact e.2
      simp (disch := omega) only [↓m1_n, li_n, li_0, li_1, lt_y, lt_n, le_y, le_n, eq_n, nL, nLe, nEq, nEm, mEn, nLm, mLn, nLem, mLen, nI_add, nI_mul, nI_sub, nI_m, ib_nI, nx_nI, gd_y, bnd_e, bind_y, ↓reduceIte, hI_uI_o, hI_uI_s, hI_uI_e, hL_uI, hI_uL, hL_uL_o, hL_uL_s, hL_uL_e, and1_a, and1_b, Bool.not_true, Bool.not_false, Nat.zero_add, Nat.add_zero, Nat.add_sub_cancel, eq_self, ne_b, g0_0, g0_1, g0_2, g0_3, g0_4, g0_5, g0_6, g0_7, g0_8, g0_9, n1, n2, g3_2, g3_3, g3_4, g3_5, g3_6, g3_7, g3_8, g3_9, n4, n5, n6, n7, n8, n9, g10_2, g10_3, g10_4, g10_5, n11, n12, n13, n14, g15_2, g15_3, g15_4, g15_5, n16, n17, n18, n19, g40_0, g40_1, g40_2, g44_0, g44_2, g44_3, g44_5, g44_6, g44_10, g51_3, g51_4, g51_5, g51_6, g51_7, g57_3, g57_4, g57_5, g57_6, g57_7, n120, n121, g122_0, g122_4, g122_5, g122_6, g122_7, g122_8, g122_18, g122_19, g122_20, g122_21, g122_24, g122_25, g122_28, g122_29, g122_31, g122_32, g122_33, g122_39, g122_40, g122_41, g122_45, g122_46, g122_47, g122_48, n123, n124, n125, n126, n127, n128, n129, n130, n131, n132, n133, n134, n135, n136, n137, n138, n139, n140, n141, n142, n143, n144, n145, n146, mS0 rm]
    · simp (disch := omega) only [↓m1_n, li_n, li_0, li_1, lt_y, lt_n, le_y, le_n, eq_n, nL, nLe, nEq, nEm, mEn, nLm, mLn, nLem, mLen, nI_add, nI_mul, nI_sub, nI_m, ib_nI, nx_nI, gd_y, bnd_e, bind_y, ↓reduceIte, hI_uI_o, hI_uI_s, hI_uI_e, hL_uI, hI_uL, hL_uL_o, hL_uL_s, hL_uL_e, and1_a, and1_b, Bool.not_true, Bool.not_false, Nat.zero_add, Nat.add_zero, Nat.add_sub_cancel, eq_self, ne_b, g0_0, g0_1, g0_2, g0_3, g0_4, g0_5, g0_6, g0_7, g0_8, g0_9, n1, n2, g3_2, g3_3, g3_4, g3_5, g3_6, g3_7, g3_8, g3_9, n4, n5, n6, n7, n8, n9, g10_2, g10_3, g10_4, g10_5, n11, n12, n13, n14, g15_2, g15_3, g15_4, g15_5, n16, n17, n18, n19, g40_0, g40_1, g40_2, g44_0, g44_2, g44_3, g44_5, g44_6, g44_10, g51_3, g51_4, g51_5, g51_6, g51_7, g57_3, g57_4, g57_5, g57_6, g57_7, n120, n121, g122_0, g122_4, g122_5, g122_6, g122_7, g122_8, g122_18, g122_19, g122_20, g122_21, g122_24, g122_25, g122_28, g122_29, g122_31, g122_32, g122_33, g122_39, g122_40, g122_41, g122_45, g122_46, g122_47, g122_48, n123, n124, n125, n126, n127, n128, n129, n130, n131, n132, n133, n134, n135, n136, n137, n138, n139, n140, n141, n142, n143, n144, n145, n146, mS0 rm]
  induction n with
  | zero =>
    intro S h g m mr
    by_cases c : stpd S
    · rw [finN_y c]
      exact stop S h g mr c
    · have := (tr_good g c).2
      omega
  | succ n ih =>
    intro S h g m mr
    by_cases c : stpd S
    · rw [finN_y c]
      exact stop S h g mr c
    · rw [finN_n c]
      have tg := tr_good g c
      have hp : tP S < sN (oS (tA S)) := Nat.lt_of_not_le (fun e => c (Or.inl e))
      have h80 := g.1.2.2.2.2.1
      have g3 := g.2.2.1
      by_cases e7 : sK (oS (tA S)) (tP S) = 7
      · obtain ⟨h1, x1, x2, x3⟩ := m_endS g mr hp e7
        have td : tD (trS S) = tD S := by
          unfold trS
          rw [if_pos e7]
          unfold endS
          split <;> rfl
        obtain ⟨h2, y1, y2, y3, y4, y5⟩ := ih (trS S) h1 tg.1 (by omega) x2
        refine ⟨h2, ?_, y2, y3, y4, x3.trans y5⟩
        rw [← y1, td]
        unfold goM F_X12_behindEnds L_X12_behindEnds_2
        rw [iterW_go x1]
      · have hd : tD S < 200 := Nat.lt_of_not_le (fun e => c (Or.inr ⟨e7, e⟩))
        obtain ⟨h1, x1, x2, x3⟩ := m_stp g mr hp e7 hd
        have eT : trS S = stpS S := if_neg e7
        rw [eT] at tg ⊢
        have td : tD (stpS S) = tD S + 1 := rfl
        obtain ⟨h2, y1, y2, y3, y4, y5⟩ := ih (stpS S) h1 tg.1 (by omega) x2
        refine ⟨h2, ?_, y2, y3, y4, x3.trans y5⟩
        obtain ⟨rm, r1, r2, r5⟩ := id mr
        have kk := mSk rm hp
        have kl := (g.1.2.2.2.2.k hp).1
        have e1 : F_X12_behindEnds h 122 (nI (tP S)) = some (h, nI (tP S)) := by
          refine iterW_end ?_
          show B_X12_behindEnds_2 _ _ _ = _
          unfold B_X12_behindEnds_2
          simp (disch := omega) only [↓m1_n, li_n, li_0, li_1, lt_y, lt_n, le_y, le_n, eq_n, nL, nLe, nEq, nEm, mEn, nLm, mLn, nLem, mLen, nI_add, nI_mul, nI_sub, nI_m, ib_nI, nx_nI, gd_y, bnd_e, bind_y, ↓reduceIte, hI_uI_o, hI_uI_s, hI_uI_e, hL_uI, hI_uL, hL_uL_o, hL_uL_s, hL_uL_e, and1_a, and1_b, Bool.not_true, Bool.not_false, Nat.zero_add, Nat.add_zero, Nat.add_sub_cancel, eq_self, ne_b, g0_0, g0_1, g0_2, g0_3, g0_4, g0_5, g0_6, g0_7, g0_8, g0_9, n1, n2, g3_2, g3_3, g3_4, g3_5, g3_6, g3_7, g3_8, g3_9, n4, n5, n6, n7, n8, n9, g10_2, g10_3, g10_4, g10_5, n11, n12, n13, n14, g15_2, g15_3, g15_4, g15_5, n16, n17, n18, n19, g40_0, g40_1, g40_2, g44_0, g44_2, g44_3, g44_5, g44_6, g44_10, g51_3, g51_4, g51_5, g51_6, g51_7, g57_3, g57_4, g57_5, g57_6, g57_7, n120, n121, g122_0, g122_4, g122_5, g122_6, g122_7, g122_8, g122_18, g122_19, g122_20, g122_21, g122_24, g122_25, g122_28, g122_29, g122_31, g122_32, g122_33, g122_39, g122_40, g122_41, g122_45, g122_46, g122_47, g122_48, n123, n124, n125, n126, n127, n128, n129, n130, n131, n132, n133, n134, n135, n136, n137, n138, n139, n140, n141, n142, n143, n144, n145, n146, mS0 rm, kk]
        rw [td] at y1
        unfold goM at y1
        cases eb : F_X12_behindEnds h1 122 (nI (tP (stpS S))) with
        | none =>
          rw [eb] at y1
          cases y1
        | some r =>
          rw [eb, Option.bind_some] at y1
          unfold goM
          rw [e1, Option.bind_some]
          rw [← y1]
          refine iterW_go ?_
          show B_X12_run_18 _ _ _ _ = _
          unfold B_X12_run_18
          simp (disch := omega) only [↓m1_n, li_n, li_0, li_1, lt_y, lt_n, le_y, le_n, eq_n, nL, nLe, nEq, nEm, mEn, nLm, mLn, nLem, mLen, nI_add, nI_mul, nI_sub, nI_m, ib_nI, nx_nI, gd_y, bnd_e, bind_y, ↓reduceIte, hI_uI_o, hI_uI_s, hI_uI_e, hL_uI, hI_uL, hL_uL_o, hL_uL_s, hL_uL_e, and1_a, and1_b, Bool.not_true, Bool.not_false, Nat.zero_add, Nat.add_zero, Nat.add_sub_cancel, eq_self, ne_b, g0_0, g0_1, g0_2, g0_3, g0_4, g0_5, g0_6, g0_7, g0_8, g0_9, n1, n2, g3_2, g3_3, g3_4, g3_5, g3_6, g3_7, g3_8, g3_9, n4, n5, n6, n7, n8, n9, g10_2, g10_3, g10_4, g10_5, n11, n12, n13, n14, g15_2, g15_3, g15_4, g15_5, n16, n17, n18, n19, g40_0, g40_1, g40_2, g44_0, g44_2, g44_3, g44_5, g44_6, g44_10, g51_3, g51_4, g51_5, g51_6, g51_7, g57_3, g57_4, g57_5, g57_6, g57_7, n120, n121, g122_0, g122_4, g122_5, g122_6, g122_7, g122_8, g122_18, g122_19, g122_20, g122_21, g122_24, g122_25, g122_28, g122_29, g122_31, g122_32, g122_33, g122_39, g122_40, g122_41, g122_45, g122_46, g122_47, g122_48, n123, n124, n125, n126, n127, n128, n129, n130, n131, n132, n133, n134, n135, n136, n137, n138, n139, n140, n141, n142, n143, n144, n145, n146, mS0 rm, x1, eb]
