/-! ===== collate, the loops and the call ===== -/
theorem iterW_inv2 {σ ρ : Type} {f : σ → Option (σ ⊕ ρ)} (P : Nat → σ → Prop) (Q : ρ → Prop) (n : Nat) (hs : ∀ j s, j < n → P j s → (∃ s', f s = some (.inl s') ∧ P (j + 1) s') ∨ ∃ r, f s = some (.inr r) ∧ Q r) (he : ∀ s, P n s → ∃ r, f s = some (.inr r) ∧ Q r) {s : σ} (h0 : P 0 s) : ∃ r, iterW f s = some r ∧ Q r := by
  have key : ∀ d j s, j + d = n → P j s → ∃ r, iterW f s = some r ∧ Q r := by
    intro d
    induction d with
    | zero =>
      intro j s e p
      have : j = n := by omega
      subst this
      obtain ⟨r, e1, e2⟩ := he s p
      exact ⟨r, iterW_end e1, e2⟩
    | succ d ih =>
      intro j s e p
      rcases hs j s (by omega) p with ⟨s', e1, e2⟩ | ⟨r, e1, e2⟩
      · rw [iterW_go e1]
        exact ih (j + 1) s' (by omega) e2
      · exact ⟨r, iterW_end e1, e2⟩
  exact key n 0 s (by omega) h0
theorem cTt_le {A : Ho} {a b : Nat} : cTt A a b ≤ oN A := by
  have := cT_rst (coP A a b (nI 0)) (coP A a b (nI 1)) coP_dj (oN A)
  unfold cTt cT
  omega
theorem cRs_x {A : Ho} {q a b j : Nat} (ok : HoOk q A) (hj : j < oN A) : cRs A a b j = (decide (oK A (oD A j) = mN) || !(fld A (oD A j) a b).isSome) := by
  have hd := (ok.2.1 j hj).2.2.2.2
  have hk : oK A (oD A j) = mN ∨ oK A (oD A j) = nI 0 ∨ oK A (oD A j) = nI 1 := (ok.2.1 _ hd).2.2.1
  unfold cRs rst coP
  have t1 : ¬ nI 0 = nI 1 := by decide
  have t2 : ¬ nI 1 = nI 0 := by decide
  have t3 : ¬ nI 0 = mN := by decide
  have t4 : ¬ nI 1 = mN := by decide
  have t5 : ¬ mN = nI 0 := by decide
  have t6 : ¬ mN = nI 1 := by decide
  rcases hk with e | e | e <;> cases (fld A (oD A j) a b).isSome <;> simp [e, t1, t2, t3, t4, t5, t6]
theorem c_coll1 {h : Hp} {A : Ho} {q a b : Nat} (ok : HoOk q A) (rc : RcH h 3 A) (hab : a ≤ b) (hb : b < 8) (h6 : b < a + 6) : ∃ h', L_X3_collateBy_23 h 40 3 (nI a) (nI b) (nI 0) (nI (cSt A a b 0).1) (nI (cSt A a b 0).2) = some (h', nI (cTt A a b)) ∧ (∀ d, d ≠ 41 → hI h' d = hI h d) ∧ hL h' = hL h ∧ ∀ k, k < cTt A a b → hI h' 41 k = nI (oD A (cOut A a b k)) := by
  have hA := ok.1
  have hT := cTt_le (A := A) (a := a) (b := b)
  have key : ∃ r, L_X3_collateBy_23 h 40 3 (nI a) (nI b) (nI 0) (nI (cSt A a b 0).1) (nI (cSt A a b 0).2) = some r ∧ ∃ h', r = (h', nI (cTt A a b)) ∧ (∀ d, d ≠ 41 → hI h' d = hI h d) ∧ hL h' = hL h ∧ ∀ k, k < cTt A a b → hI h' 41 k = nI (oD A (cOut A a b k)) := by
    refine iterW_inv (fun j s => s.2.1 = nI j ∧ s.2.2.1 = nI (cSt A a b j).1 ∧ s.2.2.2 = nI (cSt A a b j).2 ∧ (∀ d, d ≠ 41 → hI s.1 d = hI h d) ∧ hL s.1 = hL h ∧ ∀ k, k < j → hI s.1 41 k = nI (oD A (cOut A a b k))) _ (cTt A a b) (fun j s hj p => ?_) (fun s p => ?_) ⟨rfl, rfl, rfl, fun _ _ => rfl, rfl, fun k hk => by omega⟩
    · obtain ⟨p1, p2, p3, p4, p5, p6⟩ := p
      have rs : RcH s.1 3 A := RcH_congr (fun d a b => p4 d (by omega)) rc
      have o := cst_ok (coP A a b (nI 0)) (coP A a b (nI 1)) (coV A a b) (oN A) j (Nat.le_of_lt hj)
      have v1 : coV A a b (cSt A a b j).1 < 1000000 := fv_lt h6
      have v2 : coV A a b (cSt A a b j).2 < 1000000 := fv_lt h6
      have rs' : RcH (uI s.1 41 j (nI (oD A (cOut A a b j)))) 3 A := RcH_congr (fun d a b => hI_uI_o (by omega)) rs
      have fr : ∀ d, d ≠ 41 → hI (uI s.1 41 j (nI (oD A (cOut A a b j)))) d = hI h d := fun d hd => by rw [hI_uI_o hd]; exact p4 d hd
      have wr : ∀ k, k < j + 1 → hI (uI s.1 41 j (nI (oD A (cOut A a b j)))) 41 k = nI (oD A (cOut A a b k)) := fun k hk => by
        by_cases c : k = j
        · subst c
          rw [hI_uI_e]
        · rw [hI_uI_s c]
          exact p6 k (by omega)
      refine ⟨(uI s.1 41 j (nI (oD A (cOut A a b j))), nI (j + 1), nI (cSt A a b (j + 1)).1, nI (cSt A a b (j + 1)).2), ?_, rfl, rfl, rfl, fr, p5, wr⟩
      show B_X3_collateBy_23 _ _ _ _ _ _ _ _ = _
      unfold B_X3_collateBy_23 J_X3_collateBy_50 F_X3_zeroComesFirst
      rw [p1, p2, p3]
      rcases cS_x hj with ⟨f, l1, l2, l3, e1, e2⟩ | ⟨f, l1, l2, l3, e1, e2⟩
      · have d1 := (ok.2.1 _ l1).2.2.2.2
        have q1 := coP_num (o.2.2.1 l1)
        rw [e1] at rs'
        rw [e2, e1]
        by_cases c : (cSt A a b j).2 < oN A
        · have d2 := (ok.2.1 _ c).2.2.2.2
          have q2 := coP_num (o.2.2.2.1 c)
          have l4 := l3 c
          have q1' : oI (fld A (oD A (cSt A a b j).1) a b) = nI (coV A a b (cSt A a b j).1) := q1
          have q2' : oI (fld A (oD A (cSt A a b j).2) a b) = nI (coV A a b (cSt A a b j).2) := q2
          simp (disch := omega) only [↓m1_n, li_n, li_0, li_1, lt_y, lt_n, le_y, le_n, eq_n, nL, nLe, nEq, nEm, mEn, nLm, mLn, nLem, mLen, nI_add, nI_mul, nI_sub, nI_m, ib_nI, nx_nI, gd_y, bnd_e, bind_y, ↓reduceIte, hI_uI_o, hI_uI_s, hI_uI_e, hL_uI, hI_uL, hL_uL_o, hL_uL_s, hL_uL_e, and1_a, and1_b, Bool.not_true, Bool.not_false, Nat.zero_add, Nat.add_zero, Nat.add_sub_cancel, eq_self, ne_b, g0_0, g0_1, g0_2, g0_3, g0_4, g0_5, g0_6, g0_7, g0_8, g0_9, n1, n2, g3_2, g3_3, g3_4, g3_5, g3_6, g3_7, g3_8, g3_9, n4, n5, n6, n7, n8, n9, g10_2, g10_3, g10_4, g10_5, n11, n12, n13, n14, g15_2, g15_3, g15_4, g15_5, n16, n17, n18, n19, g40_0, g40_1, g40_2, g44_0, g44_2, g44_3, g44_5, g44_6, g44_10, g51_3, g51_4, g51_5, g51_6, g51_7, g57_3, g57_4, g57_5, g57_6, g57_7, n120, n121, g122_0, g122_4, g122_5, g122_6, g122_7, g122_8, g122_18, g122_19, g122_20, g122_21, g122_24, g122_25, g122_28, g122_29, g122_31, g122_32, g122_33, g122_39, g122_40, g122_41, g122_45, g122_46, g122_47, g122_48, n123, n124, n125, n126, n127, n128, n129, n130, n131, n132, n133, n134, n135, n136, n137, n138, n139, n140, n141, n142, n143, n144, n145, n146, cNn rs, cDe rs, c_fieldOf ok rs, q1', q2', g40_0, n41, c_next ok rs']
        · simp (disch := omega) only [↓m1_n, li_n, li_0, li_1, lt_y, lt_n, le_y, le_n, eq_n, nL, nLe, nEq, nEm, mEn, nLm, mLn, nLem, mLen, nI_add, nI_mul, nI_sub, nI_m, ib_nI, nx_nI, gd_y, bnd_e, bind_y, ↓reduceIte, hI_uI_o, hI_uI_s, hI_uI_e, hL_uI, hI_uL, hL_uL_o, hL_uL_s, hL_uL_e, and1_a, and1_b, Bool.not_true, Bool.not_false, Nat.zero_add, Nat.add_zero, Nat.add_sub_cancel, eq_self, ne_b, g0_0, g0_1, g0_2, g0_3, g0_4, g0_5, g0_6, g0_7, g0_8, g0_9, n1, n2, g3_2, g3_3, g3_4, g3_5, g3_6, g3_7, g3_8, g3_9, n4, n5, n6, n7, n8, n9, g10_2, g10_3, g10_4, g10_5, n11, n12, n13, n14, g15_2, g15_3, g15_4, g15_5, n16, n17, n18, n19, g40_0, g40_1, g40_2, g44_0, g44_2, g44_3, g44_5, g44_6, g44_10, g51_3, g51_4, g51_5, g51_6, g51_7, g57_3, g57_4, g57_5, g57_6, g57_7, n120, n121, g122_0, g122_4, g122_5, g122_6, g122_7, g122_8, g122_18, g122_19, g122_20, g122_21, g122_24, g122_25, g122_28, g122_29, g122_31, g122_32, g122_33, g122_39, g122_40, g122_41, g122_45, g122_46, g122_47, g122_48, n123, n124, n125, n126, n127, n128, n129, n130, n131, n132, n133, n134, n135, n136, n137, n138, n139, n140, n141, n142, n143, n144, n145, n146, cNn rs, cDe rs, g40_0, n41, c_next ok rs']
      · have d1 := (ok.2.1 _ l1).2.2.2.2
        have q1 := coP_num (o.2.2.2.1 l1)
        rw [e1] at rs'
        rw [e2, e1]
        by_cases c : (cSt A a b j).1 < oN A
        · have d2 := (ok.2.1 _ c).2.2.2.2
          have q2 := coP_num (o.2.2.1 c)
          have l4 := l3 c
          have q1' : oI (fld A (oD A (cSt A a b j).2) a b) = nI (coV A a b (cSt A a b j).2) := q1
          have q2' : oI (fld A (oD A (cSt A a b j).1) a b) = nI (coV A a b (cSt A a b j).1) := q2
          simp (disch := omega) only [↓m1_n, li_n, li_0, li_1, lt_y, lt_n, le_y, le_n, eq_n, nL, nLe, nEq, nEm, mEn, nLm, mLn, nLem, mLen, nI_add, nI_mul, nI_sub, nI_m, ib_nI, nx_nI, gd_y, bnd_e, bind_y, ↓reduceIte, hI_uI_o, hI_uI_s, hI_uI_e, hL_uI, hI_uL, hL_uL_o, hL_uL_s, hL_uL_e, and1_a, and1_b, Bool.not_true, Bool.not_false, Nat.zero_add, Nat.add_zero, Nat.add_sub_cancel, eq_self, ne_b, g0_0, g0_1, g0_2, g0_3, g0_4, g0_5, g0_6, g0_7, g0_8, g0_9, n1, n2, g3_2, g3_3, g3_4, g3_5, g3_6, g3_7, g3_8, g3_9, n4, n5, n6, n7, n8, n9, g10_2, g10_3, g10_4, g10_5, n11, n12, n13, n14, g15_2, g15_3, g15_4, g15_5, n16, n17, n18, n19, g40_0, g40_1, g40_2, g44_0, g44_2, g44_3, g44_5, g44_6, g44_10, g51_3, g51_4, g51_5, g51_6, g51_7, g57_3, g57_4, g57_5, g57_6, g57_7, n120, n121, g122_0, g122_4, g122_5, g122_6, g122_7, g122_8, g122_18, g122_19, g122_20, g122_21, g122_24, g122_25, g122_28, g122_29, g122_31, g122_32, g122_33, g122_39, g122_40, g122_41, g122_45, g122_46, g122_47, g122_48, n123, n124, n125, n126, n127, n128, n129, n130, n131, n132, n133, n134, n135, n136, n137, n138, n139, n140, n141, n142, n143, n144, n145, n146, cNn rs, cDe rs, c_fieldOf ok rs, q1', q2', g40_0, n41, c_next ok rs']
        · simp (disch := omega) only [↓m1_n, li_n, li_0, li_1, lt_y, lt_n, le_y, le_n, eq_n, nL, nLe, nEq, nEm, mEn, nLm, mLn, nLem, mLen, nI_add, nI_mul, nI_sub, nI_m, ib_nI, nx_nI, gd_y, bnd_e, bind_y, ↓reduceIte, hI_uI_o, hI_uI_s, hI_uI_e, hL_uI, hI_uL, hL_uL_o, hL_uL_s, hL_uL_e, and1_a, and1_b, Bool.not_true, Bool.not_false, Nat.zero_add, Nat.add_zero, Nat.add_sub_cancel, eq_self, ne_b, g0_0, g0_1, g0_2, g0_3, g0_4, g0_5, g0_6, g0_7, g0_8, g0_9, n1, n2, g3_2, g3_3, g3_4, g3_5, g3_6, g3_7, g3_8, g3_9, n4, n5, n6, n7, n8, n9, g10_2, g10_3, g10_4, g10_5, n11, n12, n13, n14, g15_2, g15_3, g15_4, g15_5, n16, n17, n18, n19, g40_0, g40_1, g40_2, g44_0, g44_2, g44_3, g44_5, g44_6, g44_10, g51_3, g51_4, g51_5, g51_6, g51_7, g57_3, g57_4, g57_5, g57_6, g57_7, n120, n121, g122_0, g122_4, g122_5, g122_6, g122_7, g122_8, g122_18, g122_19, g122_20, g122_21, g122_24, g122_25, g122_28, g122_29, g122_31, g122_32, g122_33, g122_39, g122_40, g122_41, g122_45, g122_46, g122_47, g122_48, n123, n124, n125, n126, n127, n128, n129, n130, n131, n132, n133, n134, n135, n136, n137, n138, n139, n140, n141, n142, n143, n144, n145, n146, cNn rs, cDe rs, g40_0, n41, c_next ok rs']
    · obtain ⟨p1, p2, p3, p4, p5, p6⟩ := p
      have rs : RcH s.1 3 A := RcH_congr (fun d a b => p4 d (by omega)) rc
      have e := cst_end (coP A a b (nI 0)) (coP A a b (nI 1)) (coV A a b) (oN A)
      have e1 : (cSt A a b (cTt A a b)).1 = oN A := e.1
      have e2 : (cSt A a b (cTt A a b)).2 = oN A := e.2
      refine ⟨(s.1, nI (cTt A a b)), ?_, s.1, rfl, p4, p5, p6⟩
      show B_X3_collateBy_23 _ _ _ _ _ _ _ _ = _
      unfold B_X3_collateBy_23
      rw [p1, p2, p3, e1, e2]
      by_cases c : oN A ≤ cTt A a b
      · simp (disch := omega) only [↓m1_n, li_n, li_0, li_1, lt_y, lt_n, le_y, le_n, eq_n, nL, nLe, nEq, nEm, mEn, nLm, mLn, nLem, mLen, nI_add, nI_mul, nI_sub, nI_m, ib_nI, nx_nI, gd_y, bnd_e, bind_y, ↓reduceIte, hI_uI_o, hI_uI_s, hI_uI_e, hL_uI, hI_uL, hL_uL_o, hL_uL_s, hL_uL_e, and1_a, and1_b, Bool.not_true, Bool.not_false, Nat.zero_add, Nat.add_zero, Nat.add_sub_cancel, eq_self, ne_b, g0_0, g0_1, g0_2, g0_3, g0_4, g0_5, g0_6, g0_7, g0_8, g0_9, n1, n2, g3_2, g3_3, g3_4, g3_5, g3_6, g3_7, g3_8, g3_9, n4, n5, n6, n7, n8, n9, g10_2, g10_3, g10_4, g10_5, n11, n12, n13, n14, g15_2, g15_3, g15_4, g15_5, n16, n17, n18, n19, g40_0, g40_1, g40_2, g44_0, g44_2, g44_3, g44_5, g44_6, g44_10, g51_3, g51_4, g51_5, g51_6, g51_7, g57_3, g57_4, g57_5, g57_6, g57_7, n120, n121, g122_0, g122_4, g122_5, g122_6, g122_7, g122_8, g122_18, g122_19, g122_20, g122_21, g122_24, g122_25, g122_28, g122_29, g122_31, g122_32, g122_33, g122_39, g122_40, g122_41, g122_45, g122_46, g122_47, g122_48, n123, n124, n125, n126, n127, n128, n129, n130, n131, n132, n133, n134, n135, n136, n137, n138, n139, n140, n141, n142, n143, n144, n145, n146, cNn rs, c]
      · simp (disch := omega) only [↓m1_n, li_n, li_0, li_1, lt_y, lt_n, le_y, le_n, eq_n, nL, nLe, nEq, nEm, mEn, nLm, mLn, nLem, mLen, nI_add, nI_mul, nI_sub, nI_m, ib_nI, nx_nI, gd_y, bnd_e, bind_y, ↓reduceIte, hI_uI_o, hI_uI_s, hI_uI_e, hL_uI, hI_uL, hL_uL_o, hL_uL_s, hL_uL_e, and1_a, and1_b, Bool.not_true, Bool.not_false, Nat.zero_add, Nat.add_zero, Nat.add_sub_cancel, eq_self, ne_b, g0_0, g0_1, g0_2, g0_3, g0_4, g0_5, g0_6, g0_7, g0_8, g0_9, n1, n2, g3_2, g3_3, g3_4, g3_5, g3_6, g3_7, g3_8, g3_9, n4, n5, n6, n7, n8, n9, g10_2, g10_3, g10_4, g10_5, n11, n12, n13, n14, g15_2, g15_3, g15_4, g15_5, n16, n17, n18, n19, g40_0, g40_1, g40_2, g44_0, g44_2, g44_3, g44_5, g44_6, g44_10, g51_3, g51_4, g51_5, g51_6, g51_7, g57_3, g57_4, g57_5, g57_6, g57_7, n120, n121, g122_0, g122_4, g122_5, g122_6, g122_7, g122_8, g122_18, g122_19, g122_20, g122_21, g122_24, g122_25, g122_28, g122_29, g122_31, g122_32, g122_33, g122_39, g122_40, g122_41, g122_45, g122_46, g122_47, g122_48, n123, n124, n125, n126, n127, n128, n129, n130, n131, n132, n133, n134, n135, n136, n137, n138, n139, n140, n141, n142, n143, n144, n145, n146, cNn rs, c]
  obtain ⟨r, x1, h3, x2, x3⟩ := key
  exact ⟨h3, by rw [x1, x2], x3⟩
theorem c_coll2 {h : Hp} {A : Ho} {q a b : Nat} (ok : HoOk q A) (rc : RcH h 3 A) (hab : a ≤ b) (hb : b < 8) (h6 : b < a + 6) (h41 : ∀ k, k < cTt A a b → hI h 41 k = nI (oD A (cOut A a b k))) : ∃ h', L_X3_collateBy_138 h 40 3 (nI a) (nI b) (nI (oN A - cTt A a b)) (nI (cTt A a b)) (nI 0) = some (h', nI (oN A - cTt A a b)) ∧ (∀ d, d ≠ 41 → d ≠ 9 → hI h' d = hI h d) ∧ hL h' = hL h ∧ ∀ k, k < oN A → hI h' 9 k = nI (oD A (cPl A a b k)) := by
  have hA := ok.1
  have hT := cTt_le (A := A) (a := a) (b := b)
  have eR := cT_rst (coP A a b (nI 0)) (coP A a b (nI 1)) coP_dj (oN A)
  have eR' : cTt A a b + cnt (cRs A a b) (oN A) = oN A := eR
  have fin : ∀ s : Hp, (∀ d, d ≠ 41 → hI s d = hI h d) → hL s = hL h → (∀ k, k < cTt A a b → hI s 41 k = nI (oD A (cOut A a b k))) → (∀ i, i < oN A → cRs A a b i = true → hI s 41 (cTt A a b + cnt (cRs A a b) i) = nI (oD A i)) → ∃ r, (some (Sum.inr (sI s 9 (va_cpy (hI s 41) (hI s 9) 0 0 (oN A)), nI (oN A - cTt A a b))) : Option ((Hp × Int32 × Int32) ⊕ (Hp × Int32))) = some (.inr r) ∧ ∃ h', r = (h', nI (oN A - cTt A a b)) ∧ (∀ d, d ≠ 41 → d ≠ 9 → hI h' d = hI h d) ∧ hL h' = hL h ∧ ∀ k, k < oN A → hI h' 9 k = nI (oD A (cPl A a b k)) := by
    intro s f1 f2 f3 f4
    refine ⟨_, rfl, _, rfl, fun d d1 d2 => by rw [hI_sI_o d2]; exact f1 d d1, by rw [hL_sI]; exact f2, fun k hk => ?_⟩
    rw [hI_sI_e, cpy0 hk]
    exact plc1_all (coP A a b (nI 0)) (coP A a b (nI 1)) (coV A a b) (oN A) coP_dj (D := oD A) f3 f4 hk
  have key : ∃ r, L_X3_collateBy_138 h 40 3 (nI a) (nI b) (nI (oN A - cTt A a b)) (nI (cTt A a b)) (nI 0) = some r ∧ ∃ h', r = (h', nI (oN A - cTt A a b)) ∧ (∀ d, d ≠ 41 → d ≠ 9 → hI h' d = hI h d) ∧ hL h' = hL h ∧ ∀ k, k < oN A → hI h' 9 k = nI (oD A (cPl A a b k)) := by
    refine iterW_inv2 (fun j s => s.2.2 = nI j ∧ s.2.1 = nI (cTt A a b + cnt (cRs A a b) j) ∧ (∀ d, d ≠ 41 → hI s.1 d = hI h d) ∧ hL s.1 = hL h ∧ (∀ k, k < cTt A a b → hI s.1 41 k = nI (oD A (cOut A a b k))) ∧ ∀ i, i < j → cRs A a b i = true → hI s.1 41 (cTt A a b + cnt (cRs A a b) i) = nI (oD A i)) _ (oN A) (fun j s hj p => ?_) (fun s p => ?_) ⟨rfl, rfl, fun _ _ => rfl, rfl, h41, fun k hk => by omega⟩
    · obtain ⟨p1, p2, p3, p4, p5, p6⟩ := p
      have rs : RcH s.1 3 A := RcH_congr (fun d a b => p3 d (by omega)) rc
      have hd := (ok.2.1 j hj).2.2.2.2
      have hl : ∀ w, fld A (oD A j) a b = some w → w < 1000000 := fun w => fld_lt h6
      have RX := cRs_x (a := a) (b := b) ok hj
      have cl := cnt_le (cRs A a b) j
      by_cases full : oN A ≤ cTt A a b + cnt (cRs A a b) j
      · refine Or.inr ?_
        obtain ⟨r, e1, e2⟩ := fin s.1 p3 p4 p5 (fun i hi hr => p6 i (by
          by_cases c : i < j
          · exact c
          · exfalso
            have h1 := cnt_lt hi hr
            have h2 : cnt (cRs A a b) j ≤ cnt (cRs A a b) i := by
              by_cases cc : i = j
              · rw [cc]; exact Nat.le_refl _
              · have := cnt_mono (P := cRs A a b) (Q := cRs A a b) (fun _ e => e) i
                obtain ⟨d, rfl⟩ : ∃ d, i = j + d := ⟨i - j, by omega⟩
                clear this h1 hi hr c cc
                induction d with
                | zero => exact Nat.le_refl _
                | succ d ih => rw [← Nat.add_assoc, cnt]; omega
            omega) hr)
        refine ⟨r, ?_, e2⟩
        rw [← e1]
        show B_X3_collateBy_138 _ _ _ _ _ _ _ _ = _
        unfold B_X3_collateBy_138
        rw [p1, p2]
        simp (disch := omega) only [↓m1_n, li_n, li_0, li_1, lt_y, lt_n, le_y, le_n, eq_n, nL, nLe, nEq, nEm, mEn, nLm, mLn, nLem, mLen, nI_add, nI_mul, nI_sub, nI_m, ib_nI, nx_nI, gd_y, bnd_e, bind_y, ↓reduceIte, hI_uI_o, hI_uI_s, hI_uI_e, hL_uI, hI_uL, hL_uL_o, hL_uL_s, hL_uL_e, and1_a, and1_b, Bool.not_true, Bool.not_false, Nat.zero_add, Nat.add_zero, Nat.add_sub_cancel, eq_self, ne_b, g0_0, g0_1, g0_2, g0_3, g0_4, g0_5, g0_6, g0_7, g0_8, g0_9, n1, n2, g3_2, g3_3, g3_4, g3_5, g3_6, g3_7, g3_8, g3_9, n4, n5, n6, n7, n8, n9, g10_2, g10_3, g10_4, g10_5, n11, n12, n13, n14, g15_2, g15_3, g15_4, g15_5, n16, n17, n18, n19, g40_0, g40_1, g40_2, g44_0, g44_2, g44_3, g44_5, g44_6, g44_10, g51_3, g51_4, g51_5, g51_6, g51_7, g57_3, g57_4, g57_5, g57_6, g57_7, n120, n121, g122_0, g122_4, g122_5, g122_6, g122_7, g122_8, g122_18, g122_19, g122_20, g122_21, g122_24, g122_25, g122_28, g122_29, g122_31, g122_32, g122_33, g122_39, g122_40, g122_41, g122_45, g122_46, g122_47, g122_48, n123, n124, n125, n126, n127, n128, n129, n130, n131, n132, n133, n134, n135, n136, n137, n138, n139, n140, n141, n142, n143, n144, n145, n146, cNn rs, g40_0, n41, cpk, full]
      · refine Or.inl ?_
        by_cases c : cRs A a b j = true
        · refine ⟨(uI s.1 41 (cTt A a b + cnt (cRs A a b) j) (nI (oD A j)), nI (cTt A a b + cnt (cRs A a b) j + 1), nI (j + 1)), ?_, rfl, ?_, fun d hd => by rw [hI_uI_o hd]; exact p3 d hd, p4, fun k hk => by rw [hI_uI_s (by omega)]; exact p5 k hk, fun i hi hr => ?_⟩
          · show B_X3_collateBy_138 _ _ _ _ _ _ _ _ = _
            unfold B_X3_collateBy_138
            rw [p1, p2]
            rw [RX] at c
            by_cases c1 : oK A (oD A j) = mN
            · simp (disch := omega) only [↓m1_n, li_n, li_0, li_1, lt_y, lt_n, le_y, le_n, eq_n, nL, nLe, nEq, nEm, mEn, nLm, mLn, nLem, mLen, nI_add, nI_mul, nI_sub, nI_m, ib_nI, nx_nI, gd_y, bnd_e, bind_y, ↓reduceIte, hI_uI_o, hI_uI_s, hI_uI_e, hL_uI, hI_uL, hL_uL_o, hL_uL_s, hL_uL_e, and1_a, and1_b, Bool.not_true, Bool.not_false, Nat.zero_add, Nat.add_zero, Nat.add_sub_cancel, eq_self, ne_b, g0_0, g0_1, g0_2, g0_3, g0_4, g0_5, g0_6, g0_7, g0_8, g0_9, n1, n2, g3_2, g3_3, g3_4, g3_5, g3_6, g3_7, g3_8, g3_9, n4, n5, n6, n7, n8, n9, g10_2, g10_3, g10_4, g10_5, n11, n12, n13, n14, g15_2, g15_3, g15_4, g15_5, n16, n17, n18, n19, g40_0, g40_1, g40_2, g44_0, g44_2, g44_3, g44_5, g44_6, g44_10, g51_3, g51_4, g51_5, g51_6, g51_7, g57_3, g57_4, g57_5, g57_6, g57_7, n120, n121, g122_0, g122_4, g122_5, g122_6, g122_7, g122_8, g122_18, g122_19, g122_20, g122_21, g122_24, g122_25, g122_28, g122_29, g122_31, g122_32, g122_33, g122_39, g122_40, g122_41, g122_45, g122_46, g122_47, g122_48, n123, n124, n125, n126, n127, n128, n129, n130, n131, n132, n133, n134, n135, n136, n137, n138, n139, n140, n141, n142, n143, n144, n145, n146, cNn rs, cDe rs, cIn rs, g40_0, n41, c1]
            · have c2 : (fld A (oD A j) a b).isSome = false := by
                rw [decide_eq_false c1, Bool.false_or] at c
                cases e : (fld A (oD A j) a b).isSome
                · rfl
                · rw [e] at c; cases c
              simp (disch := omega) only [↓m1_n, li_n, li_0, li_1, lt_y, lt_n, le_y, le_n, eq_n, nL, nLe, nEq, nEm, mEn, nLm, mLn, nLem, mLen, nI_add, nI_mul, nI_sub, nI_m, ib_nI, nx_nI, gd_y, bnd_e, bind_y, ↓reduceIte, hI_uI_o, hI_uI_s, hI_uI_e, hL_uI, hI_uL, hL_uL_o, hL_uL_s, hL_uL_e, and1_a, and1_b, Bool.not_true, Bool.not_false, Nat.zero_add, Nat.add_zero, Nat.add_sub_cancel, eq_self, ne_b, g0_0, g0_1, g0_2, g0_3, g0_4, g0_5, g0_6, g0_7, g0_8, g0_9, n1, n2, g3_2, g3_3, g3_4, g3_5, g3_6, g3_7, g3_8, g3_9, n4, n5, n6, n7, n8, n9, g10_2, g10_3, g10_4, g10_5, n11, n12, n13, n14, g15_2, g15_3, g15_4, g15_5, n16, n17, n18, n19, g40_0, g40_1, g40_2, g44_0, g44_2, g44_3, g44_5, g44_6, g44_10, g51_3, g51_4, g51_5, g51_6, g51_7, g57_3, g57_4, g57_5, g57_6, g57_7, n120, n121, g122_0, g122_4, g122_5, g122_6, g122_7, g122_8, g122_18, g122_19, g122_20, g122_21, g122_24, g122_25, g122_28, g122_29, g122_31, g122_32, g122_33, g122_39, g122_40, g122_41, g122_45, g122_46, g122_47, g122_48, n123, n124, n125, n126, n127, n128, n129, n130, n131, n132, n133, n134, n135, n136, n137, n138, n139, n140, n141, n142, n143, n144, n145, n146, cNn rs, cDe rs, cIn rs, g40_0, n41, c1, c_fieldOf ok rs, oI_ism hl, c2]
          · show nI _ = nI _
            rw [cnt, if_pos c, ← Nat.add_assoc]
          · by_cases ci : i = j
            · subst ci
              rw [hI_uI_e]
            · have := cnt_lt (show i < j by omega) hr
              rw [hI_uI_s (by omega)]
              exact p6 i (by omega) hr
        · refine ⟨(s.1, nI (cTt A a b + cnt (cRs A a b) j), nI (j + 1)), ?_, rfl, ?_, p3, p4, p5, fun i hi hr => p6 i (by
            by_cases ci : i = j
            · subst ci; exact absurd hr c
            · omega) hr⟩
          · show B_X3_collateBy_138 _ _ _ _ _ _ _ _ = _
            unfold B_X3_collateBy_138
            rw [p1, p2]
            rw [RX] at c
            have c1 : ¬ oK A (oD A j) = mN := fun e => c (by simp [e])
            have c2 : (fld A (oD A j) a b).isSome = true := by
              cases e : (fld A (oD A j) a b).isSome
              · exact absurd (by simp [e]) c
              · rfl
            simp (disch := omega) only [↓m1_n, li_n, li_0, li_1, lt_y, lt_n, le_y, le_n, eq_n, nL, nLe, nEq, nEm, mEn, nLm, mLn, nLem, mLen, nI_add, nI_mul, nI_sub, nI_m, ib_nI, nx_nI, gd_y, bnd_e, bind_y, ↓reduceIte, hI_uI_o, hI_uI_s, hI_uI_e, hL_uI, hI_uL, hL_uL_o, hL_uL_s, hL_uL_e, and1_a, and1_b, Bool.not_true, Bool.not_false, Nat.zero_add, Nat.add_zero, Nat.add_sub_cancel, eq_self, ne_b, g0_0, g0_1, g0_2, g0_3, g0_4, g0_5, g0_6, g0_7, g0_8, g0_9, n1, n2, g3_2, g3_3, g3_4, g3_5, g3_6, g3_7, g3_8, g3_9, n4, n5, n6, n7, n8, n9, g10_2, g10_3, g10_4, g10_5, n11, n12, n13, n14, g15_2, g15_3, g15_4, g15_5, n16, n17, n18, n19, g40_0, g40_1, g40_2, g44_0, g44_2, g44_3, g44_5, g44_6, g44_10, g51_3, g51_4, g51_5, g51_6, g51_7, g57_3, g57_4, g57_5, g57_6, g57_7, n120, n121, g122_0, g122_4, g122_5, g122_6, g122_7, g122_8, g122_18, g122_19, g122_20, g122_21, g122_24, g122_25, g122_28, g122_29, g122_31, g122_32, g122_33, g122_39, g122_40, g122_41, g122_45, g122_46, g122_47, g122_48, n123, n124, n125, n126, n127, n128, n129, n130, n131, n132, n133, n134, n135, n136, n137, n138, n139, n140, n141, n142, n143, n144, n145, n146, cNn rs, cDe rs, cIn rs, g40_0, n41, c1, c_fieldOf ok rs, oI_ism hl, c2, Bool.true_eq_false]
          · show nI _ = nI _
            rw [cnt, if_neg c, Nat.add_zero]
    · obtain ⟨p1, p2, p3, p4, p5, p6⟩ := p
      have rs : RcH s.1 3 A := RcH_congr (fun d a b => p3 d (by omega)) rc
      obtain ⟨r, e1, e2⟩ := fin s.1 p3 p4 p5 p6
      refine ⟨r, ?_, e2⟩
      rw [← e1]
      show B_X3_collateBy_138 _ _ _ _ _ _ _ _ = _
      unfold B_X3_collateBy_138
      rw [p1, p2]
      simp (disch := omega) only [↓m1_n, li_n, li_0, li_1, lt_y, lt_n, le_y, le_n, eq_n, nL, nLe, nEq, nEm, mEn, nLm, mLn, nLem, mLen, nI_add, nI_mul, nI_sub, nI_m, ib_nI, nx_nI, gd_y, bnd_e, bind_y, ↓reduceIte, hI_uI_o, hI_uI_s, hI_uI_e, hL_uI, hI_uL, hL_uL_o, hL_uL_s, hL_uL_e, and1_a, and1_b, Bool.not_true, Bool.not_false, Nat.zero_add, Nat.add_zero, Nat.add_sub_cancel, eq_self, ne_b, g0_0, g0_1, g0_2, g0_3, g0_4, g0_5, g0_6, g0_7, g0_8, g0_9, n1, n2, g3_2, g3_3, g3_4, g3_5, g3_6, g3_7, g3_8, g3_9, n4, n5, n6, n7, n8, n9, g10_2, g10_3, g10_4, g10_5, n11, n12, n13, n14, g15_2, g15_3, g15_4, g15_5, n16, n17, n18, n19, g40_0, g40_1, g40_2, g44_0, g44_2, g44_3, g44_5, g44_6, g44_10, g51_3, g51_4, g51_5, g51_6, g51_7, g57_3, g57_4, g57_5, g57_6, g57_7, n120, n121, g122_0, g122_4, g122_5, g122_6, g122_7, g122_8, g122_18, g122_19, g122_20, g122_21, g122_24, g122_25, g122_28, g122_29, g122_31, g122_32, g122_33, g122_39, g122_40, g122_41, g122_45, g122_46, g122_47, g122_48, n123, n124, n125, n126, n127, n128, n129, n130, n131, n132, n133, n134, n135, n136, n137, n138, n139, n140, n141, n142, n143, n144, n145, n146, cNn rs, g40_0, n41, cpk]
  obtain ⟨r, x1, h3, x2, x3⟩ := key
  exact ⟨h3, by rw [x1, x2], x3⟩
/-- the reference lays its deck -/
def FrL (h h' : Hp) : Prop := (∀ d, d ≠ 123 → hI h' d = hI h d) ∧ (∀ k, k < 338 ∨ 368 ≤ k → hI h' 123 k = hI h 123 k) ∧ hL h' = hL h
theorem FrL.rf {h : Hp} : FrL h h := ⟨fun _ _ => rfl, fun _ _ => rfl, rfl⟩
theorem FrL.trans {a b c : Hp} (x : FrL a b) (y : FrL b c) : FrL a c := ⟨fun d p => (y.1 d p).trans (x.1 d p), fun k p => (y.2.1 k p).trans (x.2.1 k p), y.2.2.trans x.2.2⟩
theorem FrL.u {h : Hp} {k : Nat} {v : Int32} (hk : k < 30) : FrL h (uI h 123 (338 + k) v) := ⟨fun d a => hI_uI_o a, fun j a => hI_uI_s (by omega), rfl⟩
theorem FrL.w {q : Nat} {h h' : Hp} {A : Ho} (ok : HoOk q A) (f : FrL h h') (w : RmW h A) : RmW h' A := RmW_deck ok w (fun k hk => f.2.1 k (Or.inl hk)) (f.1 134 (by decide))
theorem m_coll1 {h : Hp} {A : Ho} {q a b : Nat} (ok : HoOk q A) (w : RmW h A) (hab : a ≤ b) (hb : b < 8) (h6 : b < a + 6) : ∃ h', L_X12_collate_48 h 122 (nI a) (nI b) (nI (oN A)) (nI 0) (nI (cSt A a b 0).1) (nI (cSt A a b 0).2) = some (h', nI (cTt A a b)) ∧ FrL h h' ∧ ∀ k, k < cTt A a b → hI h' 123 (338 + k) = nI (oD A (cOut A a b k)) := by
  have hA := ok.1
  have hT := cTt_le (A := A) (a := a) (b := b)
  have key : ∃ r, L_X12_collate_48 h 122 (nI a) (nI b) (nI (oN A)) (nI 0) (nI (cSt A a b 0).1) (nI (cSt A a b 0).2) = some r ∧ ∃ h', r = (h', nI (cTt A a b)) ∧ FrL h h' ∧ ∀ k, k < cTt A a b → hI h' 123 (338 + k) = nI (oD A (cOut A a b k)) := by
    refine iterW_inv (fun j s => s.2.1 = nI j ∧ s.2.2.1 = nI (cSt A a b j).1 ∧ s.2.2.2 = nI (cSt A a b j).2 ∧ FrL h s.1 ∧ ∀ k, k < j → hI s.1 123 (338 + k) = nI (oD A (cOut A a b k))) _ (cTt A a b) (fun j s hj p => ?_) (fun s p => ?_) ⟨rfl, rfl, rfl, FrL.rf, fun k hk => by omega⟩
    · obtain ⟨p1, p2, p3, p4, p6⟩ := p
      have rs : RmW s.1 A := p4.w ok w
      have o := cst_ok (coP A a b (nI 0)) (coP A a b (nI 1)) (coV A a b) (oN A) j (Nat.le_of_lt hj)
      have v1 : coV A a b (cSt A a b j).1 < 1000000 := fv_lt h6
      have v2 : coV A a b (cSt A a b j).2 < 1000000 := fv_lt h6
      have f' : FrL s.1 (uI s.1 123 (338 + j) (nI (oD A (cOut A a b j)))) := FrL.u (by omega)
      have rs' : RmW (uI s.1 123 (338 + j) (nI (oD A (cOut A a b j)))) A := f'.w ok rs
      have wr : ∀ k, k < j + 1 → hI (uI s.1 123 (338 + j) (nI (oD A (cOut A a b j)))) 123 (338 + k) = nI (oD A (cOut A a b k)) := fun k hk => by
        by_cases c : k = j
        · subst c
          rw [hI_uI_e]
        · rw [hI_uI_s (by omega)]
          exact p6 k (by omega)
      refine ⟨(uI s.1 123 (338 + j) (nI (oD A (cOut A a b j))), nI (j + 1), nI (cSt A a b (j + 1)).1, nI (cSt A a b (j + 1)).2), ?_, rfl, rfl, rfl, p4.trans f', wr⟩
      show B_X12_collate_48 _ _ _ _ _ _ _ _ = _
      unfold B_X12_collate_48 J_X12_collate_60 J_X12_collate_101 J_X12_collate_105 J_X12_collate_106 J_X12_collate_134
      rw [p1, p2, p3]
      rcases cS_x hj with ⟨f, l1, l2, l3, e1, e2⟩ | ⟨f, l1, l2, l3, e1, e2⟩
      · have d1 := (ok.2.1 _ l1).2.2.2.2
        have q1' : oI (fld A (oD A (cSt A a b j).1) a b) = nI (coV A a b (cSt A a b j).1) := coP_num (o.2.2.1 l1)
        rw [e1] at rs'
        rw [e2, e1]
        by_cases c : (cSt A a b j).2 < oN A
        · have d2 := (ok.2.1 _ c).2.2.2.2
          have q2' : oI (fld A (oD A (cSt A a b j).2) a b) = nI (coV A a b (cSt A a b j).2) := coP_num (o.2.2.2.1 c)
          have l4 := l3 c
          simp (disch := omega) only [↓m1_n, li_n, li_0, li_1, lt_y, lt_n, le_y, le_n, eq_n, nL, nLe, nEq, nEm, mEn, nLm, mLn, nLem, mLen, nI_add, nI_mul, nI_sub, nI_m, ib_nI, nx_nI, gd_y, bnd_e, bind_y, ↓reduceIte, hI_uI_o, hI_uI_s, hI_uI_e, hL_uI, hI_uL, hL_uL_o, hL_uL_s, hL_uL_e, and1_a, and1_b, Bool.not_true, Bool.not_false, Nat.zero_add, Nat.add_zero, Nat.add_sub_cancel, eq_self, ne_b, g0_0, g0_1, g0_2, g0_3, g0_4, g0_5, g0_6, g0_7, g0_8, g0_9, n1, n2, g3_2, g3_3, g3_4, g3_5, g3_6, g3_7, g3_8, g3_9, n4, n5, n6, n7, n8, n9, g10_2, g10_3, g10_4, g10_5, n11, n12, n13, n14, g15_2, g15_3, g15_4, g15_5, n16, n17, n18, n19, g40_0, g40_1, g40_2, g44_0, g44_2, g44_3, g44_5, g44_6, g44_10, g51_3, g51_4, g51_5, g51_6, g51_7, g57_3, g57_4, g57_5, g57_6, g57_7, n120, n121, g122_0, g122_4, g122_5, g122_6, g122_7, g122_8, g122_18, g122_19, g122_20, g122_21, g122_24, g122_25, g122_28, g122_29, g122_31, g122_32, g122_33, g122_39, g122_40, g122_41, g122_45, g122_46, g122_47, g122_48, n123, n124, n125, n126, n127, n128, n129, n130, n131, n132, n133, n134, n135, n136, n137, n138, n139, n140, n141, n142, n143, n144, n145, n146, rs.2.2 _ l1, rs.2.2 _ c, m_numberW ok rs, q1', q2', m_next ok rs']
        · have c' : (cSt A a b j).2 = oN A := by omega
          simp (disch := omega) only [↓m1_n, li_n, li_0, li_1, lt_y, lt_n, le_y, le_n, eq_n, nL, nLe, nEq, nEm, mEn, nLm, mLn, nLem, mLen, nI_add, nI_mul, nI_sub, nI_m, ib_nI, nx_nI, gd_y, bnd_e, bind_y, ↓reduceIte, hI_uI_o, hI_uI_s, hI_uI_e, hL_uI, hI_uL, hL_uL_o, hL_uL_s, hL_uL_e, and1_a, and1_b, Bool.not_true, Bool.not_false, Nat.zero_add, Nat.add_zero, Nat.add_sub_cancel, eq_self, ne_b, g0_0, g0_1, g0_2, g0_3, g0_4, g0_5, g0_6, g0_7, g0_8, g0_9, n1, n2, g3_2, g3_3, g3_4, g3_5, g3_6, g3_7, g3_8, g3_9, n4, n5, n6, n7, n8, n9, g10_2, g10_3, g10_4, g10_5, n11, n12, n13, n14, g15_2, g15_3, g15_4, g15_5, n16, n17, n18, n19, g40_0, g40_1, g40_2, g44_0, g44_2, g44_3, g44_5, g44_6, g44_10, g51_3, g51_4, g51_5, g51_6, g51_7, g57_3, g57_4, g57_5, g57_6, g57_7, n120, n121, g122_0, g122_4, g122_5, g122_6, g122_7, g122_8, g122_18, g122_19, g122_20, g122_21, g122_24, g122_25, g122_28, g122_29, g122_31, g122_32, g122_33, g122_39, g122_40, g122_41, g122_45, g122_46, g122_47, g122_48, n123, n124, n125, n126, n127, n128, n129, n130, n131, n132, n133, n134, n135, n136, n137, n138, n139, n140, n141, n142, n143, n144, n145, n146, rs.2.2 _ l1, m_next ok rs', c']
      · have d1 := (ok.2.1 _ l1).2.2.2.2
        have q1' : oI (fld A (oD A (cSt A a b j).2) a b) = nI (coV A a b (cSt A a b j).2) := coP_num (o.2.2.2.1 l1)
        rw [e1] at rs'
        rw [e2, e1]
        by_cases c : (cSt A a b j).1 < oN A
        · have d2 := (ok.2.1 _ c).2.2.2.2
          have q2' : oI (fld A (oD A (cSt A a b j).1) a b) = nI (coV A a b (cSt A a b j).1) := coP_num (o.2.2.1 c)
          have l4 := l3 c
          simp (disch := omega) only [↓m1_n, li_n, li_0, li_1, lt_y, lt_n, le_y, le_n, eq_n, nL, nLe, nEq, nEm, mEn, nLm, mLn, nLem, mLen, nI_add, nI_mul, nI_sub, nI_m, ib_nI, nx_nI, gd_y, bnd_e, bind_y, ↓reduceIte, hI_uI_o, hI_uI_s, hI_uI_e, hL_uI, hI_uL, hL_uL_o, hL_uL_s, hL_uL_e, and1_a, and1_b, Bool.not_true, Bool.not_false, Nat.zero_add, Nat.add_zero, Nat.add_sub_cancel, eq_self, ne_b, g0_0, g0_1, g0_2, g0_3, g0_4, g0_5, g0_6, g0_7, g0_8, g0_9, n1, n2, g3_2, g3_3, g3_4, g3_5, g3_6, g3_7, g3_8, g3_9, n4, n5, n6, n7, n8, n9, g10_2, g10_3, g10_4, g10_5, n11, n12, n13, n14, g15_2, g15_3, g15_4, g15_5, n16, n17, n18, n19, g40_0, g40_1, g40_2, g44_0, g44_2, g44_3, g44_5, g44_6, g44_10, g51_3, g51_4, g51_5, g51_6, g51_7, g57_3, g57_4, g57_5, g57_6, g57_7, n120, n121, g122_0, g122_4, g122_5, g122_6, g122_7, g122_8, g122_18, g122_19, g122_20, g122_21, g122_24, g122_25, g122_28, g122_29, g122_31, g122_32, g122_33, g122_39, g122_40, g122_41, g122_45, g122_46, g122_47, g122_48, n123, n124, n125, n126, n127, n128, n129, n130, n131, n132, n133, n134, n135, n136, n137, n138, n139, n140, n141, n142, n143, n144, n145, n146, rs.2.2 _ l1, rs.2.2 _ c, m_numberW ok rs, q1', q2', m_next ok rs']
        · simp (disch := omega) only [↓m1_n, li_n, li_0, li_1, lt_y, lt_n, le_y, le_n, eq_n, nL, nLe, nEq, nEm, mEn, nLm, mLn, nLem, mLen, nI_add, nI_mul, nI_sub, nI_m, ib_nI, nx_nI, gd_y, bnd_e, bind_y, ↓reduceIte, hI_uI_o, hI_uI_s, hI_uI_e, hL_uI, hI_uL, hL_uL_o, hL_uL_s, hL_uL_e, and1_a, and1_b, Bool.not_true, Bool.not_false, Nat.zero_add, Nat.add_zero, Nat.add_sub_cancel, eq_self, ne_b, g0_0, g0_1, g0_2, g0_3, g0_4, g0_5, g0_6, g0_7, g0_8, g0_9, n1, n2, g3_2, g3_3, g3_4, g3_5, g3_6, g3_7, g3_8, g3_9, n4, n5, n6, n7, n8, n9, g10_2, g10_3, g10_4, g10_5, n11, n12, n13, n14, g15_2, g15_3, g15_4, g15_5, n16, n17, n18, n19, g40_0, g40_1, g40_2, g44_0, g44_2, g44_3, g44_5, g44_6, g44_10, g51_3, g51_4, g51_5, g51_6, g51_7, g57_3, g57_4, g57_5, g57_6, g57_7, n120, n121, g122_0, g122_4, g122_5, g122_6, g122_7, g122_8, g122_18, g122_19, g122_20, g122_21, g122_24, g122_25, g122_28, g122_29, g122_31, g122_32, g122_33, g122_39, g122_40, g122_41, g122_45, g122_46, g122_47, g122_48, n123, n124, n125, n126, n127, n128, n129, n130, n131, n132, n133, n134, n135, n136, n137, n138, n139, n140, n141, n142, n143, n144, n145, n146, rs.2.2 _ l1, m_next ok rs']
    · obtain ⟨p1, p2, p3, p4, p6⟩ := p
      have e := cst_end (coP A a b (nI 0)) (coP A a b (nI 1)) (coV A a b) (oN A)
      have e1 : (cSt A a b (cTt A a b)).1 = oN A := e.1
      have e2 : (cSt A a b (cTt A a b)).2 = oN A := e.2
      refine ⟨(s.1, nI (cTt A a b)), ?_, s.1, rfl, p4, p6⟩
      show B_X12_collate_48 _ _ _ _ _ _ _ _ = _
      unfold B_X12_collate_48
      rw [p1, p2, p3, e1, e2]
      simp (disch := omega) only [↓m1_n, li_n, li_0, li_1, lt_y, lt_n, le_y, le_n, eq_n, nL, nLe, nEq, nEm, mEn, nLm, mLn, nLem, mLen, nI_add, nI_mul, nI_sub, nI_m, ib_nI, nx_nI, gd_y, bnd_e, bind_y, ↓reduceIte, hI_uI_o, hI_uI_s, hI_uI_e, hL_uI, hI_uL, hL_uL_o, hL_uL_s, hL_uL_e, and1_a, and1_b, Bool.not_true, Bool.not_false, Nat.zero_add, Nat.add_zero, Nat.add_sub_cancel, eq_self, ne_b, g0_0, g0_1, g0_2, g0_3, g0_4, g0_5, g0_6, g0_7, g0_8, g0_9, n1, n2, g3_2, g3_3, g3_4, g3_5, g3_6, g3_7, g3_8, g3_9, n4, n5, n6, n7, n8, n9, g10_2, g10_3, g10_4, g10_5, n11, n12, n13, n14, g15_2, g15_3, g15_4, g15_5, n16, n17, n18, n19, g40_0, g40_1, g40_2, g44_0, g44_2, g44_3, g44_5, g44_6, g44_10, g51_3, g51_4, g51_5, g51_6, g51_7, g57_3, g57_4, g57_5, g57_6, g57_7, n120, n121, g122_0, g122_4, g122_5, g122_6, g122_7, g122_8, g122_18, g122_19, g122_20, g122_21, g122_24, g122_25, g122_28, g122_29, g122_31, g122_32, g122_33, g122_39, g122_40, g122_41, g122_45, g122_46, g122_47, g122_48, n123, n124, n125, n126, n127, n128, n129, n130, n131, n132, n133, n134, n135, n136, n137, n138, n139, n140, n141, n142, n143, n144, n145, n146]
  obtain ⟨r, x1, h3, x2, x3⟩ := key
  exact ⟨h3, by rw [x1, x2], x3⟩
theorem m_coll2 {h : Hp} {A : Ho} {q a b : Nat} (ok : HoOk q A) (w : RmW h A) (hab : a ≤ b) (hb : b < 8) (h6 : b < a + 6) (hO : ∀ k, k < cTt A a b → hI h 123 (338 + k) = nI (oD A (cOut A a b k))) : ∃ h', L_X12_collate_185 h 122 (nI a) (nI b) (nI (oN A)) (nI (oN A - cTt A a b)) (nI (cTt A a b)) (nI 0) = some (uI h' 122 1 (nI 0), nI (oN A - cTt A a b)) ∧ FrL h h' ∧ ∀ k, k < oN A → hI h' 123 (338 + k) = nI (oD A (cPl A a b k)) := by
  have hA := ok.1
  have hT := cTt_le (A := A) (a := a) (b := b)
  have eR' : cTt A a b + cnt (cRs A a b) (oN A) = oN A := cT_rst (coP A a b (nI 0)) (coP A a b (nI 1)) coP_dj (oN A)
  have key : ∃ r, L_X12_collate_185 h 122 (nI a) (nI b) (nI (oN A)) (nI (oN A - cTt A a b)) (nI (cTt A a b)) (nI 0) = some r ∧ ∃ h', r = (uI h' 122 1 (nI 0), nI (oN A - cTt A a b)) ∧ FrL h h' ∧ ∀ k, k < oN A → hI h' 123 (338 + k) = nI (oD A (cPl A a b k)) := by
    refine iterW_inv (fun j s => s.2.2 = nI j ∧ s.2.1 = nI (cTt A a b + cnt (cRs A a b) j) ∧ FrL h s.1 ∧ (∀ k, k < cTt A a b → hI s.1 123 (338 + k) = nI (oD A (cOut A a b k))) ∧ ∀ i, i < j → cRs A a b i = true → hI s.1 123 (338 + (cTt A a b + cnt (cRs A a b) i)) = nI (oD A i)) _ (oN A) (fun j s hj p => ?_) (fun s p => ?_) ⟨rfl, rfl, FrL.rf, hO, fun k hk => by omega⟩
    · obtain ⟨p1, p2, p3, p5, p6⟩ := p
      have rs : RmW s.1 A := p3.w ok w
      have hd := (ok.2.1 j hj).2.2.2.2
      have hl : ∀ w, fld A (oD A j) a b = some w → w < 1000000 := fun w => fld_lt h6
      have RX := cRs_x (a := a) (b := b) ok hj
      by_cases c : cRs A a b j = true
      · have := cnt_lt hj c
        refine ⟨(uI s.1 123 (338 + (cTt A a b + cnt (cRs A a b) j)) (nI (oD A j)), nI (cTt A a b + cnt (cRs A a b) j + 1), nI (j + 1)), ?_, rfl, ?_, p3.trans (FrL.u (by omega)), fun k hk => by rw [hI_uI_s (by omega)]; exact p5 k hk, fun i hi hr => ?_⟩
        · show B_X12_collate_185 _ _ _ _ _ _ _ _ = _
          unfold B_X12_collate_185 J_X12_collate_228
          rw [p1, p2]
          rw [RX] at c
          by_cases c1 : oK A (oD A j) = mN
          · simp (disch := omega) only [↓m1_n, li_n, li_0, li_1, lt_y, lt_n, le_y, le_n, eq_n, nL, nLe, nEq, nEm, mEn, nLm, mLn, nLem, mLen, nI_add, nI_mul, nI_sub, nI_m, ib_nI, nx_nI, gd_y, bnd_e, bind_y, ↓reduceIte, hI_uI_o, hI_uI_s, hI_uI_e, hL_uI, hI_uL, hL_uL_o, hL_uL_s, hL_uL_e, and1_a, and1_b, Bool.not_true, Bool.not_false, Nat.zero_add, Nat.add_zero, Nat.add_sub_cancel, eq_self, ne_b, g0_0, g0_1, g0_2, g0_3, g0_4, g0_5, g0_6, g0_7, g0_8, g0_9, n1, n2, g3_2, g3_3, g3_4, g3_5, g3_6, g3_7, g3_8, g3_9, n4, n5, n6, n7, n8, n9, g10_2, g10_3, g10_4, g10_5, n11, n12, n13, n14, g15_2, g15_3, g15_4, g15_5, n16, n17, n18, n19, g40_0, g40_1, g40_2, g44_0, g44_2, g44_3, g44_5, g44_6, g44_10, g51_3, g51_4, g51_5, g51_6, g51_7, g57_3, g57_4, g57_5, g57_6, g57_7, n120, n121, g122_0, g122_4, g122_5, g122_6, g122_7, g122_8, g122_18, g122_19, g122_20, g122_21, g122_24, g122_25, g122_28, g122_29, g122_31, g122_32, g122_33, g122_39, g122_40, g122_41, g122_45, g122_46, g122_47, g122_48, n123, n124, n125, n126, n127, n128, n129, n130, n131, n132, n133, n134, n135, n136, n137, n138, n139, n140, n141, n142, n143, n144, n145, n146, rs.2.2 j hj, m_inkW ok rs hd, c1]
          · have c2 : (fld A (oD A j) a b).isSome = false := by
              rw [decide_eq_false c1, Bool.false_or] at c
              cases e : (fld A (oD A j) a b).isSome
              · rfl
              · rw [e] at c; cases c
            simp (disch := omega) only [↓m1_n, li_n, li_0, li_1, lt_y, lt_n, le_y, le_n, eq_n, nL, nLe, nEq, nEm, mEn, nLm, mLn, nLem, mLen, nI_add, nI_mul, nI_sub, nI_m, ib_nI, nx_nI, gd_y, bnd_e, bind_y, ↓reduceIte, hI_uI_o, hI_uI_s, hI_uI_e, hL_uI, hI_uL, hL_uL_o, hL_uL_s, hL_uL_e, and1_a, and1_b, Bool.not_true, Bool.not_false, Nat.zero_add, Nat.add_zero, Nat.add_sub_cancel, eq_self, ne_b, g0_0, g0_1, g0_2, g0_3, g0_4, g0_5, g0_6, g0_7, g0_8, g0_9, n1, n2, g3_2, g3_3, g3_4, g3_5, g3_6, g3_7, g3_8, g3_9, n4, n5, n6, n7, n8, n9, g10_2, g10_3, g10_4, g10_5, n11, n12, n13, n14, g15_2, g15_3, g15_4, g15_5, n16, n17, n18, n19, g40_0, g40_1, g40_2, g44_0, g44_2, g44_3, g44_5, g44_6, g44_10, g51_3, g51_4, g51_5, g51_6, g51_7, g57_3, g57_4, g57_5, g57_6, g57_7, n120, n121, g122_0, g122_4, g122_5, g122_6, g122_7, g122_8, g122_18, g122_19, g122_20, g122_21, g122_24, g122_25, g122_28, g122_29, g122_31, g122_32, g122_33, g122_39, g122_40, g122_41, g122_45, g122_46, g122_47, g122_48, n123, n124, n125, n126, n127, n128, n129, n130, n131, n132, n133, n134, n135, n136, n137, n138, n139, n140, n141, n142, n143, n144, n145, n146, rs.2.2 j hj, m_inkW ok rs hd, c1, m_numberW ok rs hd, oI_ism hl, c2]
        · show nI _ = nI _
          rw [cnt, if_pos c, ← Nat.add_assoc]
        · by_cases ci : i = j
          · subst ci
            rw [hI_uI_e]
          · have := cnt_lt (show i < j by omega) hr
            rw [hI_uI_s (by omega)]
            exact p6 i (by omega) hr
      · refine ⟨(s.1, nI (cTt A a b + cnt (cRs A a b) j), nI (j + 1)), ?_, rfl, ?_, p3, p5, fun i hi hr => p6 i (by
            by_cases ci : i = j
            · subst ci; exact absurd hr c
            · omega) hr⟩
        · show B_X12_collate_185 _ _ _ _ _ _ _ _ = _
          unfold B_X12_collate_185
          rw [p1, p2]
          rw [RX] at c
          have c1 : ¬ oK A (oD A j) = mN := fun e => c (by simp [e])
          have c2 : (fld A (oD A j) a b).isSome = true := by
            cases e : (fld A (oD A j) a b).isSome
            · exact absurd (by simp [e]) c
            · rfl
          simp (disch := omega) only [↓m1_n, li_n, li_0, li_1, lt_y, lt_n, le_y, le_n, eq_n, nL, nLe, nEq, nEm, mEn, nLm, mLn, nLem, mLen, nI_add, nI_mul, nI_sub, nI_m, ib_nI, nx_nI, gd_y, bnd_e, bind_y, ↓reduceIte, hI_uI_o, hI_uI_s, hI_uI_e, hL_uI, hI_uL, hL_uL_o, hL_uL_s, hL_uL_e, and1_a, and1_b, Bool.not_true, Bool.not_false, Nat.zero_add, Nat.add_zero, Nat.add_sub_cancel, eq_self, ne_b, g0_0, g0_1, g0_2, g0_3, g0_4, g0_5, g0_6, g0_7, g0_8, g0_9, n1, n2, g3_2, g3_3, g3_4, g3_5, g3_6, g3_7, g3_8, g3_9, n4, n5, n6, n7, n8, n9, g10_2, g10_3, g10_4, g10_5, n11, n12, n13, n14, g15_2, g15_3, g15_4, g15_5, n16, n17, n18, n19, g40_0, g40_1, g40_2, g44_0, g44_2, g44_3, g44_5, g44_6, g44_10, g51_3, g51_4, g51_5, g51_6, g51_7, g57_3, g57_4, g57_5, g57_6, g57_7, n120, n121, g122_0, g122_4, g122_5, g122_6, g122_7, g122_8, g122_18, g122_19, g122_20, g122_21, g122_24, g122_25, g122_28, g122_29, g122_31, g122_32, g122_33, g122_39, g122_40, g122_41, g122_45, g122_46, g122_47, g122_48, n123, n124, n125, n126, n127, n128, n129, n130, n131, n132, n133, n134, n135, n136, n137, n138, n139, n140, n141, n142, n143, n144, n145, n146, rs.2.2 j hj, m_inkW ok rs hd, c1, m_numberW ok rs hd, oI_ism hl, c2, Bool.true_eq_false]
        · show nI _ = nI _
          rw [cnt, if_neg c, Nat.add_zero]
    · obtain ⟨p1, p2, p3, p5, p6⟩ := p
      refine ⟨(uI s.1 122 1 (nI 0), nI (oN A - cTt A a b)), ?_, s.1, rfl, p3, fun k hk => plc1_all (coP A a b (nI 0)) (coP A a b (nI 1)) (coV A a b) (oN A) coP_dj (D := oD A) (H := fun k => hI s.1 123 (338 + k)) p5 p6 hk⟩
      show B_X12_collate_185 _ _ _ _ _ _ _ _ = _
      unfold B_X12_collate_185 F_X12_gives
      rw [p1, p2]
      simp (disch := omega) only [↓m1_n, li_n, li_0, li_1, lt_y, lt_n, le_y, le_n, eq_n, nL, nLe, nEq, nEm, mEn, nLm, mLn, nLem, mLen, nI_add, nI_mul, nI_sub, nI_m, ib_nI, nx_nI, gd_y, bnd_e, bind_y, ↓reduceIte, hI_uI_o, hI_uI_s, hI_uI_e, hL_uI, hI_uL, hL_uL_o, hL_uL_s, hL_uL_e, and1_a, and1_b, Bool.not_true, Bool.not_false, Nat.zero_add, Nat.add_zero, Nat.add_sub_cancel, eq_self, ne_b, g0_0, g0_1, g0_2, g0_3, g0_4, g0_5, g0_6, g0_7, g0_8, g0_9, n1, n2, g3_2, g3_3, g3_4, g3_5, g3_6, g3_7, g3_8, g3_9, n4, n5, n6, n7, n8, n9, g10_2, g10_3, g10_4, g10_5, n11, n12, n13, n14, g15_2, g15_3, g15_4, g15_5, n16, n17, n18, n19, g40_0, g40_1, g40_2, g44_0, g44_2, g44_3, g44_5, g44_6, g44_10, g51_3, g51_4, g51_5, g51_6, g51_7, g57_3, g57_4, g57_5, g57_6, g57_7, n120, n121, g122_0, g122_4, g122_5, g122_6, g122_7, g122_8, g122_18, g122_19, g122_20, g122_21, g122_24, g122_25, g122_28, g122_29, g122_31, g122_32, g122_33, g122_39, g122_40, g122_41, g122_45, g122_46, g122_47, g122_48, n123, n124, n125, n126, n127, n128, n129, n130, n131, n132, n133, n134, n135, n136, n137, n138, n139, n140, n141, n142, n143, n144, n145, n146]
  obtain ⟨r, x1, h3, x2, x3⟩ := key
  exact ⟨h3, by rw [x1, x2], x3⟩
theorem wdm_deck_ok {A : Ho} {q : Nat} {D : Nat → Nat} {M : Int32} (ok : HoOk q A) (h1 : ∀ k, k < oN A → D k < oN A) (h2 : ∀ i j, i < oN A → j < oN A → D i = D j → i = j) : HoOk q (wdm A (oW A) D M) := by
  obtain ⟨o1, o2, o3, o4, o5⟩ := ok
  refine ⟨o1, fun i hi => ?_, h2, o4, o5⟩
  obtain ⟨y1, y2, y3, y4, y5⟩ := o2 i hi
  exact ⟨y1, y2, y3, y4, h1 i hi⟩
theorem op_collate (q : Nat) (h : Hp) (x y : Int32) (_ : q < 512) (i : Inv q h) : ∃ h1 h2 r, F_X11_collate h 0 x y = some (h1, r) ∧ F_X12_collate h1 122 x y = some (h2, r) ∧ Inv (q + 1) h2 := by
  obtain ⟨A, m, Mk, ok, rc, rm, hm, m1, m2, mk⟩ := id i.1
  have hA := ok.1
  rcases p_field (h := h) x y with ⟨d1, d2⟩ | ⟨⟨a, b, hab, hb, h6, rfl, rfl⟩, d1, d2⟩
  · refine op_2 (f := fun h => F_X11_collate h 0 x y) (g := fun h => F_X12_collate h 122 x y) (1, -1) i ?_ (fun h' u => ?_)
    · show F_X11_collate h 0 x y = _
      unfold F_X11_collate
      rw [d1]; rfl
    · show F_X12_collate h' 122 x y = _
      unfold F_X12_collate
      rw [d2 h' u]; rfl
  · have hT := cTt_le (A := A) (a := a) (b := b)
    obtain ⟨h1, a1, a2, a3, a4⟩ := c_coll1 ok rc hab hb h6
    have rc1 : RcH h1 3 A := RcH_congr (fun d a b => a2 d (by omega)) rc
    obtain ⟨h2, b1, b2, b3, b4⟩ := c_coll2 ok rc1 hab hb h6 a4
    have u : Up h (uI h2 0 10 (nI 0)) := fun d hd => ⟨by rw [hI_uI_o (by omega), b2 d (by omega) (by omega), a2 d (by omega)], by rw [hL_uI, b3, a3]⟩
    obtain ⟨h3, c1, c2, c3, c4⟩ := m_takes ok (u.rm rm)
    have rm3 : RmH h3 0 A := RmH_congr (c3 123 (by decide)) (u.rm rm)
    have w3 : RmW h3 A := RmW_of rm3 c2
    obtain ⟨h4, e1, e2, e3⟩ := m_coll1 ok w3 hab hb h6
    obtain ⟨h5, f1, f2, f3⟩ := m_coll2 ok (e2.w ok w3) hab hb h6 e3
    have s0 : (cSt A a b 0).1 = nxP (coP A a b (nI 0)) (oN A) 0 := rfl
    have s1 : (cSt A a b 0).2 = nxP (coP A a b (nI 1)) (oN A) 0 := rfl
    rw [s0, s1] at a1 e1
    refine ⟨uI h2 0 10 (nI 0), uI h5 122 1 (nI 0), nI (oN A - cTt A a b), ?_, ?_, ?_⟩
    · unfold F_X11_collate F_X3_collateBy F_X11_answer
      simp (disch := omega) only [↓m1_n, li_n, li_0, li_1, lt_y, lt_n, le_y, le_n, eq_n, nL, nLe, nEq, nEm, mEn, nLm, mLn, nLem, mLen, nI_add, nI_mul, nI_sub, nI_m, ib_nI, nx_nI, gd_y, bnd_e, bind_y, ↓reduceIte, hI_uI_o, hI_uI_s, hI_uI_e, hL_uI, hI_uL, hL_uL_o, hL_uL_s, hL_uL_e, and1_a, and1_b, Bool.not_true, Bool.not_false, Nat.zero_add, Nat.add_zero, Nat.add_sub_cancel, eq_self, ne_b, g0_0, g0_1, g0_2, g0_3, g0_4, g0_5, g0_6, g0_7, g0_8, g0_9, n1, n2, g3_2, g3_3, g3_4, g3_5, g3_6, g3_7, g3_8, g3_9, n4, n5, n6, n7, n8, n9, g10_2, g10_3, g10_4, g10_5, n11, n12, n13, n14, g15_2, g15_3, g15_4, g15_5, n16, n17, n18, n19, g40_0, g40_1, g40_2, g44_0, g44_2, g44_3, g44_5, g44_6, g44_10, g51_3, g51_4, g51_5, g51_6, g51_7, g57_3, g57_4, g57_5, g57_6, g57_7, n120, n121, g122_0, g122_4, g122_5, g122_6, g122_7, g122_8, g122_18, g122_19, g122_20, g122_21, g122_24, g122_25, g122_28, g122_29, g122_31, g122_32, g122_33, g122_39, g122_40, g122_41, g122_45, g122_46, g122_47, g122_48, n123, n124, n125, n126, n127, n128, n129, n130, n131, n132, n133, n134, n135, n136, n137, n138, n139, n140, n141, n142, n143, n144, n145, n146, d1, c_next ok rc, a1, cNn rc1, b1]
    · unfold F_X12_collate
      simp (disch := omega) only [↓m1_n, li_n, li_0, li_1, lt_y, lt_n, le_y, le_n, eq_n, nL, nLe, nEq, nEm, mEn, nLm, mLn, nLem, mLen, nI_add, nI_mul, nI_sub, nI_m, ib_nI, nx_nI, gd_y, bnd_e, bind_y, ↓reduceIte, hI_uI_o, hI_uI_s, hI_uI_e, hL_uI, hI_uL, hL_uL_o, hL_uL_s, hL_uL_e, and1_a, and1_b, Bool.not_true, Bool.not_false, Nat.zero_add, Nat.add_zero, Nat.add_sub_cancel, eq_self, ne_b, g0_0, g0_1, g0_2, g0_3, g0_4, g0_5, g0_6, g0_7, g0_8, g0_9, n1, n2, g3_2, g3_3, g3_4, g3_5, g3_6, g3_7, g3_8, g3_9, n4, n5, n6, n7, n8, n9, g10_2, g10_3, g10_4, g10_5, n11, n12, n13, n14, g15_2, g15_3, g15_4, g15_5, n16, n17, n18, n19, g40_0, g40_1, g40_2, g44_0, g44_2, g44_3, g44_5, g44_6, g44_10, g51_3, g51_4, g51_5, g51_6, g51_7, g57_3, g57_4, g57_5, g57_6, g57_7, n120, n121, g122_0, g122_4, g122_5, g122_6, g122_7, g122_8, g122_18, g122_19, g122_20, g122_21, g122_24, g122_25, g122_28, g122_29, g122_31, g122_32, g122_33, g122_39, g122_40, g122_41, g122_45, g122_46, g122_47, g122_48, n123, n124, n125, n126, n127, n128, n129, n130, n131, n132, n133, n134, n135, n136, n137, n138, n139, n140, n141, n142, n143, n144, n145, n146, d2 _ u, c1, m_next ok w3, mNc rm3, e1, f1]
    · have pl : ∀ k, k < oN A → cPl A a b k < oN A := fun k hk => plc1_lt _ _ _ _ coP_dj hk
      have ok' : HoOk (q + 1) (wdm A (oW A) (fun k => oD A (cPl A a b k)) (oM A)) := wdm_deck_ok ok.mono (fun k hk => (ok.2.1 _ (pl k hk)).2.2.2.2) (fun i j hi hj e => plc1_inj _ _ _ _ coP_dj hi hj (ok.2.2.1 _ _ (pl i hi) (pl j hj) e))
      have Fd : ∀ d, d ≠ 0 → d ≠ 122 → d ≠ 123 → d ≠ 134 → d ≠ 9 → d ≠ 41 → hI (uI h5 122 1 (nI 0)) d = hI h d := fun d x1 x2 x3 x4 x5 x6 => by rw [hI_uI_o x2, f2.1 d x3, e2.1 d x3, c3 d x4, hI_uI_o x1, b2 d x6 x5, a2 d x6]
      have F3 : ∀ k, k < 338 ∨ 368 ≤ k → hI (uI h5 122 1 (nI 0)) 123 k = hI h 123 k := fun k hk => by rw [hI_uI_o (by decide), f2.2.1 k hk, e2.2.1 k hk, c3 123 (by decide), hI_uI_o (by decide), b2 123 (by decide) (by decide), a2 123 (by decide)]
      refine Inv_ho (A := A) (A' := wdm A (oW A) (fun k => oD A (cPl A a b k)) (oM A)) (Fy_of (fun d s1 s2 s3 s4 s5 => ?_) (fun k k1 k2 => ?_) (fun k hk => ?_) ?_) ?_ hm m1 m2 mk (fun k k1 k2 => F3 k (by omega)) ok' ?_ ?_ i
      · unfold Sc at s1
        exact Fd d s4 s5 s3 (by omega) (by omega) (by omega)
      · rw [hI_uI_o (by decide), f2.1 0 (by decide), e2.1 0 (by decide), c3 0 (by decide), hI_uI_s (by omega), b2 0 (by decide) (by decide), a2 0 (by decide)]
      · unfold Kv at hk
        rw [hI_uI_s (by omega), f2.1 122 (by decide), e2.1 122 (by decide), c3 122 (by decide), hI_uI_o (by decide), b2 122 (by decide) (by decide), a2 122 (by decide)]
      · rw [hL_uI, f2.2.2, e2.2.2, c4, hL_uI, b3, a3]
      · rw [hI_uI_e, hI_uI_o (by decide), f2.1 0 (by decide), e2.1 0 (by decide), c3 0 (by decide), hI_uI_e]
      · refine RcH_wdm rc (by rw [Fd 3 (by decide) (by decide) (by decide) (by decide) (by decide) (by decide)]) (by rw [Fd 3 (by decide) (by decide) (by decide) (by decide) (by decide) (by decide)]; exact rc.1.2.1) (fun i hi => by rw [Fd 8 (by decide) (by decide) (by decide) (by decide) (by decide) (by decide)]; exact cWe rc hi) (fun i hi => ?_) (fun d hd => Fd d (by omega) (by omega) (by omega) (by omega) (by omega) (by omega))
        rw [hI_uI_o (by decide), f2.1 9 (by decide), e2.1 9 (by decide), c3 9 (by decide), hI_uI_o (by decide)]
        exact b4 i hi
      · refine RmH_wdm ok rm (by rw [F3 1 (by omega)]; exact rm.1.2.1) (fun i hi => ?_) (fun i hi => ?_) (fun k k1 k2 k3 k4 => F3 k (by omega))
        · rw [F3 (18 + 11 * i) (by omega)]
          have := (rm.1.2.2 i hi).2.2.2.1
          rw [Nat.zero_add] at this
          exact this
        · rw [hI_uI_o (by decide)]
          exact f3 i hi
