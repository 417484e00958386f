/-! ===== the reference's pass over its row ===== -/
def FrP (h h' : Hp) : Prop := (∀ d, d ≠ 133 → d ≠ 134 → d ≠ 122 → hI h' d = hI h d) ∧ (∀ k, k ≠ 26 → k ≠ 27 → hI h' 122 k = hI h 122 k) ∧ hL h' = hL h
theorem FrP.rf {h : Hp} : FrP h h := ⟨fun _ _ _ _ => rfl, fun _ _ _ => rfl, rfl⟩
theorem FrP.trans {a b c : Hp} (x : FrP a b) (y : FrP b c) : FrP a c := ⟨fun d p q r => (y.1 d p q r).trans (x.1 d p q r), fun k p q => (y.2.1 k p q).trans (x.2.1 k p q), y.2.2.trans x.2.2⟩
theorem FrP.rm {h h' : Hp} {A : Ho} {b : Nat} (f : FrP h h') (r : RmH h b A) : RmH h' b A := RmH_congr (f.1 123 (by decide) (by decide) (by decide)) r
theorem FrP.u1 {h : Hp} {v : Int32} : FrP h (uI h 122 26 v) := ⟨fun d _ _ a => hI_uI_o a, fun k a _ => hI_uI_s a, rfl⟩
theorem FrP.u2 {h : Hp} {v : Int32} : FrP h (uI h 122 27 v) := ⟨fun d _ _ a => hI_uI_o a, fun k _ a => hI_uI_s a, rfl⟩
theorem FrP.u3 {h : Hp} {k : Nat} {v : Int32} : FrP h (uI h 133 k v) := ⟨fun d a _ _ => hI_uI_o a, fun k _ _ => by rw [hI_uI_o (by decide)], rfl⟩
theorem FrP.u4 {h : Hp} {k : Nat} {v : Int32} : FrP h (uI h 134 k v) := ⟨fun d _ a _ => hI_uI_o a, fun k _ _ => by rw [hI_uI_o (by decide)], rfl⟩
/-- how many cards go through -/
def thr (R : Nat → Nat) (n : Nat) (b : Bool) : Nat := if b then (fst1 (fun k => decide (R k = 10)) n 0).getD n else n
theorem thr_le {R : Nat → Nat} {n : Nat} {b : Bool} : thr R n b ≤ n := by
  unfold thr
  cases b with
  | false => exact Nat.le_refl _
  | true =>
    cases e : fst1 (fun k => decide (R k = 10)) n 0 with
    | none => exact Nat.le_refl _
    | some j =>
      have := fst1_lt _ _ _ e
      show j ≤ n
      omega
section PS
variable {h : Hp} {n col : Nat} {D R : Nat → Nat}
theorem m_ps1 {b : Bool} (hn : n ≤ 30) (hR : ∀ k, R k ≤ 11) (RD : ∀ h', FrP h h' → ∀ k, k < n → F_X12_reads h' 122 (nI (D k)) (nI col) = some (nI (R k))) (e0 : hI h 122 26 = nI n) (XD : ∀ k, k < n → hI h 134 k = nI (D k)) : ∃ h', L_X12_passes_15 h 122 (nI col) (bI b) (nI n) (nI 0) = some h' ∧ FrP h h' ∧ hI h' 134 = hI h 134 ∧ hI h' 122 26 = nI (thr R n b) := by
  cases b with
  | false =>
    refine ⟨h, iterW_end ?_, FrP.rf, rfl, e0⟩
    show B_X12_passes_15 _ _ _ _ _ _ = _
    unfold B_X12_passes_15
    by_cases z : n = 0
    · subst z
      simp (disch := omega) only [↓m1_n, li_n, li_0, li_1, lt_y, lt_n, le_y, le_n, eq_n, nL, nLe, nEq, nEm, mEn, nLm, mLn, nLem, mLen, nI_add, nI_mul, nI_sub, nI_m, ib_nI, nx_nI, gd_y, bnd_e, bind_y, ↓reduceIte, hI_uI_o, hI_uI_s, hI_uI_e, hL_uI, hI_uL, hL_uL_o, hL_uL_s, hL_uL_e, and1_a, and1_b, Bool.not_true, Bool.not_false, Nat.zero_add, Nat.add_zero, Nat.add_sub_cancel, eq_self, ne_b, g0_0, g0_1, g0_2, g0_3, g0_4, g0_5, g0_6, g0_7, g0_8, g0_9, n1, n2, g3_2, g3_3, g3_4, g3_5, g3_6, g3_7, g3_8, g3_9, n4, n5, n6, n7, n8, n9, g10_2, g10_3, g10_4, g10_5, n11, n12, n13, n14, g15_2, g15_3, g15_4, g15_5, n16, n17, n18, n19, g40_0, g40_1, g40_2, g44_0, g44_2, g44_3, g44_5, g44_6, g44_10, g51_3, g51_4, g51_5, g51_6, g51_7, g57_3, g57_4, g57_5, g57_6, g57_7, n120, n121, g122_0, g122_4, g122_5, g122_6, g122_7, g122_8, g122_18, g122_19, g122_20, g122_21, g122_24, g122_25, g122_28, g122_29, g122_31, g122_32, g122_33, g122_39, g122_40, g122_41, g122_45, g122_46, g122_47, g122_48, n123, n124, n125, n126, n127, n128, n129, n130, n131, n132, n133, n134, n135, n136, n137, n138, n139, n140, n141, n142, n143, n144, n145, n146]
    · simp (disch := omega) only [↓m1_n, li_n, li_0, li_1, lt_y, lt_n, le_y, le_n, eq_n, nL, nLe, nEq, nEm, mEn, nLm, mLn, nLem, mLen, nI_add, nI_mul, nI_sub, nI_m, ib_nI, nx_nI, gd_y, bnd_e, bind_y, ↓reduceIte, hI_uI_o, hI_uI_s, hI_uI_e, hL_uI, hI_uL, hL_uL_o, hL_uL_s, hL_uL_e, and1_a, and1_b, Bool.not_true, Bool.not_false, Nat.zero_add, Nat.add_zero, Nat.add_sub_cancel, eq_self, ne_b, g0_0, g0_1, g0_2, g0_3, g0_4, g0_5, g0_6, g0_7, g0_8, g0_9, n1, n2, g3_2, g3_3, g3_4, g3_5, g3_6, g3_7, g3_8, g3_9, n4, n5, n6, n7, n8, n9, g10_2, g10_3, g10_4, g10_5, n11, n12, n13, n14, g15_2, g15_3, g15_4, g15_5, n16, n17, n18, n19, g40_0, g40_1, g40_2, g44_0, g44_2, g44_3, g44_5, g44_6, g44_10, g51_3, g51_4, g51_5, g51_6, g51_7, g57_3, g57_4, g57_5, g57_6, g57_7, n120, n121, g122_0, g122_4, g122_5, g122_6, g122_7, g122_8, g122_18, g122_19, g122_20, g122_21, g122_24, g122_25, g122_28, g122_29, g122_31, g122_32, g122_33, g122_39, g122_40, g122_41, g122_45, g122_46, g122_47, g122_48, n123, n124, n125, n126, n127, n128, n129, n130, n131, n132, n133, n134, n135, n136, n137, n138, n139, n140, n141, n142, n143, n144, n145, n146, bI, Bool.false_eq_true]
  | true =>
    have key : L_X12_passes_15 h 122 (nI col) (bI true) (nI n) (nI 0) = some ((fst1 (fun k => decide (R k = 10)) n 0).elim h (fun j => uI h 122 26 (nI j))) := by
      refine iterW_fst2 (fun j => (h, nI j)) (fun j => (uI h 122 26 (nI j), nI (j + 1))) _ (fun j => uI h 122 26 (nI j)) h n 0 (fun j _ hj => ?_) (fun j _ hj => iterW_end ?_) ?_
      · show B_X12_passes_15 _ _ _ _ _ _ = _
        unfold B_X12_passes_15
        have := hR j
        simp (disch := omega) only [↓m1_n, li_n, li_0, li_1, lt_y, lt_n, le_y, le_n, eq_n, nL, nLe, nEq, nEm, mEn, nLm, mLn, nLem, mLen, nI_add, nI_mul, nI_sub, nI_m, ib_nI, nx_nI, gd_y, bnd_e, bind_y, ↓reduceIte, hI_uI_o, hI_uI_s, hI_uI_e, hL_uI, hI_uL, hL_uL_o, hL_uL_s, hL_uL_e, and1_a, and1_b, Bool.not_true, Bool.not_false, Nat.zero_add, Nat.add_zero, Nat.add_sub_cancel, eq_self, ne_b, g0_0, g0_1, g0_2, g0_3, g0_4, g0_5, g0_6, g0_7, g0_8, g0_9, n1, n2, g3_2, g3_3, g3_4, g3_5, g3_6, g3_7, g3_8, g3_9, n4, n5, n6, n7, n8, n9, g10_2, g10_3, g10_4, g10_5, n11, n12, n13, n14, g15_2, g15_3, g15_4, g15_5, n16, n17, n18, n19, g40_0, g40_1, g40_2, g44_0, g44_2, g44_3, g44_5, g44_6, g44_10, g51_3, g51_4, g51_5, g51_6, g51_7, g57_3, g57_4, g57_5, g57_6, g57_7, n120, n121, g122_0, g122_4, g122_5, g122_6, g122_7, g122_8, g122_18, g122_19, g122_20, g122_21, g122_24, g122_25, g122_28, g122_29, g122_31, g122_32, g122_33, g122_39, g122_40, g122_41, g122_45, g122_46, g122_47, g122_48, n123, n124, n125, n126, n127, n128, n129, n130, n131, n132, n133, n134, n135, n136, n137, n138, n139, n140, n141, n142, n143, n144, n145, n146, bI, e0, XD j (by omega), RD h FrP.rf j (by omega)]
        by_cases c : R j = 10 <;> simp [c]
      · show B_X12_passes_15 _ _ _ _ _ _ = _
        unfold B_X12_passes_15
        by_cases z : n ≤ j + 1
        · simp (disch := omega) only [↓m1_n, li_n, li_0, li_1, lt_y, lt_n, le_y, le_n, eq_n, nL, nLe, nEq, nEm, mEn, nLm, mLn, nLem, mLen, nI_add, nI_mul, nI_sub, nI_m, ib_nI, nx_nI, gd_y, bnd_e, bind_y, ↓reduceIte, hI_uI_o, hI_uI_s, hI_uI_e, hL_uI, hI_uL, hL_uL_o, hL_uL_s, hL_uL_e, and1_a, and1_b, Bool.not_true, Bool.not_false, Nat.zero_add, Nat.add_zero, Nat.add_sub_cancel, eq_self, ne_b, g0_0, g0_1, g0_2, g0_3, g0_4, g0_5, g0_6, g0_7, g0_8, g0_9, n1, n2, g3_2, g3_3, g3_4, g3_5, g3_6, g3_7, g3_8, g3_9, n4, n5, n6, n7, n8, n9, g10_2, g10_3, g10_4, g10_5, n11, n12, n13, n14, g15_2, g15_3, g15_4, g15_5, n16, n17, n18, n19, g40_0, g40_1, g40_2, g44_0, g44_2, g44_3, g44_5, g44_6, g44_10, g51_3, g51_4, g51_5, g51_6, g51_7, g57_3, g57_4, g57_5, g57_6, g57_7, n120, n121, g122_0, g122_4, g122_5, g122_6, g122_7, g122_8, g122_18, g122_19, g122_20, g122_21, g122_24, g122_25, g122_28, g122_29, g122_31, g122_32, g122_33, g122_39, g122_40, g122_41, g122_45, g122_46, g122_47, g122_48, n123, n124, n125, n126, n127, n128, n129, n130, n131, n132, n133, n134, n135, n136, n137, n138, n139, n140, n141, n142, n143, n144, n145, n146, z]
        · simp (disch := omega) only [↓m1_n, li_n, li_0, li_1, lt_y, lt_n, le_y, le_n, eq_n, nL, nLe, nEq, nEm, mEn, nLm, mLn, nLem, mLen, nI_add, nI_mul, nI_sub, nI_m, ib_nI, nx_nI, gd_y, bnd_e, bind_y, ↓reduceIte, hI_uI_o, hI_uI_s, hI_uI_e, hL_uI, hI_uL, hL_uL_o, hL_uL_s, hL_uL_e, and1_a, and1_b, Bool.not_true, Bool.not_false, Nat.zero_add, Nat.add_zero, Nat.add_sub_cancel, eq_self, ne_b, g0_0, g0_1, g0_2, g0_3, g0_4, g0_5, g0_6, g0_7, g0_8, g0_9, n1, n2, g3_2, g3_3, g3_4, g3_5, g3_6, g3_7, g3_8, g3_9, n4, n5, n6, n7, n8, n9, g10_2, g10_3, g10_4, g10_5, n11, n12, n13, n14, g15_2, g15_3, g15_4, g15_5, n16, n17, n18, n19, g40_0, g40_1, g40_2, g44_0, g44_2, g44_3, g44_5, g44_6, g44_10, g51_3, g51_4, g51_5, g51_6, g51_7, g57_3, g57_4, g57_5, g57_6, g57_7, n120, n121, g122_0, g122_4, g122_5, g122_6, g122_7, g122_8, g122_18, g122_19, g122_20, g122_21, g122_24, g122_25, g122_28, g122_29, g122_31, g122_32, g122_33, g122_39, g122_40, g122_41, g122_45, g122_46, g122_47, g122_48, n123, n124, n125, n126, n127, n128, n129, n130, n131, n132, n133, n134, n135, n136, n137, n138, n139, n140, n141, n142, n143, n144, n145, n146, bI]
      · show B_X12_passes_15 _ _ _ _ _ _ = _
        unfold B_X12_passes_15
        simp (disch := omega) only [↓m1_n, li_n, li_0, li_1, lt_y, lt_n, le_y, le_n, eq_n, nL, nLe, nEq, nEm, mEn, nLm, mLn, nLem, mLen, nI_add, nI_mul, nI_sub, nI_m, ib_nI, nx_nI, gd_y, bnd_e, bind_y, ↓reduceIte, hI_uI_o, hI_uI_s, hI_uI_e, hL_uI, hI_uL, hL_uL_o, hL_uL_s, hL_uL_e, and1_a, and1_b, Bool.not_true, Bool.not_false, Nat.zero_add, Nat.add_zero, Nat.add_sub_cancel, eq_self, ne_b, g0_0, g0_1, g0_2, g0_3, g0_4, g0_5, g0_6, g0_7, g0_8, g0_9, n1, n2, g3_2, g3_3, g3_4, g3_5, g3_6, g3_7, g3_8, g3_9, n4, n5, n6, n7, n8, n9, g10_2, g10_3, g10_4, g10_5, n11, n12, n13, n14, g15_2, g15_3, g15_4, g15_5, n16, n17, n18, n19, g40_0, g40_1, g40_2, g44_0, g44_2, g44_3, g44_5, g44_6, g44_10, g51_3, g51_4, g51_5, g51_6, g51_7, g57_3, g57_4, g57_5, g57_6, g57_7, n120, n121, g122_0, g122_4, g122_5, g122_6, g122_7, g122_8, g122_18, g122_19, g122_20, g122_21, g122_24, g122_25, g122_28, g122_29, g122_31, g122_32, g122_33, g122_39, g122_40, g122_41, g122_45, g122_46, g122_47, g122_48, n123, n124, n125, n126, n127, n128, n129, n130, n131, n132, n133, n134, n135, n136, n137, n138, n139, n140, n141, n142, n143, n144, n145, n146]
    rw [key]
    unfold thr
    cases e : fst1 (fun k => decide (R k = 10)) n 0 with
    | none => exact ⟨h, rfl, FrP.rf, rfl, by rw [e0, if_pos rfl]; rfl⟩
    | some j => exact ⟨uI h 122 26 (nI j), rfl, FrP.u1, hI_uI_o (by decide), by rw [hI_uI_e, if_pos rfl]; rfl⟩
theorem m_ps2 {t p : Nat} {x : Int32} (ht : t ≤ 30) (hR : ∀ k, R k ≤ 11) (hp : p < 12) (RD : ∀ h', FrP h h' → ∀ k, k < t → F_X12_reads h' 122 (nI (D k)) (nI col) = some (nI (R k))) (e0 : hI h 122 26 = nI t) (XD : ∀ k, k < t → hI h 134 k = nI (D k)) (hL0 : ∀ i, i < t → R i < p → hI h 133 (psn R t i) = nI (D i)) : ∃ h', L_X12_passes_99 h 122 (nI col) (nI p) x (nI (blw R p t)) (nI 0) = some (h', nI (blw R (p + 1) t)) ∧ FrP h h' ∧ hI h' 134 = hI h 134 ∧ hI h' 122 = hI h 122 ∧ ∀ i, i < t → R i < p + 1 → hI h' 133 (psn R t i) = nI (D i) := by
  have key : ∃ r, L_X12_passes_99 h 122 (nI col) (nI p) x (nI (blw R p t)) (nI 0) = some r ∧ ∃ h', r = (h', nI (blw R (p + 1) t)) ∧ FrP h h' ∧ hI h' 134 = hI h 134 ∧ hI h' 122 = hI h 122 ∧ ∀ i, i < t → R i < p + 1 → hI h' 133 (psn R t i) = nI (D i) := by
    refine iterW_inv (fun j s => s.2.2 = nI j ∧ s.2.1 = nI (blw R p t + inp R p j) ∧ FrP h s.1 ∧ hI s.1 134 = hI h 134 ∧ hI s.1 122 = hI h 122 ∧ ∀ i, i < t → R i < p ∨ (R i = p ∧ i < j) → hI s.1 133 (psn R t i) = nI (D i)) _ t (fun j s hj q => ?_) (fun s q => ?_) ⟨rfl, by rw [inp_0, Nat.add_zero], FrP.rf, rfl, rfl, fun i hi hc => ?_⟩
    · obtain ⟨q1, q2, q3, q4, q5, q6⟩ := q
      have hr := hR j
      by_cases c : R j = p
      · have hps : blw R p t + inp R p j = psn R t j := by unfold psn; rw [c]
        have hl := psn_lt (R := R) hj
        refine ⟨(uI s.1 133 (psn R t j) (nI (D j)), nI (psn R t j + 1), nI (j + 1)), ?_, rfl, ?_, q3.trans FrP.u3, by rw [hI_uI_o (by decide)]; exact q4, by rw [hI_uI_o (by decide)]; exact q5, fun i hi hc => ?_⟩
        · show B_X12_passes_99 _ _ _ _ _ _ _ = _
          unfold B_X12_passes_99
          rw [q1, q2, hps]
          simp (disch := omega) only [↓m1_n, li_n, li_0, li_1, lt_y, lt_n, le_y, le_n, eq_n, nL, nLe, nEq, nEm, mEn, nLm, mLn, nLem, mLen, nI_add, nI_mul, nI_sub, nI_m, ib_nI, nx_nI, gd_y, bnd_e, bind_y, ↓reduceIte, hI_uI_o, hI_uI_s, hI_uI_e, hL_uI, hI_uL, hL_uL_o, hL_uL_s, hL_uL_e, and1_a, and1_b, Bool.not_true, Bool.not_false, Nat.zero_add, Nat.add_zero, Nat.add_sub_cancel, eq_self, ne_b, g0_0, g0_1, g0_2, g0_3, g0_4, g0_5, g0_6, g0_7, g0_8, g0_9, n1, n2, g3_2, g3_3, g3_4, g3_5, g3_6, g3_7, g3_8, g3_9, n4, n5, n6, n7, n8, n9, g10_2, g10_3, g10_4, g10_5, n11, n12, n13, n14, g15_2, g15_3, g15_4, g15_5, n16, n17, n18, n19, g40_0, g40_1, g40_2, g44_0, g44_2, g44_3, g44_5, g44_6, g44_10, g51_3, g51_4, g51_5, g51_6, g51_7, g57_3, g57_4, g57_5, g57_6, g57_7, n120, n121, g122_0, g122_4, g122_5, g122_6, g122_7, g122_8, g122_18, g122_19, g122_20, g122_21, g122_24, g122_25, g122_28, g122_29, g122_31, g122_32, g122_33, g122_39, g122_40, g122_41, g122_45, g122_46, g122_47, g122_48, n123, n124, n125, n126, n127, n128, n129, n130, n131, n132, n133, n134, n135, n136, n137, n138, n139, n140, n141, n142, n143, n144, n145, n146, q4, q5, e0, XD j hj, RD s.1 q3 j hj, c]
        · rw [inp_s, if_pos c, ← Nat.add_assoc, hps]
        · by_cases ci : i = j
          · subst ci
            rw [hI_uI_e]
          · rw [hI_uI_s (fun e => ci (psn_inj hi hj e))]
            exact q6 i hi (by omega)
      · refine ⟨(s.1, nI (blw R p t + inp R p j), nI (j + 1)), ?_, rfl, ?_, q3, q4, q5, fun i hi hc => ?_⟩
        · show B_X12_passes_99 _ _ _ _ _ _ _ = _
          unfold B_X12_passes_99
          rw [q1, q2]
          simp (disch := omega) only [↓m1_n, li_n, li_0, li_1, lt_y, lt_n, le_y, le_n, eq_n, nL, nLe, nEq, nEm, mEn, nLm, mLn, nLem, mLen, nI_add, nI_mul, nI_sub, nI_m, ib_nI, nx_nI, gd_y, bnd_e, bind_y, ↓reduceIte, hI_uI_o, hI_uI_s, hI_uI_e, hL_uI, hI_uL, hL_uL_o, hL_uL_s, hL_uL_e, and1_a, and1_b, Bool.not_true, Bool.not_false, Nat.zero_add, Nat.add_zero, Nat.add_sub_cancel, eq_self, ne_b, g0_0, g0_1, g0_2, g0_3, g0_4, g0_5, g0_6, g0_7, g0_8, g0_9, n1, n2, g3_2, g3_3, g3_4, g3_5, g3_6, g3_7, g3_8, g3_9, n4, n5, n6, n7, n8, n9, g10_2, g10_3, g10_4, g10_5, n11, n12, n13, n14, g15_2, g15_3, g15_4, g15_5, n16, n17, n18, n19, g40_0, g40_1, g40_2, g44_0, g44_2, g44_3, g44_5, g44_6, g44_10, g51_3, g51_4, g51_5, g51_6, g51_7, g57_3, g57_4, g57_5, g57_6, g57_7, n120, n121, g122_0, g122_4, g122_5, g122_6, g122_7, g122_8, g122_18, g122_19, g122_20, g122_21, g122_24, g122_25, g122_28, g122_29, g122_31, g122_32, g122_33, g122_39, g122_40, g122_41, g122_45, g122_46, g122_47, g122_48, n123, n124, n125, n126, n127, n128, n129, n130, n131, n132, n133, n134, n135, n136, n137, n138, n139, n140, n141, n142, n143, n144, n145, n146, q4, q5, e0, XD j hj, RD s.1 q3 j hj, c]
        · show nI (blw R p t + inp R p j) = nI (blw R p t + inp R p (j + 1))
          rw [inp_s, if_neg c, Nat.add_zero]
        · refine q6 i hi ?_
          rcases hc with hc | ⟨h1, h2⟩
          · exact Or.inl hc
          · refine Or.inr ⟨h1, ?_⟩
            by_cases ci : i = j
            · subst ci; exact absurd h1 c
            · omega
    · obtain ⟨q1, q2, q3, q4, q5, q6⟩ := q
      refine ⟨(s.1, nI (blw R (p + 1) t)), ?_, s.1, rfl, q3, q4, q5, fun i hi hc => q6 i hi (by omega)⟩
      show B_X12_passes_99 _ _ _ _ _ _ _ = _
      unfold B_X12_passes_99
      rw [q1, q2, ← blw_s]
      simp (disch := omega) only [↓m1_n, li_n, li_0, li_1, lt_y, lt_n, le_y, le_n, eq_n, nL, nLe, nEq, nEm, mEn, nLm, mLn, nLem, mLen, nI_add, nI_mul, nI_sub, nI_m, ib_nI, nx_nI, gd_y, bnd_e, bind_y, ↓reduceIte, hI_uI_o, hI_uI_s, hI_uI_e, hL_uI, hI_uL, hL_uL_o, hL_uL_s, hL_uL_e, and1_a, and1_b, Bool.not_true, Bool.not_false, Nat.zero_add, Nat.add_zero, Nat.add_sub_cancel, eq_self, ne_b, g0_0, g0_1, g0_2, g0_3, g0_4, g0_5, g0_6, g0_7, g0_8, g0_9, n1, n2, g3_2, g3_3, g3_4, g3_5, g3_6, g3_7, g3_8, g3_9, n4, n5, n6, n7, n8, n9, g10_2, g10_3, g10_4, g10_5, n11, n12, n13, n14, g15_2, g15_3, g15_4, g15_5, n16, n17, n18, n19, g40_0, g40_1, g40_2, g44_0, g44_2, g44_3, g44_5, g44_6, g44_10, g51_3, g51_4, g51_5, g51_6, g51_7, g57_3, g57_4, g57_5, g57_6, g57_7, n120, n121, g122_0, g122_4, g122_5, g122_6, g122_7, g122_8, g122_18, g122_19, g122_20, g122_21, g122_24, g122_25, g122_28, g122_29, g122_31, g122_32, g122_33, g122_39, g122_40, g122_41, g122_45, g122_46, g122_47, g122_48, n123, n124, n125, n126, n127, n128, n129, n130, n131, n132, n133, n134, n135, n136, n137, n138, n139, n140, n141, n142, n143, n144, n145, n146, q5, e0]
    · exact hL0 i hi (by omega)
  obtain ⟨r, e1, h3, e2, e3⟩ := key
  exact ⟨h3, by rw [e1, e2], e3⟩
theorem m_ps3 {t c : Nat} (ht : t ≤ 30) (hc : c ≤ 1) (hR : ∀ k, R k ≤ 11) (RD : ∀ h', FrP h h' → ∀ k, k < t → F_X12_reads h' 122 (nI (D k)) (nI col) = some (nI (R k))) (e0 : hI h 122 26 = nI t) (e1 : hI h 122 27 = nI c) (XD : ∀ k, k < t → hI h 134 k = nI (D k)) : ∃ h', L_X12_passes_85 h 122 (nI col) (nI 0) (nI 0) = some h' ∧ FrP h h' ∧ hI h' 134 = hI h 134 ∧ hI h' 122 26 = nI t ∧ hI h' 122 27 = nI (c + fil R t 12) ∧ ∀ i, i < t → hI h' 133 (psn R t i) = nI (D i) := by
  refine iterW_inv (fun p s => s.2.2 = nI p ∧ s.2.1 = nI (blw R p t) ∧ FrP h s.1 ∧ hI s.1 134 = hI h 134 ∧ hI s.1 122 26 = nI t ∧ hI s.1 122 27 = nI (c + fil R t p) ∧ ∀ i, i < t → R i < p → hI s.1 133 (psn R t i) = nI (D i)) _ 12 (fun p s hp q => ?_) (fun s q => ?_) ⟨rfl, by rw [blw_0], FrP.rf, rfl, e0, e1, fun i _ hi => by omega⟩
  · obtain ⟨q1, q2, q3, q4, q5, q6, q7⟩ := q
    obtain ⟨h', a1, a2, a3, a4, a5⟩ := m_ps2 (h := s.1) (x := nI (blw R p t)) ht hR hp (fun h' f k hk => RD h' (q3.trans f) k hk) q5 (fun k hk => by rw [q4]; exact XD k hk) q7
    have b1 := blw_le (R := R) (p := p) (n := t)
    have b2 := blw_le (R := R) (p := p + 1) (n := t)
    have b3 := blw_s (R := R) (p := p) t
    have f1 : fil R t p ≤ p := cnt_le _ _
    refine ⟨(uI h' 122 27 (nI (c + fil R t (p + 1))), nI (blw R (p + 1) t), nI (p + 1)), ?_, rfl, rfl, (q3.trans a2).trans FrP.u2, by rw [hI_uI_o (by decide), a3]; exact q4, by rw [hI_uI_s (by decide), a4]; exact q5, hI_uI_e, fun i hi hc => by rw [hI_uI_o (by decide)]; exact a5 i hi hc⟩
    show B_X12_passes_85 _ _ _ _ _ = _
    unfold B_X12_passes_85
    rw [q1, q2, fil_s]
    by_cases z : 0 < inp R p t
    · simp (disch := omega) only [↓m1_n, li_n, li_0, li_1, lt_y, lt_n, le_y, le_n, eq_n, nL, nLe, nEq, nEm, mEn, nLm, mLn, nLem, mLen, nI_add, nI_mul, nI_sub, nI_m, ib_nI, nx_nI, gd_y, bnd_e, bind_y, ↓reduceIte, hI_uI_o, hI_uI_s, hI_uI_e, hL_uI, hI_uL, hL_uL_o, hL_uL_s, hL_uL_e, and1_a, and1_b, Bool.not_true, Bool.not_false, Nat.zero_add, Nat.add_zero, Nat.add_sub_cancel, eq_self, ne_b, g0_0, g0_1, g0_2, g0_3, g0_4, g0_5, g0_6, g0_7, g0_8, g0_9, n1, n2, g3_2, g3_3, g3_4, g3_5, g3_6, g3_7, g3_8, g3_9, n4, n5, n6, n7, n8, n9, g10_2, g10_3, g10_4, g10_5, n11, n12, n13, n14, g15_2, g15_3, g15_4, g15_5, n16, n17, n18, n19, g40_0, g40_1, g40_2, g44_0, g44_2, g44_3, g44_5, g44_6, g44_10, g51_3, g51_4, g51_5, g51_6, g51_7, g57_3, g57_4, g57_5, g57_6, g57_7, n120, n121, g122_0, g122_4, g122_5, g122_6, g122_7, g122_8, g122_18, g122_19, g122_20, g122_21, g122_24, g122_25, g122_28, g122_29, g122_31, g122_32, g122_33, g122_39, g122_40, g122_41, g122_45, g122_46, g122_47, g122_48, n123, n124, n125, n126, n127, n128, n129, n130, n131, n132, n133, n134, n135, n136, n137, n138, n139, n140, n141, n142, n143, n144, n145, n146, a1, a4, q6, z]
      rw [Nat.add_assoc]
    · simp (disch := omega) only [↓m1_n, li_n, li_0, li_1, lt_y, lt_n, le_y, le_n, eq_n, nL, nLe, nEq, nEm, mEn, nLm, mLn, nLem, mLen, nI_add, nI_mul, nI_sub, nI_m, ib_nI, nx_nI, gd_y, bnd_e, bind_y, ↓reduceIte, hI_uI_o, hI_uI_s, hI_uI_e, hL_uI, hI_uL, hL_uL_o, hL_uL_s, hL_uL_e, and1_a, and1_b, Bool.not_true, Bool.not_false, Nat.zero_add, Nat.add_zero, Nat.add_sub_cancel, eq_self, ne_b, g0_0, g0_1, g0_2, g0_3, g0_4, g0_5, g0_6, g0_7, g0_8, g0_9, n1, n2, g3_2, g3_3, g3_4, g3_5, g3_6, g3_7, g3_8, g3_9, n4, n5, n6, n7, n8, n9, g10_2, g10_3, g10_4, g10_5, n11, n12, n13, n14, g15_2, g15_3, g15_4, g15_5, n16, n17, n18, n19, g40_0, g40_1, g40_2, g44_0, g44_2, g44_3, g44_5, g44_6, g44_10, g51_3, g51_4, g51_5, g51_6, g51_7, g57_3, g57_4, g57_5, g57_6, g57_7, n120, n121, g122_0, g122_4, g122_5, g122_6, g122_7, g122_8, g122_18, g122_19, g122_20, g122_21, g122_24, g122_25, g122_28, g122_29, g122_31, g122_32, g122_33, g122_39, g122_40, g122_41, g122_45, g122_46, g122_47, g122_48, n123, n124, n125, n126, n127, n128, n129, n130, n131, n132, n133, n134, n135, n136, n137, n138, n139, n140, n141, n142, n143, n144, n145, n146, a1, a4, q6, z]
  · obtain ⟨q1, q2, q3, q4, q5, q6, q7⟩ := q
    refine ⟨s.1, ?_, q3, q4, q5, q6, fun i hi => q7 i hi (by have := hR i; omega)⟩
    show B_X12_passes_85 _ _ _ _ _ = _
    unfold B_X12_passes_85
    rw [q1]
    simp (disch := omega) only [↓m1_n, li_n, li_0, li_1, lt_y, lt_n, le_y, le_n, eq_n, nL, nLe, nEq, nEm, mEn, nLm, mLn, nLem, mLen, nI_add, nI_mul, nI_sub, nI_m, ib_nI, nx_nI, gd_y, bnd_e, bind_y, ↓reduceIte, hI_uI_o, hI_uI_s, hI_uI_e, hL_uI, hI_uL, hL_uL_o, hL_uL_s, hL_uL_e, and1_a, and1_b, Bool.not_true, Bool.not_false, Nat.zero_add, Nat.add_zero, Nat.add_sub_cancel, eq_self, ne_b, g0_0, g0_1, g0_2, g0_3, g0_4, g0_5, g0_6, g0_7, g0_8, g0_9, n1, n2, g3_2, g3_3, g3_4, g3_5, g3_6, g3_7, g3_8, g3_9, n4, n5, n6, n7, n8, n9, g10_2, g10_3, g10_4, g10_5, n11, n12, n13, n14, g15_2, g15_3, g15_4, g15_5, n16, n17, n18, n19, g40_0, g40_1, g40_2, g44_0, g44_2, g44_3, g44_5, g44_6, g44_10, g51_3, g51_4, g51_5, g51_6, g51_7, g57_3, g57_4, g57_5, g57_6, g57_7, n120, n121, g122_0, g122_4, g122_5, g122_6, g122_7, g122_8, g122_18, g122_19, g122_20, g122_21, g122_24, g122_25, g122_28, g122_29, g122_31, g122_32, g122_33, g122_39, g122_40, g122_41, g122_45, g122_46, g122_47, g122_48, n123, n124, n125, n126, n127, n128, n129, n130, n131, n132, n133, n134, n135, n136, n137, n138, n139, n140, n141, n142, n143, n144, n145, n146]
theorem m_ps4 {t : Nat} (ht : t ≤ 30) (e0 : hI h 122 26 = nI t) : ∃ h', L_X12_passes_181 h 122 (nI 0) = some h' ∧ FrP h h' ∧ hI h' 122 = hI h 122 ∧ (∀ y, y < t → hI h' 134 y = hI h 133 y) ∧ (∀ y, t ≤ y → hI h' 134 y = hI h 134 y) := by
  refine iterW_inv (fun j s => s.2 = nI j ∧ FrP h s.1 ∧ hI s.1 122 = hI h 122 ∧ hI s.1 133 = hI h 133 ∧ (∀ y, y < j → hI s.1 134 y = hI h 133 y) ∧ (∀ y, j ≤ y → hI s.1 134 y = hI h 134 y)) _ t (fun j s hj q => ?_) (fun s q => ?_) ⟨rfl, FrP.rf, rfl, rfl, fun y hy => by omega, fun _ _ => rfl⟩
  · obtain ⟨q1, q2, q3, q4, q5, q6⟩ := q
    refine ⟨(uI s.1 134 j (hI h 133 j), nI (j + 1)), ?_, rfl, q2.trans FrP.u4, by rw [hI_uI_o (by decide)]; exact q3, by rw [hI_uI_o (by decide)]; exact q4, fun y hy => ?_, fun y hy => by rw [hI_uI_s (by omega)]; exact q6 y (by omega)⟩
    · show B_X12_passes_181 _ _ _ = _
      unfold B_X12_passes_181
      rw [q1]
      simp (disch := omega) only [↓m1_n, li_n, li_0, li_1, lt_y, lt_n, le_y, le_n, eq_n, nL, nLe, nEq, nEm, mEn, nLm, mLn, nLem, mLen, nI_add, nI_mul, nI_sub, nI_m, ib_nI, nx_nI, gd_y, bnd_e, bind_y, ↓reduceIte, hI_uI_o, hI_uI_s, hI_uI_e, hL_uI, hI_uL, hL_uL_o, hL_uL_s, hL_uL_e, and1_a, and1_b, Bool.not_true, Bool.not_false, Nat.zero_add, Nat.add_zero, Nat.add_sub_cancel, eq_self, ne_b, g0_0, g0_1, g0_2, g0_3, g0_4, g0_5, g0_6, g0_7, g0_8, g0_9, n1, n2, g3_2, g3_3, g3_4, g3_5, g3_6, g3_7, g3_8, g3_9, n4, n5, n6, n7, n8, n9, g10_2, g10_3, g10_4, g10_5, n11, n12, n13, n14, g15_2, g15_3, g15_4, g15_5, n16, n17, n18, n19, g40_0, g40_1, g40_2, g44_0, g44_2, g44_3, g44_5, g44_6, g44_10, g51_3, g51_4, g51_5, g51_6, g51_7, g57_3, g57_4, g57_5, g57_6, g57_7, n120, n121, g122_0, g122_4, g122_5, g122_6, g122_7, g122_8, g122_18, g122_19, g122_20, g122_21, g122_24, g122_25, g122_28, g122_29, g122_31, g122_32, g122_33, g122_39, g122_40, g122_41, g122_45, g122_46, g122_47, g122_48, n123, n124, n125, n126, n127, n128, n129, n130, n131, n132, n133, n134, n135, n136, n137, n138, n139, n140, n141, n142, n143, n144, n145, n146, q3, q4, e0]
    · by_cases c : y = j
      · subst c
        rw [hI_uI_e]
      · rw [hI_uI_s c]
        exact q5 y (by omega)
  · obtain ⟨q1, q2, q3, q4, q5, q6⟩ := q
    refine ⟨s.1, ?_, q2, q3, q5, q6⟩
    show B_X12_passes_181 _ _ _ = _
    unfold B_X12_passes_181
    rw [q1]
    simp (disch := omega) only [↓m1_n, li_n, li_0, li_1, lt_y, lt_n, le_y, le_n, eq_n, nL, nLe, nEq, nEm, mEn, nLm, mLn, nLem, mLen, nI_add, nI_mul, nI_sub, nI_m, ib_nI, nx_nI, gd_y, bnd_e, bind_y, ↓reduceIte, hI_uI_o, hI_uI_s, hI_uI_e, hL_uI, hI_uL, hL_uL_o, hL_uL_s, hL_uL_e, and1_a, and1_b, Bool.not_true, Bool.not_false, Nat.zero_add, Nat.add_zero, Nat.add_sub_cancel, eq_self, ne_b, g0_0, g0_1, g0_2, g0_3, g0_4, g0_5, g0_6, g0_7, g0_8, g0_9, n1, n2, g3_2, g3_3, g3_4, g3_5, g3_6, g3_7, g3_8, g3_9, n4, n5, n6, n7, n8, n9, g10_2, g10_3, g10_4, g10_5, n11, n12, n13, n14, g15_2, g15_3, g15_4, g15_5, n16, n17, n18, n19, g40_0, g40_1, g40_2, g44_0, g44_2, g44_3, g44_5, g44_6, g44_10, g51_3, g51_4, g51_5, g51_6, g51_7, g57_3, g57_4, g57_5, g57_6, g57_7, n120, n121, g122_0, g122_4, g122_5, g122_6, g122_7, g122_8, g122_18, g122_19, g122_20, g122_21, g122_24, g122_25, g122_28, g122_29, g122_31, g122_32, g122_33, g122_39, g122_40, g122_41, g122_45, g122_46, g122_47, g122_48, n123, n124, n125, n126, n127, n128, n129, n130, n131, n132, n133, n134, n135, n136, n137, n138, n139, n140, n141, n142, n143, n144, n145, n146, q3, e0]
end PS
theorem m_passes {h : Hp} {A : Ho} {q col : Nat} {b : Bool} {D : Nat → Nat} (ok : HoOk q A) (rm : RmH h 0 A) (hc : col < 8) (hD : ∀ k, k < oN A → hI h 134 k = nI (D k) ∧ D k < oN A) : ∃ h', F_X12_passes h 122 (nI col) (bI b) = some h' ∧ FrP h h' ∧ hI h' 122 26 = nI (thr (fun k => rdN (oH A (D k) col)) (oN A) b) ∧ hI h' 122 27 = nI ((if thr (fun k => rdN (oH A (D k) col)) (oN A) b < oN A then 1 else 0) + fil (fun k => rdN (oH A (D k) col)) (thr (fun k => rdN (oH A (D k) col)) (oN A) b) 12) ∧ ∀ y, y < oN A → hI h' 134 y = nI (srt (fun k => rdN (oH A (D k) col)) D (thr (fun k => rdN (oH A (D k) col)) (oN A) b) y) := by
  have hA := ok.1
  generalize hR : (fun k => rdN (oH A (D k) col)) = R
  have hR11 : ∀ k, R k ≤ 11 := fun k => by rw [← hR]; exact rdN_le _
  have RD : ∀ h', FrP h h' → ∀ k, k < oN A → F_X12_reads h' 122 (nI (D k)) (nI col) = some (nI (R k)) := fun h' f k hk => by
    rw [m_reads ok (f.rm rm) (hD k hk).2 hc, ← hR]
  have u1 : FrP h (uI h 122 26 (nI (oN A))) := FrP.u1
  obtain ⟨h1, a1, a2, a3, a4⟩ := m_ps1 (h := uI h 122 26 (nI (oN A))) (b := b) (n := oN A) (col := col) (D := D) (R := R) hA hR11 (fun h' f k hk => RD h' (u1.trans f) k hk) hI_uI_e (fun k hk => by rw [hI_uI_o (by decide)]; exact (hD k hk).1)
  have ht := thr_le (R := R) (n := oN A) (b := b)
  have v1 : FrP h h1 := u1.trans a2
  have x1 : ∀ k, hI h1 134 k = hI h 134 k := fun k => by rw [a3, hI_uI_o (by decide)]
  have fin : ∀ c, c ≤ 1 → ∃ h', (L_X12_passes_85 (uI h1 122 27 (nI c)) 122 (nI col) (nI 0) (nI 0)).bind (fun e1 => L_X12_passes_181 e1 122 (nI 0)) = some h' ∧ FrP h h' ∧ hI h' 122 26 = nI (thr R (oN A) b) ∧ hI h' 122 27 = nI (c + fil R (thr R (oN A) b) 12) ∧ ∀ y, y < oN A → hI h' 134 y = nI (srt R D (thr R (oN A) b) y) := by
    intro c hc1
    have v2 : FrP h (uI h1 122 27 (nI c)) := v1.trans FrP.u2
    obtain ⟨h2, b1, b2, b3, b4, b5, b6⟩ := m_ps3 (h := uI h1 122 27 (nI c)) (t := thr R (oN A) b) (c := c) (col := col) (D := D) (R := R) (by omega) hc1 hR11 (fun h' f k hk => RD h' (v2.trans f) k (by omega)) (by rw [hI_uI_s (by decide)]; exact a4) hI_uI_e (fun k hk => by rw [hI_uI_o (by decide), x1]; exact (hD k (by omega)).1)
    obtain ⟨h3, c1, c2, c3, c4, c5⟩ := m_ps4 (h := h2) (t := thr R (oN A) b) (by omega) b4
    refine ⟨h3, by rw [b1, Option.bind_some, c1], (v2.trans b2).trans c2, by rw [c3]; exact b4, by rw [c3]; exact b5, fun y hy => ?_⟩
    by_cases l : y < thr R (oN A) b
    · rw [c4 y l]
      exact srt_all b6 l
    · rw [c5 y (by omega), b3, hI_uI_o (by decide), x1, srt, if_neg l]
      exact (hD y hy).1
  unfold F_X12_passes J_X12_passes_62
  by_cases l : thr R (oN A) b < oN A
  · obtain ⟨h', d1, d2⟩ := fin 1 (by decide)
    refine ⟨h', ?_, ?_⟩
    · simp (disch := omega) only [↓m1_n, li_n, li_0, li_1, lt_y, lt_n, le_y, le_n, eq_n, nL, nLe, nEq, nEm, mEn, nLm, mLn, nLem, mLen, nI_add, nI_mul, nI_sub, nI_m, ib_nI, nx_nI, gd_y, bnd_e, bind_y, ↓reduceIte, hI_uI_o, hI_uI_s, hI_uI_e, hL_uI, hI_uL, hL_uL_o, hL_uL_s, hL_uL_e, and1_a, and1_b, Bool.not_true, Bool.not_false, Nat.zero_add, Nat.add_zero, Nat.add_sub_cancel, eq_self, ne_b, g0_0, g0_1, g0_2, g0_3, g0_4, g0_5, g0_6, g0_7, g0_8, g0_9, n1, n2, g3_2, g3_3, g3_4, g3_5, g3_6, g3_7, g3_8, g3_9, n4, n5, n6, n7, n8, n9, g10_2, g10_3, g10_4, g10_5, n11, n12, n13, n14, g15_2, g15_3, g15_4, g15_5, n16, n17, n18, n19, g40_0, g40_1, g40_2, g44_0, g44_2, g44_3, g44_5, g44_6, g44_10, g51_3, g51_4, g51_5, g51_6, g51_7, g57_3, g57_4, g57_5, g57_6, g57_7, n120, n121, g122_0, g122_4, g122_5, g122_6, g122_7, g122_8, g122_18, g122_19, g122_20, g122_21, g122_24, g122_25, g122_28, g122_29, g122_31, g122_32, g122_33, g122_39, g122_40, g122_41, g122_45, g122_46, g122_47, g122_48, n123, n124, n125, n126, n127, n128, n129, n130, n131, n132, n133, n134, n135, n136, n137, n138, n139, n140, n141, n142, n143, n144, n145, n146, mNc rm, a1, a4, d1]
    · rw [if_pos l]
      exact d2
  · obtain ⟨h', d1, d2⟩ := fin 0 (by decide)
    refine ⟨h', ?_, ?_⟩
    · simp (disch := omega) only [↓m1_n, li_n, li_0, li_1, lt_y, lt_n, le_y, le_n, eq_n, nL, nLe, nEq, nEm, mEn, nLm, mLn, nLem, mLen, nI_add, nI_mul, nI_sub, nI_m, ib_nI, nx_nI, gd_y, bnd_e, bind_y, ↓reduceIte, hI_uI_o, hI_uI_s, hI_uI_e, hL_uI, hI_uL, hL_uL_o, hL_uL_s, hL_uL_e, and1_a, and1_b, Bool.not_true, Bool.not_false, Nat.zero_add, Nat.add_zero, Nat.add_sub_cancel, eq_self, ne_b, g0_0, g0_1, g0_2, g0_3, g0_4, g0_5, g0_6, g0_7, g0_8, g0_9, n1, n2, g3_2, g3_3, g3_4, g3_5, g3_6, g3_7, g3_8, g3_9, n4, n5, n6, n7, n8, n9, g10_2, g10_3, g10_4, g10_5, n11, n12, n13, n14, g15_2, g15_3, g15_4, g15_5, n16, n17, n18, n19, g40_0, g40_1, g40_2, g44_0, g44_2, g44_3, g44_5, g44_6, g44_10, g51_3, g51_4, g51_5, g51_6, g51_7, g57_3, g57_4, g57_5, g57_6, g57_7, n120, n121, g122_0, g122_4, g122_5, g122_6, g122_7, g122_8, g122_18, g122_19, g122_20, g122_21, g122_24, g122_25, g122_28, g122_29, g122_31, g122_32, g122_33, g122_39, g122_40, g122_41, g122_45, g122_46, g122_47, g122_48, n123, n124, n125, n126, n127, n128, n129, n130, n131, n132, n133, n134, n135, n136, n137, n138, n139, n140, n141, n142, n143, n144, n145, n146, mNc rm, a1, a4, d1]
    · rw [if_neg l]
      exact d2
