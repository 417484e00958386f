/-! ===== what else moves the deck: put, cut, turn ===== -/
def putR (A : Ho) (col rd : Nat) (k : Nat) : Nat := if rdN (oH A (oD A k) col) = rd then 1 else 0
theorem putR_le {A : Ho} {col rd k : Nat} : putR A col rd k ≤ 1 := by
  unfold putR
  by_cases c : rdN (oH A (oD A k) col) = rd
  · rw [if_pos c]; exact Nat.le_refl _
  · rw [if_neg c]; exact Nat.zero_le _
theorem c_put1 {h : Hp} {A : Ho} {q col rd p : Nat} (ok : HoOk q A) (rc : RcH h 3 A) (hc : col < 8) (hr : rd < 12) (hp : p < 2) (h0 : ∀ i, i < oN A → putR A col rd i < p → hI h 41 (psn (putR A col rd) (oN A) i) = nI (oD A i)) : ∃ h', L_X3_putBehind_15 h 40 3 (nI col) (nI rd) (nI p) (nI (blw (putR A col rd) p (oN A))) (nI 0) = some (h', nI (blw (putR A col rd) (p + 1) (oN A))) ∧ (∀ d, d ≠ 41 → hI h' d = hI h d) ∧ hL h' = hL h ∧ ∀ i, i < oN A → putR A col rd i < p + 1 → hI h' 41 (psn (putR A col rd) (oN A) i) = nI (oD A i) := by
  have hA := ok.1
  generalize hR : putR A col rd = R at *
  have hR1 : ∀ k, R k ≤ 1 := fun k => by rw [← hR]; exact putR_le
  have key : ∃ r, L_X3_putBehind_15 h 40 3 (nI col) (nI rd) (nI p) (nI (blw R p (oN A))) (nI 0) = some r ∧ ∃ h', r = (h', nI (blw R (p + 1) (oN A))) ∧ (∀ d, d ≠ 41 → hI h' d = hI h d) ∧ hL h' = hL h ∧ ∀ i, i < oN A → R i < p + 1 → hI h' 41 (psn R (oN A) i) = nI (oD A i) := by
    refine iterW_inv (fun j s => s.2.2 = nI j ∧ s.2.1 = nI (blw R p (oN A) + inp R p j) ∧ (∀ d, d ≠ 41 → hI s.1 d = hI h d) ∧ hL s.1 = hL h ∧ ∀ i, i < oN A → R i < p ∨ (R i = p ∧ i < j) → hI s.1 41 (psn R (oN A) i) = nI (oD A i)) _ (oN A) (fun j s hj z => ?_) (fun s z => ?_) ⟨rfl, by rw [inp_0, Nat.add_zero], fun _ _ => rfl, rfl, fun i hi hc => h0 i hi (by omega)⟩
    · obtain ⟨q1, q2, q3, q4, q5⟩ := z
      have rs : RcH s.1 3 A := RcH_congr (fun d a b => q3 d (by omega)) rc
      have hd := (ok.2.1 j hj).2.2.2.2
      have hrd := rdN_le (oH A (oD A j) col)
      have eR : R j = if rdN (oH A (oD A j) col) = rd then 1 else 0 := by rw [← hR]; rfl
      by_cases c : R j = p
      · have hps : blw R p (oN A) + inp R p j = psn R (oN A) j := by unfold psn; rw [c]
        have hl := psn_lt (R := R) hj
        refine ⟨(uI s.1 41 (psn R (oN A) j) (nI (oD A j)), nI (psn R (oN A) j + 1), nI (j + 1)), ?_, rfl, ?_, fun d hd => by rw [hI_uI_o hd]; exact q3 d hd, q4, fun i hi hc => ?_⟩
        · show B_X3_putBehind_15 _ _ _ _ _ _ _ _ = _
          unfold B_X3_putBehind_15 J_X3_putBehind_45 J_X3_putBehind_60
          rw [q1, q2, hps]
          rw [eR] at c
          by_cases e : rdN (oH A (oD A j) col) = rd
          · rw [if_pos e] at c
            subst c
            simp (disch := omega) only [↓m1_n, li_n, li_0, li_1, lt_y, lt_n, le_y, le_n, eq_n, nL, nLe, nEq, nEm, mEn, nLm, mLn, nLem, mLen, nI_add, nI_mul, nI_sub, nI_m, ib_nI, nx_nI, gd_y, bnd_e, bind_y, ↓reduceIte, hI_uI_o, hI_uI_s, hI_uI_e, hL_uI, hI_uL, hL_uL_o, hL_uL_s, hL_uL_e, and1_a, and1_b, Bool.not_true, Bool.not_false, Nat.zero_add, Nat.add_zero, Nat.add_sub_cancel, eq_self, ne_b, g0_0, g0_1, g0_2, g0_3, g0_4, g0_5, g0_6, g0_7, g0_8, g0_9, n1, n2, g3_2, g3_3, g3_4, g3_5, g3_6, g3_7, g3_8, g3_9, n4, n5, n6, n7, n8, n9, g10_2, g10_3, g10_4, g10_5, n11, n12, n13, n14, g15_2, g15_3, g15_4, g15_5, n16, n17, n18, n19, g40_0, g40_1, g40_2, g44_0, g44_2, g44_3, g44_5, g44_6, g44_10, g51_3, g51_4, g51_5, g51_6, g51_7, g57_3, g57_4, g57_5, g57_6, g57_7, n120, n121, g122_0, g122_4, g122_5, g122_6, g122_7, g122_8, g122_18, g122_19, g122_20, g122_21, g122_24, g122_25, g122_28, g122_29, g122_31, g122_32, g122_33, g122_39, g122_40, g122_41, g122_45, g122_46, g122_47, g122_48, n123, n124, n125, n126, n127, n128, n129, n130, n131, n132, n133, n134, n135, n136, n137, n138, n139, n140, n141, n142, n143, n144, n145, n146, cNn rs, cDe rs, c_reading ok rs, g40_0, n41, e]
          · rw [if_neg e] at c
            subst c
            simp (disch := omega) only [↓m1_n, li_n, li_0, li_1, lt_y, lt_n, le_y, le_n, eq_n, nL, nLe, nEq, nEm, mEn, nLm, mLn, nLem, mLen, nI_add, nI_mul, nI_sub, nI_m, ib_nI, nx_nI, gd_y, bnd_e, bind_y, ↓reduceIte, hI_uI_o, hI_uI_s, hI_uI_e, hL_uI, hI_uL, hL_uL_o, hL_uL_s, hL_uL_e, and1_a, and1_b, Bool.not_true, Bool.not_false, Nat.zero_add, Nat.add_zero, Nat.add_sub_cancel, eq_self, ne_b, g0_0, g0_1, g0_2, g0_3, g0_4, g0_5, g0_6, g0_7, g0_8, g0_9, n1, n2, g3_2, g3_3, g3_4, g3_5, g3_6, g3_7, g3_8, g3_9, n4, n5, n6, n7, n8, n9, g10_2, g10_3, g10_4, g10_5, n11, n12, n13, n14, g15_2, g15_3, g15_4, g15_5, n16, n17, n18, n19, g40_0, g40_1, g40_2, g44_0, g44_2, g44_3, g44_5, g44_6, g44_10, g51_3, g51_4, g51_5, g51_6, g51_7, g57_3, g57_4, g57_5, g57_6, g57_7, n120, n121, g122_0, g122_4, g122_5, g122_6, g122_7, g122_8, g122_18, g122_19, g122_20, g122_21, g122_24, g122_25, g122_28, g122_29, g122_31, g122_32, g122_33, g122_39, g122_40, g122_41, g122_45, g122_46, g122_47, g122_48, n123, n124, n125, n126, n127, n128, n129, n130, n131, n132, n133, n134, n135, n136, n137, n138, n139, n140, n141, n142, n143, n144, n145, n146, cNn rs, cDe rs, c_reading ok rs, g40_0, n41, e]
        · show nI (psn R (oN A) j + 1) = nI (blw R p (oN A) + inp R p (j + 1))
          rw [inp_s, if_pos c, ← Nat.add_assoc, hps]
        · by_cases ci : i = j
          · subst ci
            rw [hI_uI_e]
          · rw [hI_uI_s (fun e => ci (psn_inj hi hj e))]
            exact q5 i hi (by omega)
      · refine ⟨(s.1, nI (blw R p (oN A) + inp R p j), nI (j + 1)), ?_, rfl, ?_, q3, q4, fun i hi hc => ?_⟩
        · show B_X3_putBehind_15 _ _ _ _ _ _ _ _ = _
          unfold B_X3_putBehind_15 J_X3_putBehind_45 J_X3_putBehind_60
          rw [q1, q2]
          rw [eR] at c
          by_cases e : rdN (oH A (oD A j) col) = rd
          · rw [if_pos e] at c
            have hp0 : p = 0 := by omega
            subst hp0
            simp (disch := omega) only [↓m1_n, li_n, li_0, li_1, lt_y, lt_n, le_y, le_n, eq_n, nL, nLe, nEq, nEm, mEn, nLm, mLn, nLem, mLen, nI_add, nI_mul, nI_sub, nI_m, ib_nI, nx_nI, gd_y, bnd_e, bind_y, ↓reduceIte, hI_uI_o, hI_uI_s, hI_uI_e, hL_uI, hI_uL, hL_uL_o, hL_uL_s, hL_uL_e, and1_a, and1_b, Bool.not_true, Bool.not_false, Nat.zero_add, Nat.add_zero, Nat.add_sub_cancel, eq_self, ne_b, g0_0, g0_1, g0_2, g0_3, g0_4, g0_5, g0_6, g0_7, g0_8, g0_9, n1, n2, g3_2, g3_3, g3_4, g3_5, g3_6, g3_7, g3_8, g3_9, n4, n5, n6, n7, n8, n9, g10_2, g10_3, g10_4, g10_5, n11, n12, n13, n14, g15_2, g15_3, g15_4, g15_5, n16, n17, n18, n19, g40_0, g40_1, g40_2, g44_0, g44_2, g44_3, g44_5, g44_6, g44_10, g51_3, g51_4, g51_5, g51_6, g51_7, g57_3, g57_4, g57_5, g57_6, g57_7, n120, n121, g122_0, g122_4, g122_5, g122_6, g122_7, g122_8, g122_18, g122_19, g122_20, g122_21, g122_24, g122_25, g122_28, g122_29, g122_31, g122_32, g122_33, g122_39, g122_40, g122_41, g122_45, g122_46, g122_47, g122_48, n123, n124, n125, n126, n127, n128, n129, n130, n131, n132, n133, n134, n135, n136, n137, n138, n139, n140, n141, n142, n143, n144, n145, n146, cNn rs, cDe rs, c_reading ok rs, g40_0, n41, e]
          · rw [if_neg e] at c
            have hp0 : p = 1 := by omega
            subst hp0
            simp (disch := omega) only [↓m1_n, li_n, li_0, li_1, lt_y, lt_n, le_y, le_n, eq_n, nL, nLe, nEq, nEm, mEn, nLm, mLn, nLem, mLen, nI_add, nI_mul, nI_sub, nI_m, ib_nI, nx_nI, gd_y, bnd_e, bind_y, ↓reduceIte, hI_uI_o, hI_uI_s, hI_uI_e, hL_uI, hI_uL, hL_uL_o, hL_uL_s, hL_uL_e, and1_a, and1_b, Bool.not_true, Bool.not_false, Nat.zero_add, Nat.add_zero, Nat.add_sub_cancel, eq_self, ne_b, g0_0, g0_1, g0_2, g0_3, g0_4, g0_5, g0_6, g0_7, g0_8, g0_9, n1, n2, g3_2, g3_3, g3_4, g3_5, g3_6, g3_7, g3_8, g3_9, n4, n5, n6, n7, n8, n9, g10_2, g10_3, g10_4, g10_5, n11, n12, n13, n14, g15_2, g15_3, g15_4, g15_5, n16, n17, n18, n19, g40_0, g40_1, g40_2, g44_0, g44_2, g44_3, g44_5, g44_6, g44_10, g51_3, g51_4, g51_5, g51_6, g51_7, g57_3, g57_4, g57_5, g57_6, g57_7, n120, n121, g122_0, g122_4, g122_5, g122_6, g122_7, g122_8, g122_18, g122_19, g122_20, g122_21, g122_24, g122_25, g122_28, g122_29, g122_31, g122_32, g122_33, g122_39, g122_40, g122_41, g122_45, g122_46, g122_47, g122_48, n123, n124, n125, n126, n127, n128, n129, n130, n131, n132, n133, n134, n135, n136, n137, n138, n139, n140, n141, n142, n143, n144, n145, n146, cNn rs, cDe rs, c_reading ok rs, g40_0, n41, e]
        · show nI (blw R p (oN A) + inp R p j) = nI (blw R p (oN A) + inp R p (j + 1))
          rw [inp_s, if_neg c, Nat.add_zero]
        · refine q5 i hi ?_
          rcases hc with hc | ⟨x1, x2⟩
          · exact Or.inl hc
          · refine Or.inr ⟨x1, ?_⟩
            by_cases ci : i = j
            · subst ci; exact absurd x1 c
            · omega
    · obtain ⟨q1, q2, q3, q4, q5⟩ := z
      have rs : RcH s.1 3 A := RcH_congr (fun d a b => q3 d (by omega)) rc
      refine ⟨(s.1, nI (blw R (p + 1) (oN A))), ?_, s.1, rfl, q3, q4, fun i hi hc => q5 i hi (by omega)⟩
      show B_X3_putBehind_15 _ _ _ _ _ _ _ _ = _
      unfold B_X3_putBehind_15
      rw [q1, q2, ← blw_s]
      simp (disch := omega) only [↓m1_n, li_n, li_0, li_1, lt_y, lt_n, le_y, le_n, eq_n, nL, nLe, nEq, nEm, mEn, nLm, mLn, nLem, mLen, nI_add, nI_mul, nI_sub, nI_m, ib_nI, nx_nI, gd_y, bnd_e, bind_y, ↓reduceIte, hI_uI_o, hI_uI_s, hI_uI_e, hL_uI, hI_uL, hL_uL_o, hL_uL_s, hL_uL_e, and1_a, and1_b, Bool.not_true, Bool.not_false, Nat.zero_add, Nat.add_zero, Nat.add_sub_cancel, eq_self, ne_b, g0_0, g0_1, g0_2, g0_3, g0_4, g0_5, g0_6, g0_7, g0_8, g0_9, n1, n2, g3_2, g3_3, g3_4, g3_5, g3_6, g3_7, g3_8, g3_9, n4, n5, n6, n7, n8, n9, g10_2, g10_3, g10_4, g10_5, n11, n12, n13, n14, g15_2, g15_3, g15_4, g15_5, n16, n17, n18, n19, g40_0, g40_1, g40_2, g44_0, g44_2, g44_3, g44_5, g44_6, g44_10, g51_3, g51_4, g51_5, g51_6, g51_7, g57_3, g57_4, g57_5, g57_6, g57_7, n120, n121, g122_0, g122_4, g122_5, g122_6, g122_7, g122_8, g122_18, g122_19, g122_20, g122_21, g122_24, g122_25, g122_28, g122_29, g122_31, g122_32, g122_33, g122_39, g122_40, g122_41, g122_45, g122_46, g122_47, g122_48, n123, n124, n125, n126, n127, n128, n129, n130, n131, n132, n133, n134, n135, n136, n137, n138, n139, n140, n141, n142, n143, n144, n145, n146, cNn rs]
  obtain ⟨r, x1, h3, x2, x3⟩ := key
  exact ⟨h3, by rw [x1, x2], x3⟩
theorem c_put {h : Hp} {A : Ho} {q col rd : Nat} (ok : HoOk q A) (rc : RcH h 3 A) (hc : col < 8) (hr : rd < 12) : ∃ h', F_X3_putBehind h 40 3 (nI col) (nI rd) = some h' ∧ (∀ d, d ≠ 9 → d ≠ 41 → hI h' d = hI h d) ∧ hL h' = hL h ∧ ∀ k, k < oN A → hI h' 9 k = nI (srt (putR A col rd) (oD A) (oN A) k) := by
  have hA := ok.1
  refine iterW_inv (fun p s => s.2.2 = nI p ∧ s.2.1 = nI (blw (putR A col rd) p (oN A)) ∧ (∀ d, d ≠ 41 → hI s.1 d = hI h d) ∧ hL s.1 = hL h ∧ ∀ i, i < oN A → putR A col rd i < p → hI s.1 41 (psn (putR A col rd) (oN A) i) = nI (oD A i)) _ 2 (fun p s hp z => ?_) (fun s z => ?_) ⟨rfl, by rw [blw_0]; rfl, fun _ _ => rfl, rfl, fun i hi hc => by omega⟩
  · obtain ⟨q1, q2, q3, q4, q5⟩ := z
    have rs : RcH s.1 3 A := RcH_congr (fun d a b => q3 d (by omega)) rc
    obtain ⟨h', a1, a2, a3, a4⟩ := c_put1 ok rs hc hr hp q5
    refine ⟨(h', nI (blw (putR A col rd) (p + 1) (oN A)), nI (p + 1)), ?_, rfl, rfl, fun d hd => (a2 d hd).trans (q3 d hd), a3.trans q4, a4⟩
    show B_X3_putBehind_6 _ _ _ _ _ _ _ = _
    unfold B_X3_putBehind_6
    rw [q1, q2]
    simp (disch := omega) only [↓m1_n, li_n, li_0, li_1, lt_y, lt_n, le_y, le_n, eq_n, nL, nLe, nEq, nEm, mEn, nLm, mLn, nLem, mLen, nI_add, nI_mul, nI_sub, nI_m, ib_nI, nx_nI, gd_y, bnd_e, bind_y, ↓reduceIte, hI_uI_o, hI_uI_s, hI_uI_e, hL_uI, hI_uL, hL_uL_o, hL_uL_s, hL_uL_e, and1_a, and1_b, Bool.not_true, Bool.not_false, Nat.zero_add, Nat.add_zero, Nat.add_sub_cancel, eq_self, ne_b, g0_0, g0_1, g0_2, g0_3, g0_4, g0_5, g0_6, g0_7, g0_8, g0_9, n1, n2, g3_2, g3_3, g3_4, g3_5, g3_6, g3_7, g3_8, g3_9, n4, n5, n6, n7, n8, n9, g10_2, g10_3, g10_4, g10_5, n11, n12, n13, n14, g15_2, g15_3, g15_4, g15_5, n16, n17, n18, n19, g40_0, g40_1, g40_2, g44_0, g44_2, g44_3, g44_5, g44_6, g44_10, g51_3, g51_4, g51_5, g51_6, g51_7, g57_3, g57_4, g57_5, g57_6, g57_7, n120, n121, g122_0, g122_4, g122_5, g122_6, g122_7, g122_8, g122_18, g122_19, g122_20, g122_21, g122_24, g122_25, g122_28, g122_29, g122_31, g122_32, g122_33, g122_39, g122_40, g122_41, g122_45, g122_46, g122_47, g122_48, n123, n124, n125, n126, n127, n128, n129, n130, n131, n132, n133, n134, n135, n136, n137, n138, n139, n140, n141, n142, n143, n144, n145, n146, a1]
  · obtain ⟨q1, q2, q3, q4, q5⟩ := z
    have rs : RcH s.1 3 A := RcH_congr (fun d a b => q3 d (by omega)) rc
    refine ⟨sI s.1 9 (va_cpy (hI s.1 41) (hI s.1 9) 0 0 (oN A)), ?_, fun d d1 d2 => by rw [hI_sI_o d1]; exact q3 d d2, by rw [hL_sI]; exact q4, fun k hk => ?_⟩
    · show B_X3_putBehind_6 _ _ _ _ _ _ _ = _
      unfold B_X3_putBehind_6
      rw [q1]
      simp (disch := omega) only [↓m1_n, li_n, li_0, li_1, lt_y, lt_n, le_y, le_n, eq_n, nL, nLe, nEq, nEm, mEn, nLm, mLn, nLem, mLen, nI_add, nI_mul, nI_sub, nI_m, ib_nI, nx_nI, gd_y, bnd_e, bind_y, ↓reduceIte, hI_uI_o, hI_uI_s, hI_uI_e, hL_uI, hI_uL, hL_uL_o, hL_uL_s, hL_uL_e, and1_a, and1_b, Bool.not_true, Bool.not_false, Nat.zero_add, Nat.add_zero, Nat.add_sub_cancel, eq_self, ne_b, g0_0, g0_1, g0_2, g0_3, g0_4, g0_5, g0_6, g0_7, g0_8, g0_9, n1, n2, g3_2, g3_3, g3_4, g3_5, g3_6, g3_7, g3_8, g3_9, n4, n5, n6, n7, n8, n9, g10_2, g10_3, g10_4, g10_5, n11, n12, n13, n14, g15_2, g15_3, g15_4, g15_5, n16, n17, n18, n19, g40_0, g40_1, g40_2, g44_0, g44_2, g44_3, g44_5, g44_6, g44_10, g51_3, g51_4, g51_5, g51_6, g51_7, g57_3, g57_4, g57_5, g57_6, g57_7, n120, n121, g122_0, g122_4, g122_5, g122_6, g122_7, g122_8, g122_18, g122_19, g122_20, g122_21, g122_24, g122_25, g122_28, g122_29, g122_31, g122_32, g122_33, g122_39, g122_40, g122_41, g122_45, g122_46, g122_47, g122_48, n123, n124, n125, n126, n127, n128, n129, n130, n131, n132, n133, n134, n135, n136, n137, n138, n139, n140, n141, n142, n143, n144, n145, n146, cNn rs, g40_0, n41, cpk]
    · rw [hI_sI_e, cpy0 hk]
      exact srt_all (fun i hi => q5 i hi (by have := putR_le (A := A) (col := col) (rd := rd) (k := i); omega)) hk
def cutD (D : Nat → Nat) (n m k : Nat) : Nat := if m < n then D ((k + m) % n) else D k
theorem c_cut' {h : Hp} {A : Ho} {q m : Nat} (ok : HoOk q A) (rc : RcH h 3 A) (hm : m ≤ 99) : ∃ h', F_X3_cutDeck h 40 3 (nI m) = some h' ∧ (∀ d, d ≠ 9 → d ≠ 41 → hI h' d = hI h d) ∧ hL h' = hL h ∧ ∀ k, k < oN A → hI h' 9 k = nI (cutD (oD A) (oN A) m k) := by
  have hA := ok.1
  unfold F_X3_cutDeck
  by_cases c1 : m = 0
  · refine ⟨h, ?_, fun _ _ _ => rfl, rfl, fun k hk => ?_⟩
    · simp (disch := omega) only [↓m1_n, li_n, li_0, li_1, lt_y, lt_n, le_y, le_n, eq_n, nL, nLe, nEq, nEm, mEn, nLm, mLn, nLem, mLen, nI_add, nI_mul, nI_sub, nI_m, ib_nI, nx_nI, gd_y, bnd_e, bind_y, ↓reduceIte, hI_uI_o, hI_uI_s, hI_uI_e, hL_uI, hI_uL, hL_uL_o, hL_uL_s, hL_uL_e, and1_a, and1_b, Bool.not_true, Bool.not_false, Nat.zero_add, Nat.add_zero, Nat.add_sub_cancel, eq_self, ne_b, g0_0, g0_1, g0_2, g0_3, g0_4, g0_5, g0_6, g0_7, g0_8, g0_9, n1, n2, g3_2, g3_3, g3_4, g3_5, g3_6, g3_7, g3_8, g3_9, n4, n5, n6, n7, n8, n9, g10_2, g10_3, g10_4, g10_5, n11, n12, n13, n14, g15_2, g15_3, g15_4, g15_5, n16, n17, n18, n19, g40_0, g40_1, g40_2, g44_0, g44_2, g44_3, g44_5, g44_6, g44_10, g51_3, g51_4, g51_5, g51_6, g51_7, g57_3, g57_4, g57_5, g57_6, g57_7, n120, n121, g122_0, g122_4, g122_5, g122_6, g122_7, g122_8, g122_18, g122_19, g122_20, g122_21, g122_24, g122_25, g122_28, g122_29, g122_31, g122_32, g122_33, g122_39, g122_40, g122_41, g122_45, g122_46, g122_47, g122_48, n123, n124, n125, n126, n127, n128, n129, n130, n131, n132, n133, n134, n135, n136, n137, n138, n139, n140, n141, n142, n143, n144, n145, n146, c1]
    · rw [cDe rc hk]
      unfold cutD
      rw [c1, Nat.add_zero]
      by_cases l : 0 < oN A
      · rw [if_pos l, Nat.mod_eq_of_lt hk]
      · rw [if_neg l]
  · by_cases c2 : oN A ≤ m
    · refine ⟨h, ?_, fun _ _ _ => rfl, rfl, fun k hk => ?_⟩
      · simp (disch := omega) only [↓m1_n, li_n, li_0, li_1, lt_y, lt_n, le_y, le_n, eq_n, nL, nLe, nEq, nEm, mEn, nLm, mLn, nLem, mLen, nI_add, nI_mul, nI_sub, nI_m, ib_nI, nx_nI, gd_y, bnd_e, bind_y, ↓reduceIte, hI_uI_o, hI_uI_s, hI_uI_e, hL_uI, hI_uL, hL_uL_o, hL_uL_s, hL_uL_e, and1_a, and1_b, Bool.not_true, Bool.not_false, Nat.zero_add, Nat.add_zero, Nat.add_sub_cancel, eq_self, ne_b, g0_0, g0_1, g0_2, g0_3, g0_4, g0_5, g0_6, g0_7, g0_8, g0_9, n1, n2, g3_2, g3_3, g3_4, g3_5, g3_6, g3_7, g3_8, g3_9, n4, n5, n6, n7, n8, n9, g10_2, g10_3, g10_4, g10_5, n11, n12, n13, n14, g15_2, g15_3, g15_4, g15_5, n16, n17, n18, n19, g40_0, g40_1, g40_2, g44_0, g44_2, g44_3, g44_5, g44_6, g44_10, g51_3, g51_4, g51_5, g51_6, g51_7, g57_3, g57_4, g57_5, g57_6, g57_7, n120, n121, g122_0, g122_4, g122_5, g122_6, g122_7, g122_8, g122_18, g122_19, g122_20, g122_21, g122_24, g122_25, g122_28, g122_29, g122_31, g122_32, g122_33, g122_39, g122_40, g122_41, g122_45, g122_46, g122_47, g122_48, n123, n124, n125, n126, n127, n128, n129, n130, n131, n132, n133, n134, n135, n136, n137, n138, n139, n140, n141, n142, n143, n144, n145, n146, cNn rc]
      · rw [cDe rc hk]
        unfold cutD
        rw [if_neg (by omega)]
    · have k1 : cpok (nI m) (nI 0) (nI (oN A - m)) 30 30 = true := cpok_nI (by omega) (by omega) (by decide) (by decide)
      have k2 : cpok (nI 0) (nI (oN A - m)) (nI m) 30 30 = true := cpok_nI (by omega) (by omega) (by decide) (by decide)
      have k3 : cpok (nI 0) (nI 0) (nI (oN A)) 30 30 = true := cpok_nI (by omega) (by omega) (by decide) (by decide)
      refine ⟨sI (sI (sI h 41 (va_cpy (hI h 9) (hI h 41) m 0 (oN A - m))) 41 (va_cpy (hI h 9) (va_cpy (hI h 9) (hI h 41) m 0 (oN A - m)) 0 (oN A - m) m)) 9 (va_cpy (va_cpy (hI h 9) (va_cpy (hI h 9) (hI h 41) m 0 (oN A - m)) 0 (oN A - m) m) (hI h 9) 0 0 (oN A)), ?_, fun d d1 d2 => by rw [hI_sI_o d1, hI_sI_o d2, hI_sI_o d2], rfl, fun k hk => ?_⟩
      · simp (disch := omega) only [↓m1_n, li_n, li_0, li_1, lt_y, lt_n, le_y, le_n, eq_n, nL, nLe, nEq, nEm, mEn, nLm, mLn, nLem, mLen, nI_add, nI_mul, nI_sub, nI_m, ib_nI, nx_nI, gd_y, bnd_e, bind_y, ↓reduceIte, hI_uI_o, hI_uI_s, hI_uI_e, hL_uI, hI_uL, hL_uL_o, hL_uL_s, hL_uL_e, and1_a, and1_b, Bool.not_true, Bool.not_false, Nat.zero_add, Nat.add_zero, Nat.add_sub_cancel, eq_self, ne_b, g0_0, g0_1, g0_2, g0_3, g0_4, g0_5, g0_6, g0_7, g0_8, g0_9, n1, n2, g3_2, g3_3, g3_4, g3_5, g3_6, g3_7, g3_8, g3_9, n4, n5, n6, n7, n8, n9, g10_2, g10_3, g10_4, g10_5, n11, n12, n13, n14, g15_2, g15_3, g15_4, g15_5, n16, n17, n18, n19, g40_0, g40_1, g40_2, g44_0, g44_2, g44_3, g44_5, g44_6, g44_10, g51_3, g51_4, g51_5, g51_6, g51_7, g57_3, g57_4, g57_5, g57_6, g57_7, n120, n121, g122_0, g122_4, g122_5, g122_6, g122_7, g122_8, g122_18, g122_19, g122_20, g122_21, g122_24, g122_25, g122_28, g122_29, g122_31, g122_32, g122_33, g122_39, g122_40, g122_41, g122_45, g122_46, g122_47, g122_48, n123, n124, n125, n126, n127, n128, n129, n130, n131, n132, n133, n134, n135, n136, n137, n138, n139, n140, n141, n142, n143, n144, n145, n146, cNn rc, g40_0, n41, hI_sI_o, hI_sI_e, k1, k2, k3]
      · rw [hI_sI_e, cpy0 hk]
        unfold cutD
        rw [if_pos (by omega)]
        by_cases l : k < oN A - m
        · rw [pk_cpy_out (by omega), pk_cpy_in (by omega) (by omega), Nat.sub_zero, cDe rc (by omega), Nat.mod_eq_of_lt (by omega), Nat.add_comm]
        · rw [pk_cpy_in (by omega) (by omega), cDe rc (by omega)]
          congr 2
          rw [Nat.mod_eq_sub_mod (by omega), Nat.mod_eq_of_lt (by omega)]
          omega
def trnD (D : Nat → Nat) (n k : Nat) : Nat := D (n - 1 - k)
theorem c_turn {h : Hp} {A : Ho} {q : Nat} (ok : HoOk q A) (rc : RcH h 3 A) : ∃ h', F_X3_turnDeck h 40 3 = some h' ∧ (∀ d, d ≠ 9 → d ≠ 41 → hI h' d = hI h d) ∧ hL h' = hL h ∧ ∀ k, k < oN A → hI h' 9 k = nI (trnD (oD A) (oN A) k) := by
  have hA := ok.1
  refine iterW_inv (fun j s => s.2 = nI j ∧ (∀ d, d ≠ 41 → hI s.1 d = hI h d) ∧ hL s.1 = hL h ∧ ∀ k, k < j → hI s.1 41 k = nI (trnD (oD A) (oN A) k)) _ (oN A) (fun j s hj z => ?_) (fun s z => ?_) ⟨rfl, fun _ _ => rfl, rfl, fun k hk => by omega⟩
  · obtain ⟨q1, q2, q3, q4⟩ := z
    have rs : RcH s.1 3 A := RcH_congr (fun d a b => q2 d (by omega)) rc
    have e9 := cDe rs (show oN A - 1 - j < oN A by omega)
    refine ⟨(uI s.1 41 j (nI (trnD (oD A) (oN A) j)), nI (j + 1)), ?_, rfl, fun d hd => by rw [hI_uI_o hd]; exact q2 d hd, q3, fun k hk => ?_⟩
    · show B_X3_turnDeck_2 _ _ _ _ = _
      unfold B_X3_turnDeck_2 trnD
      rw [q1]
      simp (disch := omega) only [↓m1_n, li_n, li_0, li_1, lt_y, lt_n, le_y, le_n, eq_n, nL, nLe, nEq, nEm, mEn, nLm, mLn, nLem, mLen, nI_add, nI_mul, nI_sub, nI_m, ib_nI, nx_nI, gd_y, bnd_e, bind_y, ↓reduceIte, hI_uI_o, hI_uI_s, hI_uI_e, hL_uI, hI_uL, hL_uL_o, hL_uL_s, hL_uL_e, and1_a, and1_b, Bool.not_true, Bool.not_false, Nat.zero_add, Nat.add_zero, Nat.add_sub_cancel, eq_self, ne_b, g0_0, g0_1, g0_2, g0_3, g0_4, g0_5, g0_6, g0_7, g0_8, g0_9, n1, n2, g3_2, g3_3, g3_4, g3_5, g3_6, g3_7, g3_8, g3_9, n4, n5, n6, n7, n8, n9, g10_2, g10_3, g10_4, g10_5, n11, n12, n13, n14, g15_2, g15_3, g15_4, g15_5, n16, n17, n18, n19, g40_0, g40_1, g40_2, g44_0, g44_2, g44_3, g44_5, g44_6, g44_10, g51_3, g51_4, g51_5, g51_6, g51_7, g57_3, g57_4, g57_5, g57_6, g57_7, n120, n121, g122_0, g122_4, g122_5, g122_6, g122_7, g122_8, g122_18, g122_19, g122_20, g122_21, g122_24, g122_25, g122_28, g122_29, g122_31, g122_32, g122_33, g122_39, g122_40, g122_41, g122_45, g122_46, g122_47, g122_48, n123, n124, n125, n126, n127, n128, n129, n130, n131, n132, n133, n134, n135, n136, n137, n138, n139, n140, n141, n142, n143, n144, n145, n146, cNn rs, e9, g40_0, n41]
    · by_cases c : k = j
      · subst c
        rw [hI_uI_e]
      · rw [hI_uI_s c]
        exact q4 k (by omega)
  · obtain ⟨q1, q2, q3, q4⟩ := z
    have rs : RcH s.1 3 A := RcH_congr (fun d a b => q2 d (by omega)) rc
    refine ⟨sI s.1 9 (va_cpy (hI s.1 41) (hI s.1 9) 0 0 (oN A)), ?_, fun d d1 d2 => by rw [hI_sI_o d1]; exact q2 d d2, by rw [hL_sI]; exact q3, fun k hk => ?_⟩
    · show B_X3_turnDeck_2 _ _ _ _ = _
      unfold B_X3_turnDeck_2
      rw [q1]
      simp (disch := omega) only [↓m1_n, li_n, li_0, li_1, lt_y, lt_n, le_y, le_n, eq_n, nL, nLe, nEq, nEm, mEn, nLm, mLn, nLem, mLen, nI_add, nI_mul, nI_sub, nI_m, ib_nI, nx_nI, gd_y, bnd_e, bind_y, ↓reduceIte, hI_uI_o, hI_uI_s, hI_uI_e, hL_uI, hI_uL, hL_uL_o, hL_uL_s, hL_uL_e, and1_a, and1_b, Bool.not_true, Bool.not_false, Nat.zero_add, Nat.add_zero, Nat.add_sub_cancel, eq_self, ne_b, g0_0, g0_1, g0_2, g0_3, g0_4, g0_5, g0_6, g0_7, g0_8, g0_9, n1, n2, g3_2, g3_3, g3_4, g3_5, g3_6, g3_7, g3_8, g3_9, n4, n5, n6, n7, n8, n9, g10_2, g10_3, g10_4, g10_5, n11, n12, n13, n14, g15_2, g15_3, g15_4, g15_5, n16, n17, n18, n19, g40_0, g40_1, g40_2, g44_0, g44_2, g44_3, g44_5, g44_6, g44_10, g51_3, g51_4, g51_5, g51_6, g51_7, g57_3, g57_4, g57_5, g57_6, g57_7, n120, n121, g122_0, g122_4, g122_5, g122_6, g122_7, g122_8, g122_18, g122_19, g122_20, g122_21, g122_24, g122_25, g122_28, g122_29, g122_31, g122_32, g122_33, g122_39, g122_40, g122_41, g122_45, g122_46, g122_47, g122_48, n123, n124, n125, n126, n127, n128, n129, n130, n131, n132, n133, n134, n135, n136, n137, n138, n139, n140, n141, n142, n143, n144, n145, n146, cNn rs, g40_0, n41, cpk]
    · rw [hI_sI_e, cpy0 hk]
      exact q4 k hk
/-! ===== the same in the reference ===== -/
theorem m_put1 {h : Hp} {A : Ho} {q col rd p : Nat} (ok : HoOk q A) (w : RmW h A) (hc : col < 8) (hr : rd < 12) (hp : p < 2) (h0 : ∀ i, i < oN A → putR A col rd i < p → hI h 123 (338 + psn (putR A col rd) (oN A) i) = nI (oD A i)) : ∃ h', L_X12_puts_18 h 122 (nI col) (nI rd) (nI p) (nI (blw (putR A col rd) p (oN A))) (nI 0) = some (h', nI (blw (putR A col rd) (p + 1) (oN A))) ∧ FrL h h' ∧ ∀ i, i < oN A → putR A col rd i < p + 1 → hI h' 123 (338 + psn (putR A col rd) (oN A) i) = nI (oD A i) := by
  have hA := ok.1
  generalize hR : putR A col rd = R at *
  have hR1 : ∀ k, R k ≤ 1 := fun k => by rw [← hR]; exact putR_le
  have key : ∃ r, L_X12_puts_18 h 122 (nI col) (nI rd) (nI p) (nI (blw R p (oN A))) (nI 0) = some r ∧ ∃ h', r = (h', nI (blw R (p + 1) (oN A))) ∧ FrL h h' ∧ ∀ i, i < oN A → R i < p + 1 → hI h' 123 (338 + psn R (oN A) i) = nI (oD A i) := by
    refine iterW_inv (fun j s => s.2.2 = nI j ∧ s.2.1 = nI (blw R p (oN A) + inp R p j) ∧ FrL h s.1 ∧ ∀ i, i < oN A → R i < p ∨ (R i = p ∧ i < j) → hI s.1 123 (338 + psn R (oN A) i) = nI (oD A i)) _ (oN A) (fun j s hj z => ?_) (fun s z => ?_) ⟨rfl, by rw [inp_0, Nat.add_zero], FrL.rf, fun i hi hc => h0 i hi (by omega)⟩
    · obtain ⟨q1, q2, q3, q5⟩ := z
      have rs : RmW s.1 A := q3.w ok w
      have hd := (ok.2.1 j hj).2.2.2.2
      have hrd := rdN_le (oH A (oD A j) col)
      have eR : R j = if rdN (oH A (oD A j) col) = rd then 1 else 0 := by rw [← hR]; rfl
      by_cases c : R j = p
      · have hps : blw R p (oN A) + inp R p j = psn R (oN A) j := by unfold psn; rw [c]
        have hl := psn_lt (R := R) hj
        refine ⟨(uI s.1 123 (338 + psn R (oN A) j) (nI (oD A j)), nI (psn R (oN A) j + 1), nI (j + 1)), ?_, rfl, ?_, q3.trans (FrL.u (by omega)), fun i hi hc => ?_⟩
        · show B_X12_puts_18 _ _ _ _ _ _ _ = _
          unfold B_X12_puts_18 J_X12_puts_50 J_X12_puts_61
          rw [q1, q2, hps]
          rw [eR] at c
          by_cases e : rdN (oH A (oD A j) col) = rd
          · rw [if_pos e] at c
            subst c
            simp (disch := omega) only [↓m1_n, li_n, li_0, li_1, lt_y, lt_n, le_y, le_n, eq_n, nL, nLe, nEq, nEm, mEn, nLm, mLn, nLem, mLen, nI_add, nI_mul, nI_sub, nI_m, ib_nI, nx_nI, gd_y, bnd_e, bind_y, ↓reduceIte, hI_uI_o, hI_uI_s, hI_uI_e, hL_uI, hI_uL, hL_uL_o, hL_uL_s, hL_uL_e, and1_a, and1_b, Bool.not_true, Bool.not_false, Nat.zero_add, Nat.add_zero, Nat.add_sub_cancel, eq_self, ne_b, g0_0, g0_1, g0_2, g0_3, g0_4, g0_5, g0_6, g0_7, g0_8, g0_9, n1, n2, g3_2, g3_3, g3_4, g3_5, g3_6, g3_7, g3_8, g3_9, n4, n5, n6, n7, n8, n9, g10_2, g10_3, g10_4, g10_5, n11, n12, n13, n14, g15_2, g15_3, g15_4, g15_5, n16, n17, n18, n19, g40_0, g40_1, g40_2, g44_0, g44_2, g44_3, g44_5, g44_6, g44_10, g51_3, g51_4, g51_5, g51_6, g51_7, g57_3, g57_4, g57_5, g57_6, g57_7, n120, n121, g122_0, g122_4, g122_5, g122_6, g122_7, g122_8, g122_18, g122_19, g122_20, g122_21, g122_24, g122_25, g122_28, g122_29, g122_31, g122_32, g122_33, g122_39, g122_40, g122_41, g122_45, g122_46, g122_47, g122_48, n123, n124, n125, n126, n127, n128, n129, n130, n131, n132, n133, n134, n135, n136, n137, n138, n139, n140, n141, n142, n143, n144, n145, n146, rs.1, rs.2.2 j hj, m_readsW ok rs hd hc, e]
          · rw [if_neg e] at c
            subst c
            simp (disch := omega) only [↓m1_n, li_n, li_0, li_1, lt_y, lt_n, le_y, le_n, eq_n, nL, nLe, nEq, nEm, mEn, nLm, mLn, nLem, mLen, nI_add, nI_mul, nI_sub, nI_m, ib_nI, nx_nI, gd_y, bnd_e, bind_y, ↓reduceIte, hI_uI_o, hI_uI_s, hI_uI_e, hL_uI, hI_uL, hL_uL_o, hL_uL_s, hL_uL_e, and1_a, and1_b, Bool.not_true, Bool.not_false, Nat.zero_add, Nat.add_zero, Nat.add_sub_cancel, eq_self, ne_b, g0_0, g0_1, g0_2, g0_3, g0_4, g0_5, g0_6, g0_7, g0_8, g0_9, n1, n2, g3_2, g3_3, g3_4, g3_5, g3_6, g3_7, g3_8, g3_9, n4, n5, n6, n7, n8, n9, g10_2, g10_3, g10_4, g10_5, n11, n12, n13, n14, g15_2, g15_3, g15_4, g15_5, n16, n17, n18, n19, g40_0, g40_1, g40_2, g44_0, g44_2, g44_3, g44_5, g44_6, g44_10, g51_3, g51_4, g51_5, g51_6, g51_7, g57_3, g57_4, g57_5, g57_6, g57_7, n120, n121, g122_0, g122_4, g122_5, g122_6, g122_7, g122_8, g122_18, g122_19, g122_20, g122_21, g122_24, g122_25, g122_28, g122_29, g122_31, g122_32, g122_33, g122_39, g122_40, g122_41, g122_45, g122_46, g122_47, g122_48, n123, n124, n125, n126, n127, n128, n129, n130, n131, n132, n133, n134, n135, n136, n137, n138, n139, n140, n141, n142, n143, n144, n145, n146, rs.1, rs.2.2 j hj, m_readsW ok rs hd hc, e]
        · show nI (psn R (oN A) j + 1) = nI (blw R p (oN A) + inp R p (j + 1))
          rw [inp_s, if_pos c, ← Nat.add_assoc, hps]
        · by_cases ci : i = j
          · subst ci
            rw [hI_uI_e]
          · have np : psn R (oN A) i ≠ psn R (oN A) j := fun e => ci (psn_inj hi hj e)
            rw [hI_uI_s (by omega)]
            exact q5 i hi (by omega)
      · refine ⟨(s.1, nI (blw R p (oN A) + inp R p j), nI (j + 1)), ?_, rfl, ?_, q3, fun i hi hc => ?_⟩
        · show B_X12_puts_18 _ _ _ _ _ _ _ = _
          unfold B_X12_puts_18 J_X12_puts_50 J_X12_puts_61
          rw [q1, q2]
          rw [eR] at c
          by_cases e : rdN (oH A (oD A j) col) = rd
          · rw [if_pos e] at c
            have hp0 : p = 0 := by omega
            subst hp0
            simp (disch := omega) only [↓m1_n, li_n, li_0, li_1, lt_y, lt_n, le_y, le_n, eq_n, nL, nLe, nEq, nEm, mEn, nLm, mLn, nLem, mLen, nI_add, nI_mul, nI_sub, nI_m, ib_nI, nx_nI, gd_y, bnd_e, bind_y, ↓reduceIte, hI_uI_o, hI_uI_s, hI_uI_e, hL_uI, hI_uL, hL_uL_o, hL_uL_s, hL_uL_e, and1_a, and1_b, Bool.not_true, Bool.not_false, Nat.zero_add, Nat.add_zero, Nat.add_sub_cancel, eq_self, ne_b, g0_0, g0_1, g0_2, g0_3, g0_4, g0_5, g0_6, g0_7, g0_8, g0_9, n1, n2, g3_2, g3_3, g3_4, g3_5, g3_6, g3_7, g3_8, g3_9, n4, n5, n6, n7, n8, n9, g10_2, g10_3, g10_4, g10_5, n11, n12, n13, n14, g15_2, g15_3, g15_4, g15_5, n16, n17, n18, n19, g40_0, g40_1, g40_2, g44_0, g44_2, g44_3, g44_5, g44_6, g44_10, g51_3, g51_4, g51_5, g51_6, g51_7, g57_3, g57_4, g57_5, g57_6, g57_7, n120, n121, g122_0, g122_4, g122_5, g122_6, g122_7, g122_8, g122_18, g122_19, g122_20, g122_21, g122_24, g122_25, g122_28, g122_29, g122_31, g122_32, g122_33, g122_39, g122_40, g122_41, g122_45, g122_46, g122_47, g122_48, n123, n124, n125, n126, n127, n128, n129, n130, n131, n132, n133, n134, n135, n136, n137, n138, n139, n140, n141, n142, n143, n144, n145, n146, rs.1, rs.2.2 j hj, m_readsW ok rs hd hc, e]
          · rw [if_neg e] at c
            have hp0 : p = 1 := by omega
            subst hp0
            simp (disch := omega) only [↓m1_n, li_n, li_0, li_1, lt_y, lt_n, le_y, le_n, eq_n, nL, nLe, nEq, nEm, mEn, nLm, mLn, nLem, mLen, nI_add, nI_mul, nI_sub, nI_m, ib_nI, nx_nI, gd_y, bnd_e, bind_y, ↓reduceIte, hI_uI_o, hI_uI_s, hI_uI_e, hL_uI, hI_uL, hL_uL_o, hL_uL_s, hL_uL_e, and1_a, and1_b, Bool.not_true, Bool.not_false, Nat.zero_add, Nat.add_zero, Nat.add_sub_cancel, eq_self, ne_b, g0_0, g0_1, g0_2, g0_3, g0_4, g0_5, g0_6, g0_7, g0_8, g0_9, n1, n2, g3_2, g3_3, g3_4, g3_5, g3_6, g3_7, g3_8, g3_9, n4, n5, n6, n7, n8, n9, g10_2, g10_3, g10_4, g10_5, n11, n12, n13, n14, g15_2, g15_3, g15_4, g15_5, n16, n17, n18, n19, g40_0, g40_1, g40_2, g44_0, g44_2, g44_3, g44_5, g44_6, g44_10, g51_3, g51_4, g51_5, g51_6, g51_7, g57_3, g57_4, g57_5, g57_6, g57_7, n120, n121, g122_0, g122_4, g122_5, g122_6, g122_7, g122_8, g122_18, g122_19, g122_20, g122_21, g122_24, g122_25, g122_28, g122_29, g122_31, g122_32, g122_33, g122_39, g122_40, g122_41, g122_45, g122_46, g122_47, g122_48, n123, n124, n125, n126, n127, n128, n129, n130, n131, n132, n133, n134, n135, n136, n137, n138, n139, n140, n141, n142, n143, n144, n145, n146, rs.1, rs.2.2 j hj, m_readsW ok rs hd hc, e]
        · show nI (blw R p (oN A) + inp R p j) = nI (blw R p (oN A) + inp R p (j + 1))
          rw [inp_s, if_neg c, Nat.add_zero]
        · refine q5 i hi ?_
          rcases hc with hc | ⟨x1, x2⟩
          · exact Or.inl hc
          · refine Or.inr ⟨x1, ?_⟩
            by_cases ci : i = j
            · subst ci; exact absurd x1 c
            · omega
    · obtain ⟨q1, q2, q3, q5⟩ := z
      have rs : RmW s.1 A := q3.w ok w
      refine ⟨(s.1, nI (blw R (p + 1) (oN A))), ?_, s.1, rfl, q3, fun i hi hc => q5 i hi (by omega)⟩
      show B_X12_puts_18 _ _ _ _ _ _ _ = _
      unfold B_X12_puts_18
      rw [q1, q2, ← blw_s]
      simp (disch := omega) only [↓m1_n, li_n, li_0, li_1, lt_y, lt_n, le_y, le_n, eq_n, nL, nLe, nEq, nEm, mEn, nLm, mLn, nLem, mLen, nI_add, nI_mul, nI_sub, nI_m, ib_nI, nx_nI, gd_y, bnd_e, bind_y, ↓reduceIte, hI_uI_o, hI_uI_s, hI_uI_e, hL_uI, hI_uL, hL_uL_o, hL_uL_s, hL_uL_e, and1_a, and1_b, Bool.not_true, Bool.not_false, Nat.zero_add, Nat.add_zero, Nat.add_sub_cancel, eq_self, ne_b, g0_0, g0_1, g0_2, g0_3, g0_4, g0_5, g0_6, g0_7, g0_8, g0_9, n1, n2, g3_2, g3_3, g3_4, g3_5, g3_6, g3_7, g3_8, g3_9, n4, n5, n6, n7, n8, n9, g10_2, g10_3, g10_4, g10_5, n11, n12, n13, n14, g15_2, g15_3, g15_4, g15_5, n16, n17, n18, n19, g40_0, g40_1, g40_2, g44_0, g44_2, g44_3, g44_5, g44_6, g44_10, g51_3, g51_4, g51_5, g51_6, g51_7, g57_3, g57_4, g57_5, g57_6, g57_7, n120, n121, g122_0, g122_4, g122_5, g122_6, g122_7, g122_8, g122_18, g122_19, g122_20, g122_21, g122_24, g122_25, g122_28, g122_29, g122_31, g122_32, g122_33, g122_39, g122_40, g122_41, g122_45, g122_46, g122_47, g122_48, n123, n124, n125, n126, n127, n128, n129, n130, n131, n132, n133, n134, n135, n136, n137, n138, n139, n140, n141, n142, n143, n144, n145, n146, rs.1]
  obtain ⟨r, x1, h3, x2, x3⟩ := key
  exact ⟨h3, by rw [x1, x2], x3⟩
/-- the row taken, then the deck laid -/
def FrR (h h' : Hp) : Prop := (∀ d, d ≠ 123 → d ≠ 134 → hI h' d = hI h d) ∧ (∀ k, k < 338 ∨ 368 ≤ k → hI h' 123 k = hI h 123 k) ∧ hL h' = hL h
theorem FrR_of {h h1 h2 : Hp} (e : ∀ d, d ≠ 134 → hI h1 d = hI h d) (l : hL h1 = hL h) (f : FrL h1 h2) : FrR h h2 := ⟨fun d a b => (f.1 d a).trans (e d b), fun k a => by rw [f.2.1 k a, e 123 (by decide)], f.2.2.trans l⟩
theorem m_put {h : Hp} {A : Ho} {q col rd : Nat} (ok : HoOk q A) (rm : RmH h 0 A) (hc : col < 8) (hr : rd < 12) : ∃ h', F_X12_puts h 122 (nI col) (nI rd) = some h' ∧ FrR h h' ∧ ∀ k, k < oN A → hI h' 123 (338 + k) = nI (srt (putR A col rd) (oD A) (oN A) k) := by
  have hA := ok.1
  obtain ⟨h1, c1, c2, c3, c4⟩ := m_takes ok rm
  have w : RmW h1 A := RmW_of (RmH_congr (c3 123 (by decide)) rm) c2
  obtain ⟨h2, d1, d2, d3⟩ : ∃ h', L_X12_puts_9 h1 122 (nI col) (nI rd) (nI 0) (nI 0) = some h' ∧ FrL h1 h' ∧ ∀ k, k < oN A → hI h' 123 (338 + k) = nI (srt (putR A col rd) (oD A) (oN A) k) := by
    refine iterW_inv (fun p s => s.2.2 = nI p ∧ s.2.1 = nI (blw (putR A col rd) p (oN A)) ∧ FrL h1 s.1 ∧ ∀ i, i < oN A → putR A col rd i < p → hI s.1 123 (338 + psn (putR A col rd) (oN A) i) = nI (oD A i)) _ 2 (fun p s hp z => ?_) (fun s z => ?_) ⟨rfl, by rw [blw_0], FrL.rf, fun i hi hc => by omega⟩
    · obtain ⟨q1, q2, q3, q5⟩ := z
      obtain ⟨h', a1, a2, a4⟩ := m_put1 ok (q3.w ok w) hc hr hp q5
      refine ⟨(h', nI (blw (putR A col rd) (p + 1) (oN A)), nI (p + 1)), ?_, rfl, rfl, q3.trans a2, a4⟩
      show B_X12_puts_9 _ _ _ _ _ _ = _
      unfold B_X12_puts_9
      rw [q1, q2]
      simp (disch := omega) only [↓m1_n, li_n, li_0, li_1, lt_y, lt_n, le_y, le_n, eq_n, nL, nLe, nEq, nEm, mEn, nLm, mLn, nLem, mLen, nI_add, nI_mul, nI_sub, nI_m, ib_nI, nx_nI, gd_y, bnd_e, bind_y, ↓reduceIte, hI_uI_o, hI_uI_s, hI_uI_e, hL_uI, hI_uL, hL_uL_o, hL_uL_s, hL_uL_e, and1_a, and1_b, Bool.not_true, Bool.not_false, Nat.zero_add, Nat.add_zero, Nat.add_sub_cancel, eq_self, ne_b, g0_0, g0_1, g0_2, g0_3, g0_4, g0_5, g0_6, g0_7, g0_8, g0_9, n1, n2, g3_2, g3_3, g3_4, g3_5, g3_6, g3_7, g3_8, g3_9, n4, n5, n6, n7, n8, n9, g10_2, g10_3, g10_4, g10_5, n11, n12, n13, n14, g15_2, g15_3, g15_4, g15_5, n16, n17, n18, n19, g40_0, g40_1, g40_2, g44_0, g44_2, g44_3, g44_5, g44_6, g44_10, g51_3, g51_4, g51_5, g51_6, g51_7, g57_3, g57_4, g57_5, g57_6, g57_7, n120, n121, g122_0, g122_4, g122_5, g122_6, g122_7, g122_8, g122_18, g122_19, g122_20, g122_21, g122_24, g122_25, g122_28, g122_29, g122_31, g122_32, g122_33, g122_39, g122_40, g122_41, g122_45, g122_46, g122_47, g122_48, n123, n124, n125, n126, n127, n128, n129, n130, n131, n132, n133, n134, n135, n136, n137, n138, n139, n140, n141, n142, n143, n144, n145, n146, a1]
    · obtain ⟨q1, q2, q3, q5⟩ := z
      refine ⟨s.1, ?_, q3, fun k hk => srt_all (H := fun k => hI s.1 123 (338 + k)) (fun i hi => q5 i hi (by have := putR_le (A := A) (col := col) (rd := rd) (k := i); omega)) hk⟩
      show B_X12_puts_9 _ _ _ _ _ _ = _
      unfold B_X12_puts_9
      rw [q1]
      simp (disch := omega) only [↓m1_n, li_n, li_0, li_1, lt_y, lt_n, le_y, le_n, eq_n, nL, nLe, nEq, nEm, mEn, nLm, mLn, nLem, mLen, nI_add, nI_mul, nI_sub, nI_m, ib_nI, nx_nI, gd_y, bnd_e, bind_y, ↓reduceIte, hI_uI_o, hI_uI_s, hI_uI_e, hL_uI, hI_uL, hL_uL_o, hL_uL_s, hL_uL_e, and1_a, and1_b, Bool.not_true, Bool.not_false, Nat.zero_add, Nat.add_zero, Nat.add_sub_cancel, eq_self, ne_b, g0_0, g0_1, g0_2, g0_3, g0_4, g0_5, g0_6, g0_7, g0_8, g0_9, n1, n2, g3_2, g3_3, g3_4, g3_5, g3_6, g3_7, g3_8, g3_9, n4, n5, n6, n7, n8, n9, g10_2, g10_3, g10_4, g10_5, n11, n12, n13, n14, g15_2, g15_3, g15_4, g15_5, n16, n17, n18, n19, g40_0, g40_1, g40_2, g44_0, g44_2, g44_3, g44_5, g44_6, g44_10, g51_3, g51_4, g51_5, g51_6, g51_7, g57_3, g57_4, g57_5, g57_6, g57_7, n120, n121, g122_0, g122_4, g122_5, g122_6, g122_7, g122_8, g122_18, g122_19, g122_20, g122_21, g122_24, g122_25, g122_28, g122_29, g122_31, g122_32, g122_33, g122_39, g122_40, g122_41, g122_45, g122_46, g122_47, g122_48, n123, n124, n125, n126, n127, n128, n129, n130, n131, n132, n133, n134, n135, n136, n137, n138, n139, n140, n141, n142, n143, n144, n145, n146]
  refine ⟨h2, ?_, FrR_of c3 c4 d2, d3⟩
  unfold F_X12_puts
  simp (disch := omega) only [↓m1_n, li_n, li_0, li_1, lt_y, lt_n, le_y, le_n, eq_n, nL, nLe, nEq, nEm, mEn, nLm, mLn, nLem, mLen, nI_add, nI_mul, nI_sub, nI_m, ib_nI, nx_nI, gd_y, bnd_e, bind_y, ↓reduceIte, hI_uI_o, hI_uI_s, hI_uI_e, hL_uI, hI_uL, hL_uL_o, hL_uL_s, hL_uL_e, and1_a, and1_b, Bool.not_true, Bool.not_false, Nat.zero_add, Nat.add_zero, Nat.add_sub_cancel, eq_self, ne_b, g0_0, g0_1, g0_2, g0_3, g0_4, g0_5, g0_6, g0_7, g0_8, g0_9, n1, n2, g3_2, g3_3, g3_4, g3_5, g3_6, g3_7, g3_8, g3_9, n4, n5, n6, n7, n8, n9, g10_2, g10_3, g10_4, g10_5, n11, n12, n13, n14, g15_2, g15_3, g15_4, g15_5, n16, n17, n18, n19, g40_0, g40_1, g40_2, g44_0, g44_2, g44_3, g44_5, g44_6, g44_10, g51_3, g51_4, g51_5, g51_6, g51_7, g57_3, g57_4, g57_5, g57_6, g57_7, n120, n121, g122_0, g122_4, g122_5, g122_6, g122_7, g122_8, g122_18, g122_19, g122_20, g122_21, g122_24, g122_25, g122_28, g122_29, g122_31, g122_32, g122_33, g122_39, g122_40, g122_41, g122_45, g122_46, g122_47, g122_48, n123, n124, n125, n126, n127, n128, n129, n130, n131, n132, n133, n134, n135, n136, n137, n138, n139, n140, n141, n142, n143, n144, n145, n146, c1, d1]
theorem m_cut' {h : Hp} {A : Ho} {q m : Nat} (ok : HoOk q A) (rm : RmH h 0 A) (hm : m ≤ 99) : ∃ h', F_X12_cuts h 122 (nI m) = some h' ∧ FrR h h' ∧ ∀ k, k < oN A → hI h' 123 (338 + k) = nI (cutD (oD A) (oN A) m k) := by
  have hA := ok.1
  obtain ⟨h1, c1, c2, c3, c4⟩ := m_takes ok rm
  have rm1 : RmH h1 0 A := RmH_congr (c3 123 (by decide)) rm
  obtain ⟨h2, d1, d2, d3⟩ : ∃ h', L_X12_cuts_13 h1 122 (nI m) (nI (oN A)) (nI 0) = some h' ∧ FrL h1 h' ∧ ∀ k, k < oN A → hI h' 123 (338 + k) = nI (cutD (oD A) (oN A) m k) := by
    by_cases l : oN A ≤ m
    · refine ⟨h1, iterW_end ?_, FrL.rf, fun k hk => ?_⟩
      · show B_X12_cuts_13 _ _ _ _ _ = _
        unfold B_X12_cuts_13
        by_cases z : oN A = 0
        · rw [z]
          simp (disch := omega) only [↓m1_n, li_n, li_0, li_1, lt_y, lt_n, le_y, le_n, eq_n, nL, nLe, nEq, nEm, mEn, nLm, mLn, nLem, mLen, nI_add, nI_mul, nI_sub, nI_m, ib_nI, nx_nI, gd_y, bnd_e, bind_y, ↓reduceIte, hI_uI_o, hI_uI_s, hI_uI_e, hL_uI, hI_uL, hL_uL_o, hL_uL_s, hL_uL_e, and1_a, and1_b, Bool.not_true, Bool.not_false, Nat.zero_add, Nat.add_zero, Nat.add_sub_cancel, eq_self, ne_b, g0_0, g0_1, g0_2, g0_3, g0_4, g0_5, g0_6, g0_7, g0_8, g0_9, n1, n2, g3_2, g3_3, g3_4, g3_5, g3_6, g3_7, g3_8, g3_9, n4, n5, n6, n7, n8, n9, g10_2, g10_3, g10_4, g10_5, n11, n12, n13, n14, g15_2, g15_3, g15_4, g15_5, n16, n17, n18, n19, g40_0, g40_1, g40_2, g44_0, g44_2, g44_3, g44_5, g44_6, g44_10, g51_3, g51_4, g51_5, g51_6, g51_7, g57_3, g57_4, g57_5, g57_6, g57_7, n120, n121, g122_0, g122_4, g122_5, g122_6, g122_7, g122_8, g122_18, g122_19, g122_20, g122_21, g122_24, g122_25, g122_28, g122_29, g122_31, g122_32, g122_33, g122_39, g122_40, g122_41, g122_45, g122_46, g122_47, g122_48, n123, n124, n125, n126, n127, n128, n129, n130, n131, n132, n133, n134, n135, n136, n137, n138, n139, n140, n141, n142, n143, n144, n145, n146]
        · simp (disch := omega) only [↓m1_n, li_n, li_0, li_1, lt_y, lt_n, le_y, le_n, eq_n, nL, nLe, nEq, nEm, mEn, nLm, mLn, nLem, mLen, nI_add, nI_mul, nI_sub, nI_m, ib_nI, nx_nI, gd_y, bnd_e, bind_y, ↓reduceIte, hI_uI_o, hI_uI_s, hI_uI_e, hL_uI, hI_uL, hL_uL_o, hL_uL_s, hL_uL_e, and1_a, and1_b, Bool.not_true, Bool.not_false, Nat.zero_add, Nat.add_zero, Nat.add_sub_cancel, eq_self, ne_b, g0_0, g0_1, g0_2, g0_3, g0_4, g0_5, g0_6, g0_7, g0_8, g0_9, n1, n2, g3_2, g3_3, g3_4, g3_5, g3_6, g3_7, g3_8, g3_9, n4, n5, n6, n7, n8, n9, g10_2, g10_3, g10_4, g10_5, n11, n12, n13, n14, g15_2, g15_3, g15_4, g15_5, n16, n17, n18, n19, g40_0, g40_1, g40_2, g44_0, g44_2, g44_3, g44_5, g44_6, g44_10, g51_3, g51_4, g51_5, g51_6, g51_7, g57_3, g57_4, g57_5, g57_6, g57_7, n120, n121, g122_0, g122_4, g122_5, g122_6, g122_7, g122_8, g122_18, g122_19, g122_20, g122_21, g122_24, g122_25, g122_28, g122_29, g122_31, g122_32, g122_33, g122_39, g122_40, g122_41, g122_45, g122_46, g122_47, g122_48, n123, n124, n125, n126, n127, n128, n129, n130, n131, n132, n133, n134, n135, n136, n137, n138, n139, n140, n141, n142, n143, n144, n145, n146, l]
      · rw [mDe rm1 hk]
        unfold cutD
        rw [if_neg (by omega)]
    · refine iterW_inv (fun j s => s.2 = nI j ∧ FrL h1 s.1 ∧ ∀ k, k < j → hI s.1 123 (338 + k) = nI (cutD (oD A) (oN A) m k)) _ (oN A) (fun j s hj z => ?_) (fun s z => ?_) ⟨rfl, FrL.rf, fun k hk => by omega⟩
      · obtain ⟨q1, q2, q3⟩ := z
        have lm : (j + m) % oN A < oN A := Nat.mod_lt _ (by omega)
        have e1 : nI (j + m) - nI (j + m) / nI (oN A) * nI (oN A) = nI ((j + m) % oN A) := pk_rem (by omega) (by omega) (by omega)
        have e2 : hI s.1 134 ((j + m) % oN A) = nI (oD A ((j + m) % oN A)) := by rw [q2.1 134 (by decide)]; exact c2 _ lm
        have ex : cutD (oD A) (oN A) m j = oD A ((j + m) % oN A) := if_pos (by omega)
        generalize (j + m) % oN A = x at *
        refine ⟨(uI s.1 123 (338 + j) (nI (oD A x)), nI (j + 1)), ?_, rfl, q2.trans (FrL.u (by omega)), fun k hk => ?_⟩
        · show B_X12_cuts_13 _ _ _ _ _ = _
          unfold B_X12_cuts_13
          rw [q1]
          simp (disch := omega) only [↓m1_n, li_n, li_0, li_1, lt_y, lt_n, le_y, le_n, eq_n, nL, nLe, nEq, nEm, mEn, nLm, mLn, nLem, mLen, nI_add, nI_mul, nI_sub, nI_m, ib_nI, nx_nI, gd_y, bnd_e, bind_y, ↓reduceIte, hI_uI_o, hI_uI_s, hI_uI_e, hL_uI, hI_uL, hL_uL_o, hL_uL_s, hL_uL_e, and1_a, and1_b, Bool.not_true, Bool.not_false, Nat.zero_add, Nat.add_zero, Nat.add_sub_cancel, eq_self, ne_b, g0_0, g0_1, g0_2, g0_3, g0_4, g0_5, g0_6, g0_7, g0_8, g0_9, n1, n2, g3_2, g3_3, g3_4, g3_5, g3_6, g3_7, g3_8, g3_9, n4, n5, n6, n7, n8, n9, g10_2, g10_3, g10_4, g10_5, n11, n12, n13, n14, g15_2, g15_3, g15_4, g15_5, n16, n17, n18, n19, g40_0, g40_1, g40_2, g44_0, g44_2, g44_3, g44_5, g44_6, g44_10, g51_3, g51_4, g51_5, g51_6, g51_7, g57_3, g57_4, g57_5, g57_6, g57_7, n120, n121, g122_0, g122_4, g122_5, g122_6, g122_7, g122_8, g122_18, g122_19, g122_20, g122_21, g122_24, g122_25, g122_28, g122_29, g122_31, g122_32, g122_33, g122_39, g122_40, g122_41, g122_45, g122_46, g122_47, g122_48, n123, n124, n125, n126, n127, n128, n129, n130, n131, n132, n133, n134, n135, n136, n137, n138, n139, n140, n141, n142, n143, n144, n145, n146, e1, e2, decide_false]
        · by_cases c : k = j
          · subst c
            rw [hI_uI_e, ex]
          · rw [hI_uI_s (by omega)]
            exact q3 k (by omega)
      · obtain ⟨q1, q2, q3⟩ := z
        refine ⟨s.1, ?_, q2, q3⟩
        show B_X12_cuts_13 _ _ _ _ _ = _
        unfold B_X12_cuts_13
        rw [q1]
        simp (disch := omega) only [↓m1_n, li_n, li_0, li_1, lt_y, lt_n, le_y, le_n, eq_n, nL, nLe, nEq, nEm, mEn, nLm, mLn, nLem, mLen, nI_add, nI_mul, nI_sub, nI_m, ib_nI, nx_nI, gd_y, bnd_e, bind_y, ↓reduceIte, hI_uI_o, hI_uI_s, hI_uI_e, hL_uI, hI_uL, hL_uL_o, hL_uL_s, hL_uL_e, and1_a, and1_b, Bool.not_true, Bool.not_false, Nat.zero_add, Nat.add_zero, Nat.add_sub_cancel, eq_self, ne_b, g0_0, g0_1, g0_2, g0_3, g0_4, g0_5, g0_6, g0_7, g0_8, g0_9, n1, n2, g3_2, g3_3, g3_4, g3_5, g3_6, g3_7, g3_8, g3_9, n4, n5, n6, n7, n8, n9, g10_2, g10_3, g10_4, g10_5, n11, n12, n13, n14, g15_2, g15_3, g15_4, g15_5, n16, n17, n18, n19, g40_0, g40_1, g40_2, g44_0, g44_2, g44_3, g44_5, g44_6, g44_10, g51_3, g51_4, g51_5, g51_6, g51_7, g57_3, g57_4, g57_5, g57_6, g57_7, n120, n121, g122_0, g122_4, g122_5, g122_6, g122_7, g122_8, g122_18, g122_19, g122_20, g122_21, g122_24, g122_25, g122_28, g122_29, g122_31, g122_32, g122_33, g122_39, g122_40, g122_41, g122_45, g122_46, g122_47, g122_48, n123, n124, n125, n126, n127, n128, n129, n130, n131, n132, n133, n134, n135, n136, n137, n138, n139, n140, n141, n142, n143, n144, n145, n146]
  refine ⟨h2, ?_, FrR_of c3 c4 d2, d3⟩
  unfold F_X12_cuts
  simp (disch := omega) only [↓m1_n, li_n, li_0, li_1, lt_y, lt_n, le_y, le_n, eq_n, nL, nLe, nEq, nEm, mEn, nLm, mLn, nLem, mLen, nI_add, nI_mul, nI_sub, nI_m, ib_nI, nx_nI, gd_y, bnd_e, bind_y, ↓reduceIte, hI_uI_o, hI_uI_s, hI_uI_e, hL_uI, hI_uL, hL_uL_o, hL_uL_s, hL_uL_e, and1_a, and1_b, Bool.not_true, Bool.not_false, Nat.zero_add, Nat.add_zero, Nat.add_sub_cancel, eq_self, ne_b, g0_0, g0_1, g0_2, g0_3, g0_4, g0_5, g0_6, g0_7, g0_8, g0_9, n1, n2, g3_2, g3_3, g3_4, g3_5, g3_6, g3_7, g3_8, g3_9, n4, n5, n6, n7, n8, n9, g10_2, g10_3, g10_4, g10_5, n11, n12, n13, n14, g15_2, g15_3, g15_4, g15_5, n16, n17, n18, n19, g40_0, g40_1, g40_2, g44_0, g44_2, g44_3, g44_5, g44_6, g44_10, g51_3, g51_4, g51_5, g51_6, g51_7, g57_3, g57_4, g57_5, g57_6, g57_7, n120, n121, g122_0, g122_4, g122_5, g122_6, g122_7, g122_8, g122_18, g122_19, g122_20, g122_21, g122_24, g122_25, g122_28, g122_29, g122_31, g122_32, g122_33, g122_39, g122_40, g122_41, g122_45, g122_46, g122_47, g122_48, n123, n124, n125, n126, n127, n128, n129, n130, n131, n132, n133, n134, n135, n136, n137, n138, n139, n140, n141, n142, n143, n144, n145, n146, mNc rm, c1, d1]
theorem m_turn {h : Hp} {A : Ho} {q : Nat} (ok : HoOk q A) (rm : RmH h 0 A) : ∃ h', F_X12_turns h 122 = some h' ∧ FrR h h' ∧ ∀ k, k < oN A → hI h' 123 (338 + k) = nI (trnD (oD A) (oN A) k) := by
  have hA := ok.1
  obtain ⟨h1, c1, c2, c3, c4⟩ := m_takes ok rm
  have rm1 : RmH h1 0 A := RmH_congr (c3 123 (by decide)) rm
  obtain ⟨h2, d1, d2, d3⟩ : ∃ h', L_X12_turns_6 h1 122 (nI 0) = some h' ∧ FrL h1 h' ∧ ∀ k, k < oN A → hI h' 123 (338 + k) = nI (trnD (oD A) (oN A) k) := by
    refine iterW_inv (fun j s => s.2 = nI j ∧ FrL h1 s.1 ∧ ∀ k, k < j → hI s.1 123 (338 + k) = nI (trnD (oD A) (oN A) k)) _ (oN A) (fun j s hj z => ?_) (fun s z => ?_) ⟨rfl, FrL.rf, fun k hk => by omega⟩
    · obtain ⟨q1, q2, q3⟩ := z
      have e0 : hI s.1 123 0 = nI (oN A) := by rw [q2.2.1 0 (by omega)]; exact mNc rm1
      have e9 : hI s.1 134 (oN A - 1 - j) = nI (oD A (oN A - 1 - j)) := by rw [q2.1 134 (by decide)]; exact c2 _ (by omega)
      refine ⟨(uI s.1 123 (338 + j) (nI (trnD (oD A) (oN A) j)), nI (j + 1)), ?_, rfl, q2.trans (FrL.u (by omega)), fun k hk => ?_⟩
      · show B_X12_turns_6 _ _ _ = _
        unfold B_X12_turns_6 trnD
        rw [q1]
        simp (disch := omega) only [↓m1_n, li_n, li_0, li_1, lt_y, lt_n, le_y, le_n, eq_n, nL, nLe, nEq, nEm, mEn, nLm, mLn, nLem, mLen, nI_add, nI_mul, nI_sub, nI_m, ib_nI, nx_nI, gd_y, bnd_e, bind_y, ↓reduceIte, hI_uI_o, hI_uI_s, hI_uI_e, hL_uI, hI_uL, hL_uL_o, hL_uL_s, hL_uL_e, and1_a, and1_b, Bool.not_true, Bool.not_false, Nat.zero_add, Nat.add_zero, Nat.add_sub_cancel, eq_self, ne_b, g0_0, g0_1, g0_2, g0_3, g0_4, g0_5, g0_6, g0_7, g0_8, g0_9, n1, n2, g3_2, g3_3, g3_4, g3_5, g3_6, g3_7, g3_8, g3_9, n4, n5, n6, n7, n8, n9, g10_2, g10_3, g10_4, g10_5, n11, n12, n13, n14, g15_2, g15_3, g15_4, g15_5, n16, n17, n18, n19, g40_0, g40_1, g40_2, g44_0, g44_2, g44_3, g44_5, g44_6, g44_10, g51_3, g51_4, g51_5, g51_6, g51_7, g57_3, g57_4, g57_5, g57_6, g57_7, n120, n121, g122_0, g122_4, g122_5, g122_6, g122_7, g122_8, g122_18, g122_19, g122_20, g122_21, g122_24, g122_25, g122_28, g122_29, g122_31, g122_32, g122_33, g122_39, g122_40, g122_41, g122_45, g122_46, g122_47, g122_48, n123, n124, n125, n126, n127, n128, n129, n130, n131, n132, n133, n134, n135, n136, n137, n138, n139, n140, n141, n142, n143, n144, n145, n146, e0, e9]
      · by_cases c : k = j
        · subst c
          rw [hI_uI_e]
        · rw [hI_uI_s (by omega)]
          exact q3 k (by omega)
    · obtain ⟨q1, q2, q3⟩ := z
      have e0 : hI s.1 123 0 = nI (oN A) := by rw [q2.2.1 0 (by omega)]; exact mNc rm1
      refine ⟨s.1, ?_, q2, q3⟩
      show B_X12_turns_6 _ _ _ = _
      unfold B_X12_turns_6
      rw [q1]
      simp (disch := omega) only [↓m1_n, li_n, li_0, li_1, lt_y, lt_n, le_y, le_n, eq_n, nL, nLe, nEq, nEm, mEn, nLm, mLn, nLem, mLen, nI_add, nI_mul, nI_sub, nI_m, ib_nI, nx_nI, gd_y, bnd_e, bind_y, ↓reduceIte, hI_uI_o, hI_uI_s, hI_uI_e, hL_uI, hI_uL, hL_uL_o, hL_uL_s, hL_uL_e, and1_a, and1_b, Bool.not_true, Bool.not_false, Nat.zero_add, Nat.add_zero, Nat.add_sub_cancel, eq_self, ne_b, g0_0, g0_1, g0_2, g0_3, g0_4, g0_5, g0_6, g0_7, g0_8, g0_9, n1, n2, g3_2, g3_3, g3_4, g3_5, g3_6, g3_7, g3_8, g3_9, n4, n5, n6, n7, n8, n9, g10_2, g10_3, g10_4, g10_5, n11, n12, n13, n14, g15_2, g15_3, g15_4, g15_5, n16, n17, n18, n19, g40_0, g40_1, g40_2, g44_0, g44_2, g44_3, g44_5, g44_6, g44_10, g51_3, g51_4, g51_5, g51_6, g51_7, g57_3, g57_4, g57_5, g57_6, g57_7, n120, n121, g122_0, g122_4, g122_5, g122_6, g122_7, g122_8, g122_18, g122_19, g122_20, g122_21, g122_24, g122_25, g122_28, g122_29, g122_31, g122_32, g122_33, g122_39, g122_40, g122_41, g122_45, g122_46, g122_47, g122_48, n123, n124, n125, n126, n127, n128, n129, n130, n131, n132, n133, n134, n135, n136, n137, n138, n139, n140, n141, n142, n143, n144, n145, n146, e0]
  refine ⟨h2, ?_, FrR_of c3 c4 d2, d3⟩
  unfold F_X12_turns
  simp (disch := omega) only [↓m1_n, li_n, li_0, li_1, lt_y, lt_n, le_y, le_n, eq_n, nL, nLe, nEq, nEm, mEn, nLm, mLn, nLem, mLen, nI_add, nI_mul, nI_sub, nI_m, ib_nI, nx_nI, gd_y, bnd_e, bind_y, ↓reduceIte, hI_uI_o, hI_uI_s, hI_uI_e, hL_uI, hI_uL, hL_uL_o, hL_uL_s, hL_uL_e, and1_a, and1_b, Bool.not_true, Bool.not_false, Nat.zero_add, Nat.add_zero, Nat.add_sub_cancel, eq_self, ne_b, g0_0, g0_1, g0_2, g0_3, g0_4, g0_5, g0_6, g0_7, g0_8, g0_9, n1, n2, g3_2, g3_3, g3_4, g3_5, g3_6, g3_7, g3_8, g3_9, n4, n5, n6, n7, n8, n9, g10_2, g10_3, g10_4, g10_5, n11, n12, n13, n14, g15_2, g15_3, g15_4, g15_5, n16, n17, n18, n19, g40_0, g40_1, g40_2, g44_0, g44_2, g44_3, g44_5, g44_6, g44_10, g51_3, g51_4, g51_5, g51_6, g51_7, g57_3, g57_4, g57_5, g57_6, g57_7, n120, n121, g122_0, g122_4, g122_5, g122_6, g122_7, g122_8, g122_18, g122_19, g122_20, g122_21, g122_24, g122_25, g122_28, g122_29, g122_31, g122_32, g122_33, g122_39, g122_40, g122_41, g122_45, g122_46, g122_47, g122_48, n123, n124, n125, n126, n127, n128, n129, n130, n131, n132, n133, n134, n135, n136, n137, n138, n139, n140, n141, n142, n143, n144, n145, n146, c1, d1]
