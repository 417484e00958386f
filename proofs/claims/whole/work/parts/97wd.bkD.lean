/-! ===== book: a mean ===== -/
theorem c_fillR {h : Hp} {c a b n : Nat} {v : Int32} (hl : LEN c = n) (hn : n < 2 ^ 31) (hab : a ≤ b) (hb : b ≤ n) : ∃ h', F_J7_fill_fda19 h c (nI a) (nI b) v = some h' ∧ hL h' = hL h ∧ hT h' = hT h ∧ (∀ d, d ≠ c → hI h' d = hI h d) ∧ ∀ j, hI h' c j = if a ≤ j ∧ j < b then v else hI h c j := by
  have L : ∃ h', L_J7_fill_fda19_10 h c (nI b) v (nI a) = some h' ∧ hL h' = hL h ∧ hT h' = hT h ∧ (∀ d, d ≠ c → hI h' d = hI h d) ∧ ∀ j, hI h' c j = if a ≤ j ∧ j < b then v else hI h c j := by
    refine iterW_inv (fun i s => s.2 = nI (a + i) ∧ hL s.1 = hL h ∧ hT s.1 = hT h ∧ (∀ d, d ≠ c → hI s.1 d = hI h d) ∧ ∀ j, hI s.1 c j = if a ≤ j ∧ j < a + i then v else hI h c j) _ (b - a) (fun i s hi p => ?_) (fun s p => ?_) ⟨rfl, rfl, rfl, fun _ _ => rfl, fun j => by rw [if_neg (by omega)]⟩
    · obtain ⟨p1, p2, p3, p4, p5⟩ := p
      refine ⟨(uI s.1 c (a + i) v, nI (a + i + 1)), ?_, rfl, p2, p3, fun d hd => by rw [hI_uI_o hd]; exact p4 d hd, fun j => ?_⟩
      · show B_J7_fill_fda19_10 _ _ _ _ _ = _
        unfold B_J7_fill_fda19_10
        rw [p1]
        simp (disch := omega) only [↓m1_n, li_n, li_0, li_1, lt_y, lt_n, le_y, le_n, eq_n, nL, nLe, nEq, nEm, mEn, nLm, mLn, nLem, mLen, nI_add, nI_mul, nI_sub, nI_m, ib_nI, nx_nI, gd_y, bnd_e, bind_y, ↓reduceIte, hI_uI_o, hI_uI_s, hI_uI_e, hL_uI, hI_uL, hL_uL_o, hL_uL_s, hL_uL_e, and1_a, and1_b, Bool.not_true, Bool.not_false, Nat.zero_add, Nat.add_zero, Nat.add_sub_cancel, eq_self, ne_b, g0_0, g0_1, g0_2, g0_3, g0_4, g0_5, g0_6, g0_7, g0_8, g0_9, n1, n2, g3_2, g3_3, g3_4, g3_5, g3_6, g3_7, g3_8, g3_9, n4, n5, n6, n7, n8, n9, g10_2, g10_3, g10_4, g10_5, n11, n12, n13, n14, g15_2, g15_3, g15_4, g15_5, n16, n17, n18, n19, g40_0, g40_1, g40_2, g44_0, g44_2, g44_3, g44_5, g44_6, g44_10, g51_3, g51_4, g51_5, g51_6, g51_7, g57_3, g57_4, g57_5, g57_6, g57_7, n120, n121, g122_0, g122_4, g122_5, g122_6, g122_7, g122_8, g122_18, g122_19, g122_20, g122_21, g122_24, g122_25, g122_28, g122_29, g122_31, g122_32, g122_33, g122_39, g122_40, g122_41, g122_45, g122_46, g122_47, g122_48, n123, n124, n125, n126, n127, n128, n129, n130, n131, n132, n133, n134, n135, n136, n137, n138, n139, n140, n141, n142, n143, n144, n145, n146, n45, n46, n47, n48, n49, n50, decide_false, Bool.false_eq_true, n20, g21_0, g21_1, g21_2, g21_3, n23, g24_2, g24_3, g24_4, g24_5, n25, n26, n27, n28, n29, n30, g31_0, g31_1, g31_2, n33, g34_2, g34_3, g34_4, g34_5, n35, n36, n37, n38, n39, adC_o, adC_s, adC_L, adM_o, adM_s, adM_L, hl]
      · by_cases e : j = a + i
        · rw [e, hI_uI_e, if_pos (by omega)]
        · rw [hI_uI_s e, p5 j]
          by_cases c1 : a ≤ j ∧ j < a + i
          · rw [if_pos c1, if_pos (by omega)]
          · rw [if_neg c1, if_neg (by omega)]
    · obtain ⟨p1, p2, p3, p4, p5⟩ := p
      refine ⟨s.1, ?_, p2, p3, p4, fun j => by rw [p5 j, show a + (b - a) = b by omega]⟩
      show B_J7_fill_fda19_10 _ _ _ _ _ = _
      unfold B_J7_fill_fda19_10
      rw [p1, show a + (b - a) = b by omega]
      simp (disch := omega) only [↓m1_n, li_n, li_0, li_1, lt_y, lt_n, le_y, le_n, eq_n, nL, nLe, nEq, nEm, mEn, nLm, mLn, nLem, mLen, nI_add, nI_mul, nI_sub, nI_m, ib_nI, nx_nI, gd_y, bnd_e, bind_y, ↓reduceIte, hI_uI_o, hI_uI_s, hI_uI_e, hL_uI, hI_uL, hL_uL_o, hL_uL_s, hL_uL_e, and1_a, and1_b, Bool.not_true, Bool.not_false, Nat.zero_add, Nat.add_zero, Nat.add_sub_cancel, eq_self, ne_b, g0_0, g0_1, g0_2, g0_3, g0_4, g0_5, g0_6, g0_7, g0_8, g0_9, n1, n2, g3_2, g3_3, g3_4, g3_5, g3_6, g3_7, g3_8, g3_9, n4, n5, n6, n7, n8, n9, g10_2, g10_3, g10_4, g10_5, n11, n12, n13, n14, g15_2, g15_3, g15_4, g15_5, n16, n17, n18, n19, g40_0, g40_1, g40_2, g44_0, g44_2, g44_3, g44_5, g44_6, g44_10, g51_3, g51_4, g51_5, g51_6, g51_7, g57_3, g57_4, g57_5, g57_6, g57_7, n120, n121, g122_0, g122_4, g122_5, g122_6, g122_7, g122_8, g122_18, g122_19, g122_20, g122_21, g122_24, g122_25, g122_28, g122_29, g122_31, g122_32, g122_33, g122_39, g122_40, g122_41, g122_45, g122_46, g122_47, g122_48, n123, n124, n125, n126, n127, n128, n129, n130, n131, n132, n133, n134, n135, n136, n137, n138, n139, n140, n141, n142, n143, n144, n145, n146, n45, n46, n47, n48, n49, n50, decide_false, Bool.false_eq_true, n20, g21_0, g21_1, g21_2, g21_3, n23, g24_2, g24_3, g24_4, g24_5, n25, n26, n27, n28, n29, n30, g31_0, g31_1, g31_2, n33, g34_2, g34_3, g34_4, g34_5, n35, n36, n37, n38, n39, adC_o, adC_s, adC_L, adM_o, adM_s, adM_L]
  obtain ⟨h', l1, l2⟩ := L
  refine ⟨h', ?_, l2⟩
  unfold F_J7_fill_fda19 F_J7_rangeCheck_23922
  simp (disch := omega) only [↓m1_n, li_n, li_0, li_1, lt_y, lt_n, le_y, le_n, eq_n, nL, nLe, nEq, nEm, mEn, nLm, mLn, nLem, mLen, nI_add, nI_mul, nI_sub, nI_m, ib_nI, nx_nI, gd_y, bnd_e, bind_y, ↓reduceIte, hI_uI_o, hI_uI_s, hI_uI_e, hL_uI, hI_uL, hL_uL_o, hL_uL_s, hL_uL_e, and1_a, and1_b, Bool.not_true, Bool.not_false, Nat.zero_add, Nat.add_zero, Nat.add_sub_cancel, eq_self, ne_b, g0_0, g0_1, g0_2, g0_3, g0_4, g0_5, g0_6, g0_7, g0_8, g0_9, n1, n2, g3_2, g3_3, g3_4, g3_5, g3_6, g3_7, g3_8, g3_9, n4, n5, n6, n7, n8, n9, g10_2, g10_3, g10_4, g10_5, n11, n12, n13, n14, g15_2, g15_3, g15_4, g15_5, n16, n17, n18, n19, g40_0, g40_1, g40_2, g44_0, g44_2, g44_3, g44_5, g44_6, g44_10, g51_3, g51_4, g51_5, g51_6, g51_7, g57_3, g57_4, g57_5, g57_6, g57_7, n120, n121, g122_0, g122_4, g122_5, g122_6, g122_7, g122_8, g122_18, g122_19, g122_20, g122_21, g122_24, g122_25, g122_28, g122_29, g122_31, g122_32, g122_33, g122_39, g122_40, g122_41, g122_45, g122_46, g122_47, g122_48, n123, n124, n125, n126, n127, n128, n129, n130, n131, n132, n133, n134, n135, n136, n137, n138, n139, n140, n141, n142, n143, n144, n145, n146, n45, n46, n47, n48, n49, n50, decide_false, Bool.false_eq_true, n20, g21_0, g21_1, g21_2, g21_3, n23, g24_2, g24_3, g24_4, g24_5, n25, n26, n27, n28, n29, n30, g31_0, g31_1, g31_2, n33, g34_2, g34_3, g34_4, g34_5, n35, n36, n37, n38, n39, adC_o, adC_s, adC_L, adM_o, adM_s, adM_L, hl, l1]
theorem c_addMean {h : Hp} {c k w : Nat} (hc : 0 < c) (hc4 : c ≤ 4) (hk : k < 20) (e0 : hI h 24 0 = nI c) (e1 : hI h 24 1 = nI k) : ∃ h', F_X0_addMean h 24 (nI w) = some h' ∧ hL h' = hL h ∧ hT h' = hT h ∧ (∀ d, d ≠ 24 → d ≠ 26 → d ≠ 27 → d ≠ 28 → hI h' d = hI h d) ∧ hI h' 24 0 = nI c ∧ hI h' 24 1 = nI (k + 1) ∧ (∀ j, hI h' 26 j = if j = k then nI (c - 1) else hI h 26 j) ∧ (∀ j, hI h' 27 j = if j = k then nI w else hI h 27 j) ∧ ∀ j, hI h' 28 j = if j = 4 * k + (c - 1) then nI k else if 4 * k ≤ j ∧ j < 4 * k + 4 then mN else hI h 28 j := by
  obtain ⟨h2, a1, a2, a3, a4, a5⟩ := c_fillR (h := uI (uI h 26 k (nI (c - 1))) 27 k (nI w)) (c := 28) (a := k * 4) (b := (k + 1) * 4) (v := mN) n28 (by decide) (by omega) (by omega)
  have q0 : hI h2 24 0 = nI c := by rw [a4 24 (by decide), hI_uI_o (by decide), hI_uI_o (by decide)]; exact e0
  have q1 : hI h2 24 1 = nI k := by rw [a4 24 (by decide), hI_uI_o (by decide), hI_uI_o (by decide)]; exact e1
  refine ⟨uI (uI h2 28 (k * 4 + c - 1) (nI k)) 24 1 (nI (k + 1)), ?_, a2, a3, fun d d1 d2 d3 d4 => ?_, ?_, hI_uI_e, fun j => ?_, fun j => ?_, fun j => ?_⟩
  · unfold F_X0_addMean
    simp (disch := omega) only [↓m1_n, li_n, li_0, li_1, lt_y, lt_n, le_y, le_n, eq_n, nL, nLe, nEq, nEm, mEn, nLm, mLn, nLem, mLen, nI_add, nI_mul, nI_sub, nI_m, ib_nI, nx_nI, gd_y, bnd_e, bind_y, ↓reduceIte, hI_uI_o, hI_uI_s, hI_uI_e, hL_uI, hI_uL, hL_uL_o, hL_uL_s, hL_uL_e, and1_a, and1_b, Bool.not_true, Bool.not_false, Nat.zero_add, Nat.add_zero, Nat.add_sub_cancel, eq_self, ne_b, g0_0, g0_1, g0_2, g0_3, g0_4, g0_5, g0_6, g0_7, g0_8, g0_9, n1, n2, g3_2, g3_3, g3_4, g3_5, g3_6, g3_7, g3_8, g3_9, n4, n5, n6, n7, n8, n9, g10_2, g10_3, g10_4, g10_5, n11, n12, n13, n14, g15_2, g15_3, g15_4, g15_5, n16, n17, n18, n19, g40_0, g40_1, g40_2, g44_0, g44_2, g44_3, g44_5, g44_6, g44_10, g51_3, g51_4, g51_5, g51_6, g51_7, g57_3, g57_4, g57_5, g57_6, g57_7, n120, n121, g122_0, g122_4, g122_5, g122_6, g122_7, g122_8, g122_18, g122_19, g122_20, g122_21, g122_24, g122_25, g122_28, g122_29, g122_31, g122_32, g122_33, g122_39, g122_40, g122_41, g122_45, g122_46, g122_47, g122_48, n123, n124, n125, n126, n127, n128, n129, n130, n131, n132, n133, n134, n135, n136, n137, n138, n139, n140, n141, n142, n143, n144, n145, n146, n45, n46, n47, n48, n49, n50, decide_false, Bool.false_eq_true, n20, g21_0, g21_1, g21_2, g21_3, n23, g24_2, g24_3, g24_4, g24_5, n25, n26, n27, n28, n29, n30, g31_0, g31_1, g31_2, n33, g34_2, g34_3, g34_4, g34_5, n35, n36, n37, n38, n39, adC_o, adC_s, adC_L, adM_o, adM_s, adM_L, e0, e1, a1, q0, q1]
  · rw [hI_uI_o d1, hI_uI_o d4, a4 d d4, hI_uI_o d3, hI_uI_o d2]
  · rw [hI_uI_s (by decide), hI_uI_o (by decide)]; exact q0
  · rw [hI_uI_o (by decide), hI_uI_o (by decide), a4 26 (by decide), hI_uI_o (by decide)]
    by_cases x : j = k
    · rw [x, hI_uI_e, if_pos rfl]
    · rw [hI_uI_s x, if_neg x]
  · rw [hI_uI_o (by decide), hI_uI_o (by decide), a4 27 (by decide)]
    by_cases x : j = k
    · rw [x, hI_uI_e, if_pos rfl]
    · rw [hI_uI_s x, if_neg x, hI_uI_o (by decide)]
  · rw [hI_uI_o (by decide)]
    by_cases x : j = 4 * k + (c - 1)
    · rw [if_pos x, x, show 4 * k + (c - 1) = k * 4 + c - 1 by omega, hI_uI_e]
    · rw [if_neg x, hI_uI_s (by omega), a5 j, hI_uI_o (by decide), hI_uI_o (by decide)]
      by_cases y : 4 * k ≤ j ∧ j < 4 * k + 4
      · rw [if_pos y, if_pos (by omega)]
      · rw [if_neg y, if_neg (by omega)]
theorem c_mw {h : Hp} {B : Bk} {c w : Nat} (ok : BkOk B) (rc : RcB h 24 B) (hc : c < 4) (hw : w ≤ 4095) : F_X0_meanWith h 24 (nI c) (nI w) = some (oI (fst1 (isM B c w) (bM B) 0)) := by
  have hM := ok.2.1
  refine iterW_fst (fun j => nI j) (isM B c w) nI (-1) (bM B) 0 (fun j _ hj => ?_) ?_
  · show B_X0_meanWith_2 _ _ _ _ _ = _
    unfold B_X0_meanWith_2
    have h1 := (ok.2.2.2.2.1 j (by omega)).1
    have h2 := (ok.2.2.2.2.1 j (by omega)).2
    have hC := ok.1
    have z := rc.2.2.2 j (by omega)
    have z1 : hI h 26 j = nI (bMc B j) := z.1
    have z2 : hI h 27 j = nI (bMh B j) := z.2.1
    simp (disch := omega) only [↓m1_n, li_n, li_0, li_1, lt_y, lt_n, le_y, le_n, eq_n, nL, nLe, nEq, nEm, mEn, nLm, mLn, nLem, mLen, nI_add, nI_mul, nI_sub, nI_m, ib_nI, nx_nI, gd_y, bnd_e, bind_y, ↓reduceIte, hI_uI_o, hI_uI_s, hI_uI_e, hL_uI, hI_uL, hL_uL_o, hL_uL_s, hL_uL_e, and1_a, and1_b, Bool.not_true, Bool.not_false, Nat.zero_add, Nat.add_zero, Nat.add_sub_cancel, eq_self, ne_b, g0_0, g0_1, g0_2, g0_3, g0_4, g0_5, g0_6, g0_7, g0_8, g0_9, n1, n2, g3_2, g3_3, g3_4, g3_5, g3_6, g3_7, g3_8, g3_9, n4, n5, n6, n7, n8, n9, g10_2, g10_3, g10_4, g10_5, n11, n12, n13, n14, g15_2, g15_3, g15_4, g15_5, n16, n17, n18, n19, g40_0, g40_1, g40_2, g44_0, g44_2, g44_3, g44_5, g44_6, g44_10, g51_3, g51_4, g51_5, g51_6, g51_7, g57_3, g57_4, g57_5, g57_6, g57_7, n120, n121, g122_0, g122_4, g122_5, g122_6, g122_7, g122_8, g122_18, g122_19, g122_20, g122_21, g122_24, g122_25, g122_28, g122_29, g122_31, g122_32, g122_33, g122_39, g122_40, g122_41, g122_45, g122_46, g122_47, g122_48, n123, n124, n125, n126, n127, n128, n129, n130, n131, n132, n133, n134, n135, n136, n137, n138, n139, n140, n141, n142, n143, n144, n145, n146, n45, n46, n47, n48, n49, n50, decide_false, Bool.false_eq_true, n20, g21_0, g21_1, g21_2, g21_3, n23, g24_2, g24_3, g24_4, g24_5, n25, n26, n27, n28, n29, n30, g31_0, g31_1, g31_2, n33, g34_2, g34_3, g34_4, g34_5, n35, n36, n37, n38, n39, adC_o, adC_s, adC_L, adM_o, adM_s, adM_L, rc.2.1, z1, z2]
    by_cases e : bMc B j = c <;> by_cases e' : bMh B j = w <;> simp [isM, e, e']
  · show B_X0_meanWith_2 _ _ _ _ _ = _
    unfold B_X0_meanWith_2
    simp (disch := omega) only [↓m1_n, li_n, li_0, li_1, lt_y, lt_n, le_y, le_n, eq_n, nL, nLe, nEq, nEm, mEn, nLm, mLn, nLem, mLen, nI_add, nI_mul, nI_sub, nI_m, ib_nI, nx_nI, gd_y, bnd_e, bind_y, ↓reduceIte, hI_uI_o, hI_uI_s, hI_uI_e, hL_uI, hI_uL, hL_uL_o, hL_uL_s, hL_uL_e, and1_a, and1_b, Bool.not_true, Bool.not_false, Nat.zero_add, Nat.add_zero, Nat.add_sub_cancel, eq_self, ne_b, g0_0, g0_1, g0_2, g0_3, g0_4, g0_5, g0_6, g0_7, g0_8, g0_9, n1, n2, g3_2, g3_3, g3_4, g3_5, g3_6, g3_7, g3_8, g3_9, n4, n5, n6, n7, n8, n9, g10_2, g10_3, g10_4, g10_5, n11, n12, n13, n14, g15_2, g15_3, g15_4, g15_5, n16, n17, n18, n19, g40_0, g40_1, g40_2, g44_0, g44_2, g44_3, g44_5, g44_6, g44_10, g51_3, g51_4, g51_5, g51_6, g51_7, g57_3, g57_4, g57_5, g57_6, g57_7, n120, n121, g122_0, g122_4, g122_5, g122_6, g122_7, g122_8, g122_18, g122_19, g122_20, g122_21, g122_24, g122_25, g122_28, g122_29, g122_31, g122_32, g122_33, g122_39, g122_40, g122_41, g122_45, g122_46, g122_47, g122_48, n123, n124, n125, n126, n127, n128, n129, n130, n131, n132, n133, n134, n135, n136, n137, n138, n139, n140, n141, n142, n143, n144, n145, n146, n45, n46, n47, n48, n49, n50, decide_false, Bool.false_eq_true, n20, g21_0, g21_1, g21_2, g21_3, n23, g24_2, g24_3, g24_4, g24_5, n25, n26, n27, n28, n29, n30, g31_0, g31_1, g31_2, n33, g34_2, g34_3, g34_4, g34_5, n35, n36, n37, n38, n39, adC_o, adC_s, adC_L, adM_o, adM_s, adM_L, rc.2.1]
theorem jnF_no {B : Bk} {m c : Nat} : ∀ n k, (∀ j, k ≤ j → j < k + n → bJa B j ≠ m) → jnF B m c n k = mN := by
  intro n
  induction n with
  | zero => intro k _; rfl
  | succ n ih =>
    intro k h
    rw [jnF, if_neg (fun e => h k (Nat.le_refl _) (by omega) e.1), ih (k + 1) (fun j h1 h2 => h j (by omega) (by omega))]
def bkM (B : Bk) (w : Nat) : Bk := (bC B, bY B, bM B + 1, upN (bMc B) (bM B) (bC B - 1), upN (bMh B) (bM B) w, bJ B, bJa B, bJb B)
theorem mean_x {hc hm : Hp} {f : Nat → Nat} {n p : Nat} {B : Bk} {C M : Nat → Nat} (s : BS hc hm f n p B C M) (k1 : tK f n p = 1) : ∃ hc' hm' r, F_X1_readMean hc 21 = some hc' ∧ (F_X12_aMean hm 122).bind (fun r5 => J_X12_part_47 r5.1 122 r5.2) = some (hm', r) ∧ OutB hc hm f n p hc' hm' r := by
  obtain ⟨rd, f5, f6, rcB, j4, rm, g17, g16, rmB, ok, nC, nM⟩ := s
  have b := rd.rb f5
  have mb := rm.mb g17
  obtain ⟨o1, o2, o3, o4, o5, o6⟩ := id ok
  have A0 := rd.go.1
  have D0 := rm.go.1
  have c0 := rcB.1
  have c1 := rcB.2.1
  have m0 : hI hm 123 3202 = nI (bC B) := rmB.1
  have m1 : hI hm 123 3203 = nI (bM B) := rmB.2.1
  have q0 := tE_b (f := f) rd.2.1
  obtain ⟨p1, hp1⟩ : ∃ p1, p1 = tE f n p := ⟨_, rfl⟩
  have l0 : p < p1 := by
    have := (tK_1 rd.2.1 k1).1
    have := tS_b (f := f) rd.2.1
    omega
  rw [← hp1] at A0 D0 q0
  have q1 := tE_b (f := f) (p := p1) q0.2.1
  have s1 := tS_b (f := f) (p := p1) q0.2.1
  obtain ⟨p2, hp2⟩ : ∃ p2, p2 = tE f n p1 := ⟨_, rfl⟩
  rw [← hp2] at q1
  have q2 := tE_b (f := f) (p := p2) q1.2.1
  have s2 := tS_b (f := f) (p := p2) q1.2.1
  obtain ⟨p3, hp3⟩ : ∃ p3, p3 = tE f n p2 := ⟨_, rfl⟩
  rw [← hp3] at q2
  unfold F_X1_readMean F_X12_aMean J_X12_part_47
  by_cases z0 : bC B = 0
  · refine ⟨_, _, _, ?_, ?_, OutB.fault (k := 5) (s := tS f n p) FcB.rf FmB.rf (by decide) (by decide)⟩
    · simp (disch := omega) only [↓m1_n, li_n, li_0, li_1, lt_y, lt_n, le_y, le_n, eq_n, nL, nLe, nEq, nEm, mEn, nLm, mLn, nLem, mLen, nI_add, nI_mul, nI_sub, nI_m, ib_nI, nx_nI, gd_y, bnd_e, bind_y, ↓reduceIte, hI_uI_o, hI_uI_s, hI_uI_e, hL_uI, hI_uL, hL_uL_o, hL_uL_s, hL_uL_e, and1_a, and1_b, Bool.not_true, Bool.not_false, Nat.zero_add, Nat.add_zero, Nat.add_sub_cancel, eq_self, ne_b, g0_0, g0_1, g0_2, g0_3, g0_4, g0_5, g0_6, g0_7, g0_8, g0_9, n1, n2, g3_2, g3_3, g3_4, g3_5, g3_6, g3_7, g3_8, g3_9, n4, n5, n6, n7, n8, n9, g10_2, g10_3, g10_4, g10_5, n11, n12, n13, n14, g15_2, g15_3, g15_4, g15_5, n16, n17, n18, n19, g40_0, g40_1, g40_2, g44_0, g44_2, g44_3, g44_5, g44_6, g44_10, g51_3, g51_4, g51_5, g51_6, g51_7, g57_3, g57_4, g57_5, g57_6, g57_7, n120, n121, g122_0, g122_4, g122_5, g122_6, g122_7, g122_8, g122_18, g122_19, g122_20, g122_21, g122_24, g122_25, g122_28, g122_29, g122_31, g122_32, g122_33, g122_39, g122_40, g122_41, g122_45, g122_46, g122_47, g122_48, n123, n124, n125, n126, n127, n128, n129, n130, n131, n132, n133, n134, n135, n136, n137, n138, n139, n140, n141, n142, n143, n144, n145, n146, n45, n46, n47, n48, n49, n50, decide_false, Bool.false_eq_true, n20, g21_0, g21_1, g21_2, g21_3, n23, g24_2, g24_3, g24_4, g24_5, n25, n26, n27, n28, n29, n30, g31_0, g31_1, g31_2, n33, g34_2, g34_3, g34_4, g34_5, n35, n36, n37, n38, n39, adC_o, adC_s, adC_L, adM_o, adM_s, adM_L, c0, z0, c_tell (k := 5) rd f5]
    · simp (disch := omega) only [↓m1_n, li_n, li_0, li_1, lt_y, lt_n, le_y, le_n, eq_n, nL, nLe, nEq, nEm, mEn, nLm, mLn, nLem, mLen, nI_add, nI_mul, nI_sub, nI_m, ib_nI, nx_nI, gd_y, bnd_e, bind_y, ↓reduceIte, hI_uI_o, hI_uI_s, hI_uI_e, hL_uI, hI_uL, hL_uL_o, hL_uL_s, hL_uL_e, and1_a, and1_b, Bool.not_true, Bool.not_false, Nat.zero_add, Nat.add_zero, Nat.add_sub_cancel, eq_self, ne_b, g0_0, g0_1, g0_2, g0_3, g0_4, g0_5, g0_6, g0_7, g0_8, g0_9, n1, n2, g3_2, g3_3, g3_4, g3_5, g3_6, g3_7, g3_8, g3_9, n4, n5, n6, n7, n8, n9, g10_2, g10_3, g10_4, g10_5, n11, n12, n13, n14, g15_2, g15_3, g15_4, g15_5, n16, n17, n18, n19, g40_0, g40_1, g40_2, g44_0, g44_2, g44_3, g44_5, g44_6, g44_10, g51_3, g51_4, g51_5, g51_6, g51_7, g57_3, g57_4, g57_5, g57_6, g57_7, n120, n121, g122_0, g122_4, g122_5, g122_6, g122_7, g122_8, g122_18, g122_19, g122_20, g122_21, g122_24, g122_25, g122_28, g122_29, g122_31, g122_32, g122_33, g122_39, g122_40, g122_41, g122_45, g122_46, g122_47, g122_48, n123, n124, n125, n126, n127, n128, n129, n130, n131, n132, n133, n134, n135, n136, n137, n138, n139, n140, n141, n142, n143, n144, n145, n146, n45, n46, n47, n48, n49, n50, decide_false, Bool.false_eq_true, n20, g21_0, g21_1, g21_2, g21_3, n23, g24_2, g24_3, g24_4, g24_5, n25, n26, n27, n28, n29, n30, g31_0, g31_1, g31_2, n33, g34_2, g34_3, g34_4, g34_5, n35, n36, n37, n38, n39, adC_o, adC_s, adC_L, adM_o, adM_s, adM_L, m0, m1, z0, m_failK (k := 5) rm g17 (by omega)]
  by_cases c4 : bM B = 20
  · refine ⟨_, _, _, ?_, ?_, OutB.fault (k := 6) (s := tS f n p) FcB.rf FmB.rf (by decide) (by decide)⟩
    · simp (disch := omega) only [↓m1_n, li_n, li_0, li_1, lt_y, lt_n, le_y, le_n, eq_n, nL, nLe, nEq, nEm, mEn, nLm, mLn, nLem, mLen, nI_add, nI_mul, nI_sub, nI_m, ib_nI, nx_nI, gd_y, bnd_e, bind_y, ↓reduceIte, hI_uI_o, hI_uI_s, hI_uI_e, hL_uI, hI_uL, hL_uL_o, hL_uL_s, hL_uL_e, and1_a, and1_b, Bool.not_true, Bool.not_false, Nat.zero_add, Nat.add_zero, Nat.add_sub_cancel, eq_self, ne_b, g0_0, g0_1, g0_2, g0_3, g0_4, g0_5, g0_6, g0_7, g0_8, g0_9, n1, n2, g3_2, g3_3, g3_4, g3_5, g3_6, g3_7, g3_8, g3_9, n4, n5, n6, n7, n8, n9, g10_2, g10_3, g10_4, g10_5, n11, n12, n13, n14, g15_2, g15_3, g15_4, g15_5, n16, n17, n18, n19, g40_0, g40_1, g40_2, g44_0, g44_2, g44_3, g44_5, g44_6, g44_10, g51_3, g51_4, g51_5, g51_6, g51_7, g57_3, g57_4, g57_5, g57_6, g57_7, n120, n121, g122_0, g122_4, g122_5, g122_6, g122_7, g122_8, g122_18, g122_19, g122_20, g122_21, g122_24, g122_25, g122_28, g122_29, g122_31, g122_32, g122_33, g122_39, g122_40, g122_41, g122_45, g122_46, g122_47, g122_48, n123, n124, n125, n126, n127, n128, n129, n130, n131, n132, n133, n134, n135, n136, n137, n138, n139, n140, n141, n142, n143, n144, n145, n146, n45, n46, n47, n48, n49, n50, decide_false, Bool.false_eq_true, n20, g21_0, g21_1, g21_2, g21_3, n23, g24_2, g24_3, g24_4, g24_5, n25, n26, n27, n28, n29, n30, g31_0, g31_1, g31_2, n33, g34_2, g34_3, g34_4, g34_5, n35, n36, n37, n38, n39, adC_o, adC_s, adC_L, adM_o, adM_s, adM_L, c0, c1, z0, c4, c_tell (k := 6) rd f5]
    · simp (disch := omega) only [↓m1_n, li_n, li_0, li_1, lt_y, lt_n, le_y, le_n, eq_n, nL, nLe, nEq, nEm, mEn, nLm, mLn, nLem, mLen, nI_add, nI_mul, nI_sub, nI_m, ib_nI, nx_nI, gd_y, bnd_e, bind_y, ↓reduceIte, hI_uI_o, hI_uI_s, hI_uI_e, hL_uI, hI_uL, hL_uL_o, hL_uL_s, hL_uL_e, and1_a, and1_b, Bool.not_true, Bool.not_false, Nat.zero_add, Nat.add_zero, Nat.add_sub_cancel, eq_self, ne_b, g0_0, g0_1, g0_2, g0_3, g0_4, g0_5, g0_6, g0_7, g0_8, g0_9, n1, n2, g3_2, g3_3, g3_4, g3_5, g3_6, g3_7, g3_8, g3_9, n4, n5, n6, n7, n8, n9, g10_2, g10_3, g10_4, g10_5, n11, n12, n13, n14, g15_2, g15_3, g15_4, g15_5, n16, n17, n18, n19, g40_0, g40_1, g40_2, g44_0, g44_2, g44_3, g44_5, g44_6, g44_10, g51_3, g51_4, g51_5, g51_6, g51_7, g57_3, g57_4, g57_5, g57_6, g57_7, n120, n121, g122_0, g122_4, g122_5, g122_6, g122_7, g122_8, g122_18, g122_19, g122_20, g122_21, g122_24, g122_25, g122_28, g122_29, g122_31, g122_32, g122_33, g122_39, g122_40, g122_41, g122_45, g122_46, g122_47, g122_48, n123, n124, n125, n126, n127, n128, n129, n130, n131, n132, n133, n134, n135, n136, n137, n138, n139, n140, n141, n142, n143, n144, n145, n146, n45, n46, n47, n48, n49, n50, decide_false, Bool.false_eq_true, n20, g21_0, g21_1, g21_2, g21_3, n23, g24_2, g24_3, g24_4, g24_5, n25, n26, n27, n28, n29, n30, g31_0, g31_1, g31_2, n33, g34_2, g34_3, g34_4, g34_5, n35, n36, n37, n38, n39, adC_o, adC_s, adC_L, adM_o, adM_s, adM_L, m0, m1, z0, c4, m_failK (k := 6) rm g17 (by omega)]
  have r1 := b.rd (q := p1) q0.2.1
  have t1 := mb.rd (q := p1) q0.2.1
  cases ok1 : okN f n p1 with
  | false =>
    refine ⟨_, _, _, ?_, ?_, OutB.fault (k := misK f n p1) (s := tS f n p1) (FcB.ad (h := hc) (c := 22) (f := f) (n := n) (p := p1) (by decide)) (FmB.ad (h := hm) (f := f) (n := n) (p := p1)) mis_b.1 mis_b.2⟩
    · simp (disch := omega) only [↓m1_n, li_n, li_0, li_1, lt_y, lt_n, le_y, le_n, eq_n, nL, nLe, nEq, nEm, mEn, nLm, mLn, nLem, mLen, nI_add, nI_mul, nI_sub, nI_m, ib_nI, nx_nI, gd_y, bnd_e, bind_y, ↓reduceIte, hI_uI_o, hI_uI_s, hI_uI_e, hL_uI, hI_uL, hL_uL_o, hL_uL_s, hL_uL_e, and1_a, and1_b, Bool.not_true, Bool.not_false, Nat.zero_add, Nat.add_zero, Nat.add_sub_cancel, eq_self, ne_b, g0_0, g0_1, g0_2, g0_3, g0_4, g0_5, g0_6, g0_7, g0_8, g0_9, n1, n2, g3_2, g3_3, g3_4, g3_5, g3_6, g3_7, g3_8, g3_9, n4, n5, n6, n7, n8, n9, g10_2, g10_3, g10_4, g10_5, n11, n12, n13, n14, g15_2, g15_3, g15_4, g15_5, n16, n17, n18, n19, g40_0, g40_1, g40_2, g44_0, g44_2, g44_3, g44_5, g44_6, g44_10, g51_3, g51_4, g51_5, g51_6, g51_7, g57_3, g57_4, g57_5, g57_6, g57_7, n120, n121, g122_0, g122_4, g122_5, g122_6, g122_7, g122_8, g122_18, g122_19, g122_20, g122_21, g122_24, g122_25, g122_28, g122_29, g122_31, g122_32, g122_33, g122_39, g122_40, g122_41, g122_45, g122_46, g122_47, g122_48, n123, n124, n125, n126, n127, n128, n129, n130, n131, n132, n133, n134, n135, n136, n137, n138, n139, n140, n141, n142, n143, n144, n145, n146, n45, n46, n47, n48, n49, n50, decide_false, Bool.false_eq_true, n20, g21_0, g21_1, g21_2, g21_3, n23, g24_2, g24_3, g24_4, g24_5, n25, n26, n27, n28, n29, n30, g31_0, g31_1, g31_2, n33, g34_2, g34_3, g34_4, g34_5, n35, n36, n37, n38, n39, adC_o, adC_s, adC_L, adM_o, adM_s, adM_L, c0, c1, z0, A0, c_name r1 b.e5, ok1]
    · simp (disch := omega) only [↓m1_n, li_n, li_0, li_1, lt_y, lt_n, le_y, le_n, eq_n, nL, nLe, nEq, nEm, mEn, nLm, mLn, nLem, mLen, nI_add, nI_mul, nI_sub, nI_m, ib_nI, nx_nI, gd_y, bnd_e, bind_y, ↓reduceIte, hI_uI_o, hI_uI_s, hI_uI_e, hL_uI, hI_uL, hL_uL_o, hL_uL_s, hL_uL_e, and1_a, and1_b, Bool.not_true, Bool.not_false, Nat.zero_add, Nat.add_zero, Nat.add_sub_cancel, eq_self, ne_b, g0_0, g0_1, g0_2, g0_3, g0_4, g0_5, g0_6, g0_7, g0_8, g0_9, n1, n2, g3_2, g3_3, g3_4, g3_5, g3_6, g3_7, g3_8, g3_9, n4, n5, n6, n7, n8, n9, g10_2, g10_3, g10_4, g10_5, n11, n12, n13, n14, g15_2, g15_3, g15_4, g15_5, n16, n17, n18, n19, g40_0, g40_1, g40_2, g44_0, g44_2, g44_3, g44_5, g44_6, g44_10, g51_3, g51_4, g51_5, g51_6, g51_7, g57_3, g57_4, g57_5, g57_6, g57_7, n120, n121, g122_0, g122_4, g122_5, g122_6, g122_7, g122_8, g122_18, g122_19, g122_20, g122_21, g122_24, g122_25, g122_28, g122_29, g122_31, g122_32, g122_33, g122_39, g122_40, g122_41, g122_45, g122_46, g122_47, g122_48, n123, n124, n125, n126, n127, n128, n129, n130, n131, n132, n133, n134, n135, n136, n137, n138, n139, n140, n141, n142, n143, n144, n145, n146, n45, n46, n47, n48, n49, n50, decide_false, Bool.false_eq_true, n20, g21_0, g21_1, g21_2, g21_3, n23, g24_2, g24_3, g24_4, g24_5, n25, n26, n27, n28, n29, n30, g31_0, g31_1, g31_2, n33, g34_2, g34_3, g34_4, g34_5, n35, n36, n37, n38, n39, adC_o, adC_s, adC_L, adM_o, adM_s, adM_L, m0, m1, z0, c4, D0, m_name t1, ok1, m_fail2 t1 mb.e7]
  | true =>
  obtain ⟨k11, l1⟩ := okN_k ok1
  have H1 : F_X7_nameHere (adC hc 22 f n p1) 22 = some (lN (nmC f n p1)) := c_nameH r1 k11 l1
  have G1 : F_X12_nameHere (adM hm f n p1) 122 = some (lN (nmM f n p1)) := m_nameH t1 k11 l1
  have X1 : F_X1_find (adC hc 22 f n p1) 30 (nI (bM B)) (lN (nmC f n p1)) = some (oI (fnd f n M (bM B) p1)) := fnd_c (hc := adC hc 22 f n p1) (hm := hm) (xm := 130) nM (by decide +kernel) (by rw [n30]; exact o2) q0.2.1 ok1
  have Y1 : F_X12_find (adM hm f n p1) 130 (nI (bM B)) (lN (nmM f n p1)) = some (oI (fnd f n M (bM B) p1)) := fnd_m (hc := hc) (hm := adM hm f n p1) (xc := 30) nM (by decide +kernel) (by rw [n130]; exact o2) q0.2.1 ok1
  cases ef : fnd f n M (bM B) p1 with
  | some j =>
    have hj := fst1_lt _ _ _ ef
    rw [ef, oI_some] at X1 Y1
    refine ⟨_, _, _, ?_, ?_, OutB.fault (k := 3) (s := tS f n p1) (FcB.ad (h := hc) (c := 22) (f := f) (n := n) (p := p1) (by decide)) (FmB.ad (h := hm) (f := f) (n := n) (p := p1)) (by decide) (by decide)⟩
    · simp (disch := omega) only [↓m1_n, li_n, li_0, li_1, lt_y, lt_n, le_y, le_n, eq_n, nL, nLe, nEq, nEm, mEn, nLm, mLn, nLem, mLen, nI_add, nI_mul, nI_sub, nI_m, ib_nI, nx_nI, gd_y, bnd_e, bind_y, ↓reduceIte, hI_uI_o, hI_uI_s, hI_uI_e, hL_uI, hI_uL, hL_uL_o, hL_uL_s, hL_uL_e, and1_a, and1_b, Bool.not_true, Bool.not_false, Nat.zero_add, Nat.add_zero, Nat.add_sub_cancel, eq_self, ne_b, g0_0, g0_1, g0_2, g0_3, g0_4, g0_5, g0_6, g0_7, g0_8, g0_9, n1, n2, g3_2, g3_3, g3_4, g3_5, g3_6, g3_7, g3_8, g3_9, n4, n5, n6, n7, n8, n9, g10_2, g10_3, g10_4, g10_5, n11, n12, n13, n14, g15_2, g15_3, g15_4, g15_5, n16, n17, n18, n19, g40_0, g40_1, g40_2, g44_0, g44_2, g44_3, g44_5, g44_6, g44_10, g51_3, g51_4, g51_5, g51_6, g51_7, g57_3, g57_4, g57_5, g57_6, g57_7, n120, n121, g122_0, g122_4, g122_5, g122_6, g122_7, g122_8, g122_18, g122_19, g122_20, g122_21, g122_24, g122_25, g122_28, g122_29, g122_31, g122_32, g122_33, g122_39, g122_40, g122_41, g122_45, g122_46, g122_47, g122_48, n123, n124, n125, n126, n127, n128, n129, n130, n131, n132, n133, n134, n135, n136, n137, n138, n139, n140, n141, n142, n143, n144, n145, n146, n45, n46, n47, n48, n49, n50, decide_false, Bool.false_eq_true, n20, g21_0, g21_1, g21_2, g21_3, n23, g24_2, g24_3, g24_4, g24_5, n25, n26, n27, n28, n29, n30, g31_0, g31_1, g31_2, n33, g34_2, g34_3, g34_4, g34_5, n35, n36, n37, n38, n39, adC_o, adC_s, adC_L, adM_o, adM_s, adM_L, c0, c1, z0, A0, c_name r1 b.e5, ok1, H1, X1, c_tell (k := 3) r1 b.e5]
    · simp (disch := omega) only [↓m1_n, li_n, li_0, li_1, lt_y, lt_n, le_y, le_n, eq_n, nL, nLe, nEq, nEm, mEn, nLm, mLn, nLem, mLen, nI_add, nI_mul, nI_sub, nI_m, ib_nI, nx_nI, gd_y, bnd_e, bind_y, ↓reduceIte, hI_uI_o, hI_uI_s, hI_uI_e, hL_uI, hI_uL, hL_uL_o, hL_uL_s, hL_uL_e, and1_a, and1_b, Bool.not_true, Bool.not_false, Nat.zero_add, Nat.add_zero, Nat.add_sub_cancel, eq_self, ne_b, g0_0, g0_1, g0_2, g0_3, g0_4, g0_5, g0_6, g0_7, g0_8, g0_9, n1, n2, g3_2, g3_3, g3_4, g3_5, g3_6, g3_7, g3_8, g3_9, n4, n5, n6, n7, n8, n9, g10_2, g10_3, g10_4, g10_5, n11, n12, n13, n14, g15_2, g15_3, g15_4, g15_5, n16, n17, n18, n19, g40_0, g40_1, g40_2, g44_0, g44_2, g44_3, g44_5, g44_6, g44_10, g51_3, g51_4, g51_5, g51_6, g51_7, g57_3, g57_4, g57_5, g57_6, g57_7, n120, n121, g122_0, g122_4, g122_5, g122_6, g122_7, g122_8, g122_18, g122_19, g122_20, g122_21, g122_24, g122_25, g122_28, g122_29, g122_31, g122_32, g122_33, g122_39, g122_40, g122_41, g122_45, g122_46, g122_47, g122_48, n123, n124, n125, n126, n127, n128, n129, n130, n131, n132, n133, n134, n135, n136, n137, n138, n139, n140, n141, n142, n143, n144, n145, n146, n45, n46, n47, n48, n49, n50, decide_false, Bool.false_eq_true, n20, g21_0, g21_1, g21_2, g21_3, n23, g24_2, g24_3, g24_4, g24_5, n25, n26, n27, n28, n29, n30, g31_0, g31_1, g31_2, n33, g34_2, g34_3, g34_4, g34_5, n35, n36, n37, n38, n39, adC_o, adC_s, adC_L, adM_o, adM_s, adM_L, m0, m1, z0, c4, D0, m_name t1, ok1, G1, Y1, m_failK (k := 3) t1 mb.e7 (by omega)]
  | none =>
  rw [ef, oI_none] at X1 Y1
  have A1 : F_X7_advance (adC hc 22 f n p1) 22 = some (adC hc 22 f n p2) := by rw [hp2]; exact b.go q0.2.1
  have r2 := b.rd (q := p2) q1.2.1
  have mb2 : Mb (uL hm 130 (bM B) (lN (nmM f n p1))) f n := mb.uL
  have D1 : F_X12_ahead (uL (adM hm f n p1) 130 (bM B) (lN (nmM f n p1))) 122 = some (adM (uL hm 130 (bM B) (lN (nmM f n p1))) f n p2) := by rw [uL_adM, hp2]; exact mb2.go q0.2.1
  have t2 := mb2.rd (q := p2) q1.2.1
  have F1 : FmB hm (uL hm 130 (bM B) (lN (nmM f n p1))) := FmB.l (by decide)
  cases w2 : wdB f n p2 3 with
  | false =>
    have nb : ¬ bkW f n p2 = nI 4 := fun e => by rw [bk_i.2.2.2.2.mp e] at w2; exact absurd w2 (by decide)
    refine ⟨_, _, _, ?_, ?_, OutB.fault (k := misK f n p2) (s := tS f n p2) (FcB.ad (h := hc) (c := 22) (f := f) (n := n) (p := p2) (by decide)) (F1.trans (FmB.ad (f := f) (n := n) (p := p2))) mis_b.1 mis_b.2⟩
    · simp (disch := omega) only [↓m1_n, li_n, li_0, li_1, lt_y, lt_n, le_y, le_n, eq_n, nL, nLe, nEq, nEm, mEn, nLm, mLn, nLem, mLen, nI_add, nI_mul, nI_sub, nI_m, ib_nI, nx_nI, gd_y, bnd_e, bind_y, ↓reduceIte, hI_uI_o, hI_uI_s, hI_uI_e, hL_uI, hI_uL, hL_uL_o, hL_uL_s, hL_uL_e, and1_a, and1_b, Bool.not_true, Bool.not_false, Nat.zero_add, Nat.add_zero, Nat.add_sub_cancel, eq_self, ne_b, g0_0, g0_1, g0_2, g0_3, g0_4, g0_5, g0_6, g0_7, g0_8, g0_9, n1, n2, g3_2, g3_3, g3_4, g3_5, g3_6, g3_7, g3_8, g3_9, n4, n5, n6, n7, n8, n9, g10_2, g10_3, g10_4, g10_5, n11, n12, n13, n14, g15_2, g15_3, g15_4, g15_5, n16, n17, n18, n19, g40_0, g40_1, g40_2, g44_0, g44_2, g44_3, g44_5, g44_6, g44_10, g51_3, g51_4, g51_5, g51_6, g51_7, g57_3, g57_4, g57_5, g57_6, g57_7, n120, n121, g122_0, g122_4, g122_5, g122_6, g122_7, g122_8, g122_18, g122_19, g122_20, g122_21, g122_24, g122_25, g122_28, g122_29, g122_31, g122_32, g122_33, g122_39, g122_40, g122_41, g122_45, g122_46, g122_47, g122_48, n123, n124, n125, n126, n127, n128, n129, n130, n131, n132, n133, n134, n135, n136, n137, n138, n139, n140, n141, n142, n143, n144, n145, n146, n45, n46, n47, n48, n49, n50, decide_false, Bool.false_eq_true, n20, g21_0, g21_1, g21_2, g21_3, n23, g24_2, g24_3, g24_4, g24_5, n25, n26, n27, n28, n29, n30, g31_0, g31_1, g31_2, n33, g34_2, g34_3, g34_4, g34_5, n35, n36, n37, n38, n39, adC_o, adC_s, adC_L, adM_o, adM_s, adM_L, c0, c1, z0, A0, c_name r1 b.e5, ok1, H1, X1, A1, c_word (w := 3) r2 b.e5 (by decide), w2]
    · simp (disch := omega) only [↓m1_n, li_n, li_0, li_1, lt_y, lt_n, le_y, le_n, eq_n, nL, nLe, nEq, nEm, mEn, nLm, mLn, nLem, mLen, nI_add, nI_mul, nI_sub, nI_m, ib_nI, nx_nI, gd_y, bnd_e, bind_y, ↓reduceIte, hI_uI_o, hI_uI_s, hI_uI_e, hL_uI, hI_uL, hL_uL_o, hL_uL_s, hL_uL_e, and1_a, and1_b, Bool.not_true, Bool.not_false, Nat.zero_add, Nat.add_zero, Nat.add_sub_cancel, eq_self, ne_b, g0_0, g0_1, g0_2, g0_3, g0_4, g0_5, g0_6, g0_7, g0_8, g0_9, n1, n2, g3_2, g3_3, g3_4, g3_5, g3_6, g3_7, g3_8, g3_9, n4, n5, n6, n7, n8, n9, g10_2, g10_3, g10_4, g10_5, n11, n12, n13, n14, g15_2, g15_3, g15_4, g15_5, n16, n17, n18, n19, g40_0, g40_1, g40_2, g44_0, g44_2, g44_3, g44_5, g44_6, g44_10, g51_3, g51_4, g51_5, g51_6, g51_7, g57_3, g57_4, g57_5, g57_6, g57_7, n120, n121, g122_0, g122_4, g122_5, g122_6, g122_7, g122_8, g122_18, g122_19, g122_20, g122_21, g122_24, g122_25, g122_28, g122_29, g122_31, g122_32, g122_33, g122_39, g122_40, g122_41, g122_45, g122_46, g122_47, g122_48, n123, n124, n125, n126, n127, n128, n129, n130, n131, n132, n133, n134, n135, n136, n137, n138, n139, n140, n141, n142, n143, n144, n145, n146, n45, n46, n47, n48, n49, n50, decide_false, Bool.false_eq_true, n20, g21_0, g21_1, g21_2, g21_3, n23, g24_2, g24_3, g24_4, g24_5, n25, n26, n27, n28, n29, n30, g31_0, g31_1, g31_2, n33, g34_2, g34_3, g34_4, g34_5, n35, n36, n37, n38, n39, adC_o, adC_s, adC_L, adM_o, adM_s, adM_L, m0, m1, z0, c4, D0, m_name t1, ok1, G1, Y1, D1, m_bkW t2, nb, m_fail2 t2 mb2.e7]
  | true =>
  have yb : bkW f n p2 = nI 4 := bk_i.2.2.2.2.mpr w2
  have W2 : F_X7_takeWord (adC hc 22 f n p2) 22 3 = some (adC hc 22 f n p3, nI 1) := by
    rw [c_word r2 b.e5 (by decide), w2, if_pos rfl, adC_ad, hp3]
  have r3 := b.rd (q := p3) q2.2.1
  have D2 : F_X12_ahead (adM (uL hm 130 (bM B) (lN (nmM f n p1))) f n p2) 122 = some (adM (uL hm 130 (bM B) (lN (nmM f n p1))) f n p3) := by rw [hp3]; exact mb2.go q1.2.1
  obtain ⟨hb, hhb⟩ : ∃ hb, hb = uI (uL hm 130 (bM B) (lN (nmM f n p1))) 123 (3572 + 2 * bM B) (nI (bC B - 1)) := ⟨_, rfl⟩
  have mb3 : Mb hb f n := by rw [hhb]; exact mb2.uI (by decide) (by decide)
  have F2 : FmB hm hb := by rw [hhb]; exact F1.trans (FmB.u (by omega))
  have HB : uI (uI (adM (uL hm 130 (bM B) (lN (nmM f n p1))) f n p3) 123 (3572 + 2 * bM B) (nI (bC B - 1))) 123 (3572 + 2 * bM B + 1) (nI 0) = adM (uI hb 123 (3572 + 2 * bM B + 1) (nI 0)) f n p3 := by rw [uI_adM (by decide), uI_adM (by decide), hhb]
  have mb4 : ∀ v, Mb (uI hb 123 (3572 + 2 * bM B + 1) v) f n := fun v => mb3.uI (by decide) (by decide)
  have F3 : ∀ v, FmB hm (uI hb 123 (3572 + 2 * bM B + 1) v) := fun v => F2.trans (FmB.u (by omega))
  have kl3 := tK_le (f := f) (n := n) (p := p3)
  have mk3 := mk_1 kl3
  have t3 := (mb4 (nI 0)).rd (q := p3) q2.2.1
  have t3u := mb2.rd (q := p3) q2.2.1
  by_cases k32 : tK f n p3 = 2
  · obtain ⟨q', v', y1, y2, y3, y4⟩ := hol_x (x1 := nI (bM B)) (m := 3572 + 2 * bM B) b mb3 (by omega) n p3 0 (by omega) q2.2.1 (by decide) (Or.inr k32)
    rw [show ppN 0 = 0 from by decide +kernel] at y4
    have k33 := mk3.2.1.mpr k32
    have e11 := t3u.2.2.1
    rw [k33] at e11
    rcases y4 with ⟨h4, g4⟩ | ⟨nk, h4, g4⟩
    · refine ⟨_, _, _, ?_, ?_, OutB.fault (k := 4) (s := tS f n q') (FcB.ad (h := hc) (c := 22) (f := f) (n := n) (p := q') (by decide)) ((F3 (nI v')).trans (FmB.ad (f := f) (n := n) (p := q'))) (by decide) (by decide)⟩
      · unfold F_X1_readHoles
        simp (disch := omega) only [↓m1_n, li_n, li_0, li_1, lt_y, lt_n, le_y, le_n, eq_n, nL, nLe, nEq, nEm, mEn, nLm, mLn, nLem, mLen, nI_add, nI_mul, nI_sub, nI_m, ib_nI, nx_nI, gd_y, bnd_e, bind_y, ↓reduceIte, hI_uI_o, hI_uI_s, hI_uI_e, hL_uI, hI_uL, hL_uL_o, hL_uL_s, hL_uL_e, and1_a, and1_b, Bool.not_true, Bool.not_false, Nat.zero_add, Nat.add_zero, Nat.add_sub_cancel, eq_self, ne_b, g0_0, g0_1, g0_2, g0_3, g0_4, g0_5, g0_6, g0_7, g0_8, g0_9, n1, n2, g3_2, g3_3, g3_4, g3_5, g3_6, g3_7, g3_8, g3_9, n4, n5, n6, n7, n8, n9, g10_2, g10_3, g10_4, g10_5, n11, n12, n13, n14, g15_2, g15_3, g15_4, g15_5, n16, n17, n18, n19, g40_0, g40_1, g40_2, g44_0, g44_2, g44_3, g44_5, g44_6, g44_10, g51_3, g51_4, g51_5, g51_6, g51_7, g57_3, g57_4, g57_5, g57_6, g57_7, n120, n121, g122_0, g122_4, g122_5, g122_6, g122_7, g122_8, g122_18, g122_19, g122_20, g122_21, g122_24, g122_25, g122_28, g122_29, g122_31, g122_32, g122_33, g122_39, g122_40, g122_41, g122_45, g122_46, g122_47, g122_48, n123, n124, n125, n126, n127, n128, n129, n130, n131, n132, n133, n134, n135, n136, n137, n138, n139, n140, n141, n142, n143, n144, n145, n146, n45, n46, n47, n48, n49, n50, decide_false, Bool.false_eq_true, n20, g21_0, g21_1, g21_2, g21_3, n23, g24_2, g24_3, g24_4, g24_5, n25, n26, n27, n28, n29, n30, g31_0, g31_1, g31_2, n33, g34_2, g34_3, g34_4, g34_5, n35, n36, n37, n38, n39, adC_o, adC_s, adC_L, adM_o, adM_s, adM_L, c0, c1, z0, A0, c_name r1 b.e5, ok1, H1, X1, A1, W2, h4]
      · simp (disch := omega) only [↓m1_n, li_n, li_0, li_1, lt_y, lt_n, le_y, le_n, eq_n, nL, nLe, nEq, nEm, mEn, nLm, mLn, nLem, mLen, nI_add, nI_mul, nI_sub, nI_m, ib_nI, nx_nI, gd_y, bnd_e, bind_y, ↓reduceIte, hI_uI_o, hI_uI_s, hI_uI_e, hL_uI, hI_uL, hL_uL_o, hL_uL_s, hL_uL_e, and1_a, and1_b, Bool.not_true, Bool.not_false, Nat.zero_add, Nat.add_zero, Nat.add_sub_cancel, eq_self, ne_b, g0_0, g0_1, g0_2, g0_3, g0_4, g0_5, g0_6, g0_7, g0_8, g0_9, n1, n2, g3_2, g3_3, g3_4, g3_5, g3_6, g3_7, g3_8, g3_9, n4, n5, n6, n7, n8, n9, g10_2, g10_3, g10_4, g10_5, n11, n12, n13, n14, g15_2, g15_3, g15_4, g15_5, n16, n17, n18, n19, g40_0, g40_1, g40_2, g44_0, g44_2, g44_3, g44_5, g44_6, g44_10, g51_3, g51_4, g51_5, g51_6, g51_7, g57_3, g57_4, g57_5, g57_6, g57_7, n120, n121, g122_0, g122_4, g122_5, g122_6, g122_7, g122_8, g122_18, g122_19, g122_20, g122_21, g122_24, g122_25, g122_28, g122_29, g122_31, g122_32, g122_33, g122_39, g122_40, g122_41, g122_45, g122_46, g122_47, g122_48, n123, n124, n125, n126, n127, n128, n129, n130, n131, n132, n133, n134, n135, n136, n137, n138, n139, n140, n141, n142, n143, n144, n145, n146, n45, n46, n47, n48, n49, n50, decide_false, Bool.false_eq_true, n20, g21_0, g21_1, g21_2, g21_3, n23, g24_2, g24_3, g24_4, g24_5, n25, n26, n27, n28, n29, n30, g31_0, g31_1, g31_2, n33, g34_2, g34_3, g34_4, g34_5, n35, n36, n37, n38, n39, adC_o, adC_s, adC_L, adM_o, adM_s, adM_L, m0, m1, z0, c4, D0, m_name t1, ok1, G1, Y1, D1, m_bkW t2, yb, D2, HB, e11, g4, Sum.elim_inr]
    · have r4 := b.rd (q := q') y2
      have t4 := (mb4 (nI v')).rd (q := q') y2
      have kl4 := tK_le (f := f) (n := n) (p := q')
      have mk4 := mk_1 kl4
      have eA : ∀ k, k < bM B → hI (adM (uI hb 123 (3572 + 2 * bM B + 1) (nI v')) f n q') 123 (3572 + 2 * k) = nI (bMc B k) ∧ hI (adM (uI hb 123 (3572 + 2 * bM B + 1) (nI v')) f n q') 123 (3572 + 2 * k + 1) = nI (bMh B k) := by
        intro k hk
        have z := rmB.2.2.2.2.1 k hk
        rw [show 3200 + 372 + 2 * k = 3572 + 2 * k by omega, show 3200 + 373 + 2 * k = 3572 + 2 * k + 1 by omega] at z
        rw [adM_o (by decide), hI_uI_s (by omega), hI_uI_s (by omega), hhb, hI_uI_s (by omega), hI_uI_s (by omega), hI_uL]
        exact z
      have eB : hI (adM (uI hb 123 (3572 + 2 * bM B + 1) (nI v')) f n q') 123 (3572 + 2 * bM B) = nI (bC B - 1) := by
        rw [adM_o (by decide), hI_uI_s (by omega), hhb, hI_uI_e]
      have eC : hI (adM (uI hb 123 (3572 + 2 * bM B + 1) (nI v')) f n q') 123 (3572 + 2 * bM B + 1) = nI v' := by rw [adM_o (by decide), hI_uI_e]
      have eD : hI (adM (uI hb 123 (3572 + 2 * bM B + 1) (nI v')) f n q') 123 3203 = nI (bM B) := by
        rw [adM_o (by decide), hI_uI_s (by omega), hhb, hI_uI_s (by omega), hI_uL]; exact m1
      obtain ⟨hz, hhz⟩ : ∃ hz, hz = uI (uI hb 123 (3572 + 2 * bM B + 1) (nI v')) 123 3203 (nI (bM B + 1)) := ⟨_, rfl⟩
      have mb5 : Mb hz f n := by rw [hhz]; exact (mb4 (nI v')).uI (by decide) (by decide)
      have F4 : FmB hm hz := by rw [hhz]; exact (F3 (nI v')).trans (FmB.u (by decide))
      have HZ : uI (adM (uI hb 123 (3572 + 2 * bM B + 1) (nI v')) f n q') 123 3203 (nI (bM B + 1)) = adM hz f n q' := by rw [uI_adM (by decide), hhz]
      have t5 := mb5.rd (q := q') y2
      by_cases k43 : tK f n q' = 3
      · have k44 := mk4.2.2.1.mpr k43
        have e11' := t4.2.2.1
        rw [k44] at e11'
        have rc4 : RcB (adC hc 22 f n q') 24 B := by
          unfold RcB
          rw [adC_o (show 24 ≠ 22 by decide), adC_o (show 24 + 1 ≠ 22 by decide), adC_o (show 24 + 2 ≠ 22 by decide), adC_o (show 24 + 3 ≠ 22 by decide), adC_o (show 24 + 4 ≠ 22 by decide)]
          exact rcB
        have MW := c_mw (h := adC hc 22 f n q') (c := bC B - 1) (w := v') ok rc4 (by omega) (by omega)
        have M7 := m_failK (k := 7) t4 (mb4 (nI v')).e7 (by omega)
        have L2 : L_X12_aMean_252 (adM (uI hb 123 (3572 + 2 * bM B + 1) (nI v')) f n q') 122 (nI (bM B)) (nI (3572 + 2 * bM B)) (nI 0) = some ((fst1 (isM B (bC B - 1) v') (bM B) 0).elim (adM hz f n q', nI 1) (fun _ => (flM (adM (uI hb 123 (3572 + 2 * bM B + 1) (nI v')) f n q') 7 (tS f n q'), nI 0))) := by
          refine iterW_fst (fun j => nI j) _ (fun _ => (flM (adM (uI hb 123 (3572 + 2 * bM B + 1) (nI v')) f n q') 7 (tS f n q'), nI 0)) (adM hz f n q', nI 1) (bM B) 0 (fun j _ hj => ?_) ?_
          · show B_X12_aMean_252 _ _ _ _ _ = _
            unfold B_X12_aMean_252
            have z := eA j (by omega)
            have o := o5 j (by omega)
            have o' := o.1
            have o'' := o.2
            simp (disch := omega) only [↓m1_n, li_n, li_0, li_1, lt_y, lt_n, le_y, le_n, eq_n, nL, nLe, nEq, nEm, mEn, nLm, mLn, nLem, mLen, nI_add, nI_mul, nI_sub, nI_m, ib_nI, nx_nI, gd_y, bnd_e, bind_y, ↓reduceIte, hI_uI_o, hI_uI_s, hI_uI_e, hL_uI, hI_uL, hL_uL_o, hL_uL_s, hL_uL_e, and1_a, and1_b, Bool.not_true, Bool.not_false, Nat.zero_add, Nat.add_zero, Nat.add_sub_cancel, eq_self, ne_b, g0_0, g0_1, g0_2, g0_3, g0_4, g0_5, g0_6, g0_7, g0_8, g0_9, n1, n2, g3_2, g3_3, g3_4, g3_5, g3_6, g3_7, g3_8, g3_9, n4, n5, n6, n7, n8, n9, g10_2, g10_3, g10_4, g10_5, n11, n12, n13, n14, g15_2, g15_3, g15_4, g15_5, n16, n17, n18, n19, g40_0, g40_1, g40_2, g44_0, g44_2, g44_3, g44_5, g44_6, g44_10, g51_3, g51_4, g51_5, g51_6, g51_7, g57_3, g57_4, g57_5, g57_6, g57_7, n120, n121, g122_0, g122_4, g122_5, g122_6, g122_7, g122_8, g122_18, g122_19, g122_20, g122_21, g122_24, g122_25, g122_28, g122_29, g122_31, g122_32, g122_33, g122_39, g122_40, g122_41, g122_45, g122_46, g122_47, g122_48, n123, n124, n125, n126, n127, n128, n129, n130, n131, n132, n133, n134, n135, n136, n137, n138, n139, n140, n141, n142, n143, n144, n145, n146, n45, n46, n47, n48, n49, n50, decide_false, Bool.false_eq_true, n20, g21_0, g21_1, g21_2, g21_3, n23, g24_2, g24_3, g24_4, g24_5, n25, n26, n27, n28, n29, n30, g31_0, g31_1, g31_2, n33, g34_2, g34_3, g34_4, g34_5, n35, n36, n37, n38, n39, adC_o, adC_s, adC_L, adM_o, adM_s, adM_L, e11', z.1, z.2, eB, eC, M7]
            by_cases x : bMc B j = bC B - 1 <;> by_cases y : bMh B j = v' <;> simp [isM, x, y]
          · show B_X12_aMean_252 _ _ _ _ _ = _
            unfold B_X12_aMean_252
            simp (disch := omega) only [↓m1_n, li_n, li_0, li_1, lt_y, lt_n, le_y, le_n, eq_n, nL, nLe, nEq, nEm, mEn, nLm, mLn, nLem, mLen, nI_add, nI_mul, nI_sub, nI_m, ib_nI, nx_nI, gd_y, bnd_e, bind_y, ↓reduceIte, hI_uI_o, hI_uI_s, hI_uI_e, hL_uI, hI_uL, hL_uL_o, hL_uL_s, hL_uL_e, and1_a, and1_b, Bool.not_true, Bool.not_false, Nat.zero_add, Nat.add_zero, Nat.add_sub_cancel, eq_self, ne_b, g0_0, g0_1, g0_2, g0_3, g0_4, g0_5, g0_6, g0_7, g0_8, g0_9, n1, n2, g3_2, g3_3, g3_4, g3_5, g3_6, g3_7, g3_8, g3_9, n4, n5, n6, n7, n8, n9, g10_2, g10_3, g10_4, g10_5, n11, n12, n13, n14, g15_2, g15_3, g15_4, g15_5, n16, n17, n18, n19, g40_0, g40_1, g40_2, g44_0, g44_2, g44_3, g44_5, g44_6, g44_10, g51_3, g51_4, g51_5, g51_6, g51_7, g57_3, g57_4, g57_5, g57_6, g57_7, n120, n121, g122_0, g122_4, g122_5, g122_6, g122_7, g122_8, g122_18, g122_19, g122_20, g122_21, g122_24, g122_25, g122_28, g122_29, g122_31, g122_32, g122_33, g122_39, g122_40, g122_41, g122_45, g122_46, g122_47, g122_48, n123, n124, n125, n126, n127, n128, n129, n130, n131, n132, n133, n134, n135, n136, n137, n138, n139, n140, n141, n142, n143, n144, n145, n146, n45, n46, n47, n48, n49, n50, decide_false, Bool.false_eq_true, n20, g21_0, g21_1, g21_2, g21_3, n23, g24_2, g24_3, g24_4, g24_5, n25, n26, n27, n28, n29, n30, g31_0, g31_1, g31_2, n33, g34_2, g34_3, g34_4, g34_5, n35, n36, n37, n38, n39, adC_o, adC_s, adC_L, adM_o, adM_s, adM_L, eD, HZ]
        cases em : fst1 (isM B (bC B - 1) v') (bM B) 0 with
        | some j =>
          have hj := fst1_lt _ _ _ em
          rw [em] at MW L2
          rw [oI_some] at MW
          refine ⟨_, _, _, ?_, ?_, OutB.fault (k := 7) (s := tS f n q') (FcB.ad (h := hc) (c := 22) (f := f) (n := n) (p := q') (by decide)) ((F3 (nI v')).trans (FmB.ad (f := f) (n := n) (p := q'))) (by decide) (by decide)⟩
          · unfold F_X1_readHoles
            simp (disch := omega) only [↓m1_n, li_n, li_0, li_1, lt_y, lt_n, le_y, le_n, eq_n, nL, nLe, nEq, nEm, mEn, nLm, mLn, nLem, mLen, nI_add, nI_mul, nI_sub, nI_m, ib_nI, nx_nI, gd_y, bnd_e, bind_y, ↓reduceIte, hI_uI_o, hI_uI_s, hI_uI_e, hL_uI, hI_uL, hL_uL_o, hL_uL_s, hL_uL_e, and1_a, and1_b, Bool.not_true, Bool.not_false, Nat.zero_add, Nat.add_zero, Nat.add_sub_cancel, eq_self, ne_b, g0_0, g0_1, g0_2, g0_3, g0_4, g0_5, g0_6, g0_7, g0_8, g0_9, n1, n2, g3_2, g3_3, g3_4, g3_5, g3_6, g3_7, g3_8, g3_9, n4, n5, n6, n7, n8, n9, g10_2, g10_3, g10_4, g10_5, n11, n12, n13, n14, g15_2, g15_3, g15_4, g15_5, n16, n17, n18, n19, g40_0, g40_1, g40_2, g44_0, g44_2, g44_3, g44_5, g44_6, g44_10, g51_3, g51_4, g51_5, g51_6, g51_7, g57_3, g57_4, g57_5, g57_6, g57_7, n120, n121, g122_0, g122_4, g122_5, g122_6, g122_7, g122_8, g122_18, g122_19, g122_20, g122_21, g122_24, g122_25, g122_28, g122_29, g122_31, g122_32, g122_33, g122_39, g122_40, g122_41, g122_45, g122_46, g122_47, g122_48, n123, n124, n125, n126, n127, n128, n129, n130, n131, n132, n133, n134, n135, n136, n137, n138, n139, n140, n141, n142, n143, n144, n145, n146, n45, n46, n47, n48, n49, n50, decide_false, Bool.false_eq_true, n20, g21_0, g21_1, g21_2, g21_3, n23, g24_2, g24_3, g24_4, g24_5, n25, n26, n27, n28, n29, n30, g31_0, g31_1, g31_2, n33, g34_2, g34_3, g34_4, g34_5, n35, n36, n37, n38, n39, adC_o, adC_s, adC_L, adM_o, adM_s, adM_L, c0, c1, z0, A0, c_name r1 b.e5, ok1, H1, X1, A1, W2, h4, r4.2.2.2.2.2.2.1, k43, MW, c_tell (k := 7) r4 b.e5]
          · simp (disch := omega) only [↓m1_n, li_n, li_0, li_1, lt_y, lt_n, le_y, le_n, eq_n, nL, nLe, nEq, nEm, mEn, nLm, mLn, nLem, mLen, nI_add, nI_mul, nI_sub, nI_m, ib_nI, nx_nI, gd_y, bnd_e, bind_y, ↓reduceIte, hI_uI_o, hI_uI_s, hI_uI_e, hL_uI, hI_uL, hL_uL_o, hL_uL_s, hL_uL_e, and1_a, and1_b, Bool.not_true, Bool.not_false, Nat.zero_add, Nat.add_zero, Nat.add_sub_cancel, eq_self, ne_b, g0_0, g0_1, g0_2, g0_3, g0_4, g0_5, g0_6, g0_7, g0_8, g0_9, n1, n2, g3_2, g3_3, g3_4, g3_5, g3_6, g3_7, g3_8, g3_9, n4, n5, n6, n7, n8, n9, g10_2, g10_3, g10_4, g10_5, n11, n12, n13, n14, g15_2, g15_3, g15_4, g15_5, n16, n17, n18, n19, g40_0, g40_1, g40_2, g44_0, g44_2, g44_3, g44_5, g44_6, g44_10, g51_3, g51_4, g51_5, g51_6, g51_7, g57_3, g57_4, g57_5, g57_6, g57_7, n120, n121, g122_0, g122_4, g122_5, g122_6, g122_7, g122_8, g122_18, g122_19, g122_20, g122_21, g122_24, g122_25, g122_28, g122_29, g122_31, g122_32, g122_33, g122_39, g122_40, g122_41, g122_45, g122_46, g122_47, g122_48, n123, n124, n125, n126, n127, n128, n129, n130, n131, n132, n133, n134, n135, n136, n137, n138, n139, n140, n141, n142, n143, n144, n145, n146, n45, n46, n47, n48, n49, n50, decide_false, Bool.false_eq_true, n20, g21_0, g21_1, g21_2, g21_3, n23, g24_2, g24_3, g24_4, g24_5, n25, n26, n27, n28, n29, n30, g31_0, g31_1, g31_2, n33, g34_2, g34_3, g34_4, g34_5, n35, n36, n37, n38, n39, adC_o, adC_s, adC_L, adM_o, adM_s, adM_L, m0, m1, z0, c4, D0, m_name t1, ok1, G1, Y1, D1, m_bkW t2, yb, D2, HB, e11, g4, Sum.elim_inl, L2, Option.elim_some]
        | none =>
          rw [em] at MW L2
          rw [oI_none] at MW
          have S4 := m_sign t5 mb5.e7
          rw [if_pos k43, adM_ad] at S4
          have C4 : F_X7_takeSign (adC hc 22 f n q') 22 = some (adC hc 22 f n (tE f n q'), nI 1) := by rw [c_sign r4 b.e5, if_pos k43, adC_ad]
          have q5 := tE_b (f := f) (p := q') y2
          obtain ⟨p5, hp5⟩ : ∃ p5, p5 = tE f n q' := ⟨_, rfl⟩
          rw [← hp5] at S4 C4 q5
          have s5 := tS_b (f := f) (p := q') y2
          have r5 := b.rd (q := p5) q5.2.1
          have t6 := mb5.rd (q := p5) q5.2.1
          obtain ⟨hx, u1, u2, u3, u4, u5, u6, u7, u8, u9⟩ := c_addMean (h := uL (adC hc 22 f n p5) 30 (bM B) (lN (nmC f n p1))) (c := bC B) (k := bM B) (w := v') (by omega) o1 (by omega) (by rw [hI_uL, adC_o (by decide)]; exact c0) (by rw [hI_uL, adC_o (by decide)]; exact c1)
          have ex : ∀ d, d ≠ 22 → d ≠ 24 → d ≠ 26 → d ≠ 27 → d ≠ 28 → hI hx d = hI hc d := fun d x1 x2 x3 x4 x5 => by rw [u4 d x2 x3 x4 x5, hI_uL, adC_o x1]
          have e22 : hI hx 22 = hI (adC hc 22 f n p5) 22 := by rw [u4 22 (by decide) (by decide) (by decide) (by decide), hI_uL]
          obtain ⟨hy, hhy⟩ : ∃ hy, hy = adM hz f n p5 := ⟨_, rfl⟩
          have ey : ∀ k, k ≠ 3203 → k ≠ 3572 + 2 * bM B → k ≠ 3572 + 2 * bM B + 1 → hI hy 123 k = hI hm 123 k := fun k x1 x2 x3 => by rw [hhy, adM_o (by decide), hhz, hI_uI_s x1, hI_uI_s x3, hhb, hI_uI_s x2, hI_uL]
          refine ⟨hx, hy, nI 1, ?_, ?_, ?_⟩
          · unfold F_X1_readHoles J_X1_readMean_172
            simp (disch := omega) only [↓m1_n, li_n, li_0, li_1, lt_y, lt_n, le_y, le_n, eq_n, nL, nLe, nEq, nEm, mEn, nLm, mLn, nLem, mLen, nI_add, nI_mul, nI_sub, nI_m, ib_nI, nx_nI, gd_y, bnd_e, bind_y, ↓reduceIte, hI_uI_o, hI_uI_s, hI_uI_e, hL_uI, hI_uL, hL_uL_o, hL_uL_s, hL_uL_e, and1_a, and1_b, Bool.not_true, Bool.not_false, Nat.zero_add, Nat.add_zero, Nat.add_sub_cancel, eq_self, ne_b, g0_0, g0_1, g0_2, g0_3, g0_4, g0_5, g0_6, g0_7, g0_8, g0_9, n1, n2, g3_2, g3_3, g3_4, g3_5, g3_6, g3_7, g3_8, g3_9, n4, n5, n6, n7, n8, n9, g10_2, g10_3, g10_4, g10_5, n11, n12, n13, n14, g15_2, g15_3, g15_4, g15_5, n16, n17, n18, n19, g40_0, g40_1, g40_2, g44_0, g44_2, g44_3, g44_5, g44_6, g44_10, g51_3, g51_4, g51_5, g51_6, g51_7, g57_3, g57_4, g57_5, g57_6, g57_7, n120, n121, g122_0, g122_4, g122_5, g122_6, g122_7, g122_8, g122_18, g122_19, g122_20, g122_21, g122_24, g122_25, g122_28, g122_29, g122_31, g122_32, g122_33, g122_39, g122_40, g122_41, g122_45, g122_46, g122_47, g122_48, n123, n124, n125, n126, n127, n128, n129, n130, n131, n132, n133, n134, n135, n136, n137, n138, n139, n140, n141, n142, n143, n144, n145, n146, n45, n46, n47, n48, n49, n50, decide_false, Bool.false_eq_true, n20, g21_0, g21_1, g21_2, g21_3, n23, g24_2, g24_3, g24_4, g24_5, n25, n26, n27, n28, n29, n30, g31_0, g31_1, g31_2, n33, g34_2, g34_3, g34_4, g34_5, n35, n36, n37, n38, n39, adC_o, adC_s, adC_L, adM_o, adM_s, adM_L, c0, c1, z0, A0, c_name r1 b.e5, ok1, H1, X1, A1, W2, h4, r4.2.2.2.2.2.2.1, k43, MW, C4, u1]
          · simp (disch := omega) only [↓m1_n, li_n, li_0, li_1, lt_y, lt_n, le_y, le_n, eq_n, nL, nLe, nEq, nEm, mEn, nLm, mLn, nLem, mLen, nI_add, nI_mul, nI_sub, nI_m, ib_nI, nx_nI, gd_y, bnd_e, bind_y, ↓reduceIte, hI_uI_o, hI_uI_s, hI_uI_e, hL_uI, hI_uL, hL_uL_o, hL_uL_s, hL_uL_e, and1_a, and1_b, Bool.not_true, Bool.not_false, Nat.zero_add, Nat.add_zero, Nat.add_sub_cancel, eq_self, ne_b, g0_0, g0_1, g0_2, g0_3, g0_4, g0_5, g0_6, g0_7, g0_8, g0_9, n1, n2, g3_2, g3_3, g3_4, g3_5, g3_6, g3_7, g3_8, g3_9, n4, n5, n6, n7, n8, n9, g10_2, g10_3, g10_4, g10_5, n11, n12, n13, n14, g15_2, g15_3, g15_4, g15_5, n16, n17, n18, n19, g40_0, g40_1, g40_2, g44_0, g44_2, g44_3, g44_5, g44_6, g44_10, g51_3, g51_4, g51_5, g51_6, g51_7, g57_3, g57_4, g57_5, g57_6, g57_7, n120, n121, g122_0, g122_4, g122_5, g122_6, g122_7, g122_8, g122_18, g122_19, g122_20, g122_21, g122_24, g122_25, g122_28, g122_29, g122_31, g122_32, g122_33, g122_39, g122_40, g122_41, g122_45, g122_46, g122_47, g122_48, n123, n124, n125, n126, n127, n128, n129, n130, n131, n132, n133, n134, n135, n136, n137, n138, n139, n140, n141, n142, n143, n144, n145, n146, n45, n46, n47, n48, n49, n50, decide_false, Bool.false_eq_true, n20, g21_0, g21_1, g21_2, g21_3, n23, g24_2, g24_3, g24_4, g24_5, n25, n26, n27, n28, n29, n30, g31_0, g31_1, g31_2, n33, g34_2, g34_3, g34_4, g34_5, n35, n36, n37, n38, n39, adC_o, adC_s, adC_L, adM_o, adM_s, adM_L, m0, m1, z0, c4, D0, m_name t1, ok1, G1, Y1, D1, m_bkW t2, yb, D2, HB, e11, g4, Sum.elim_inl, L2, Option.elim_none, S4, hhy]
          · refine ⟨⟨fun d hd => ex d (by omega) (by omega) (by omega) (by omega) (by omega), fun d x y => by rw [u2]; exact hL_uL_o y⟩, by rw [hhy]; exact F4.trans FmB.ad, Or.inr ⟨rfl, p5, bkM B v', C, upN M (bM B) p1, by omega, ?_, ?_, ?_, ?_, ?_, ?_, ?_, ?_, ?_, ?_, ?_, ?_⟩⟩
            · exact r5.cg (by rw [ex 2 (by decide) (by decide) (by decide) (by decide) (by decide), adC_o (by decide)]) (by rw [u3]; rfl) (fun k _ _ => by rw [e22])
            · rw [e22, adC_s (by decide) (by decide) (by decide)]; exact f5
            · rw [e22, adC_s (by decide) (by decide) (by decide)]; exact f6
            · refine ⟨u5, u6, fun k hk => ?_, fun m hm' => ?_⟩
              · show hI hx 25 k = _
                rw [ex 25 (by decide) (by decide) (by decide) (by decide) (by decide)]
                exact rcB.2.2.1 k hk
              · have hm' : m < bM B + 1 := hm'
                show hI hx 26 m = nI (upN (bMc B) (bM B) (bC B - 1) m) ∧ hI hx 27 m = nI (upN (bMh B) (bM B) v' m) ∧ ∀ d, d < 4 → hI hx 28 (4 * m + d) = if upN (bMc B) (bM B) (bC B - 1) m = d then nI m else jn (bkM B v') m d
                rw [u7 m, u8 m]
                by_cases x : m = bM B
                · subst x
                  rw [if_pos rfl, if_pos rfl, upN_e, upN_e]
                  refine ⟨rfl, rfl, fun d hd => ?_⟩
                  rw [u9, show jn (bkM B v') (bM B) d = mN from jnF_no (B := bkM B v') (bJ B) 0 (fun j _ hj => by have := (o6 j (by omega)).1; show bJa B j ≠ bM B; omega)]
                  by_cases y : bC B - 1 = d
                  · rw [if_pos (by omega), if_pos y]
                  · rw [if_neg (by omega), if_pos (by omega), if_neg y]
                · have z := rcB.2.2.2 m (by omega)
                  have z3 : ∀ d, d < 4 → hI hc 28 (4 * m + d) = if bMc B m = d then nI m else jn B m d := z.2.2
                  rw [if_neg x, if_neg x, upN_s x, upN_s x, hI_uL, adC_o (by decide), adC_o (by decide)]
                  refine ⟨z.1, z.2.1, fun d hd => ?_⟩
                  rw [u9, if_neg (by omega), if_neg (by omega), hI_uL, adC_o (by decide), z3 d hd, show jn (bkM B v') m d = jn B m d from jnF_cg (B := B) (B' := bkM B v') rfl rfl (bJ B) 0 (fun j _ hj => by
                    have := (o6 j (by omega)).2.1
                    exact upN_s (by omega))]
            · rw [ex 21 (by decide) (by decide) (by decide) (by decide) (by decide)]; exact j4
            · rw [hhy]; exact t6
            · rw [hhy]; exact mb5.e7
            · rw [hhy, adM_s (by decide) (by decide) (by decide) (by decide), hhz, hI_uI_o (by decide), hI_uI_o (by decide), hhb, hI_uI_o (by decide), hI_uL]; exact g16
            · refine ⟨by rw [ey _ (by decide) (by omega) (by omega)]; exact m0, by rw [hhy, adM_o (by decide), hhz, hI_uI_e]; rfl, by rw [ey _ (by decide) (by omega) (by omega)]; exact rmB.2.2.1, fun k hk => ?_, fun m hm' => ?_, fun k hk => ?_⟩
              · have hk : k < bC B := hk
                rw [ey _ (by omega) (by omega) (by omega)]
                exact rmB.2.2.2.1 k hk
              · have hm' : m < bM B + 1 := hm'
                show hI hy 123 (3200 + 372 + 2 * m) = nI (upN (bMc B) (bM B) (bC B - 1) m) ∧ hI hy 123 (3200 + 373 + 2 * m) = nI (upN (bMh B) (bM B) v' m)
                by_cases x : m = bM B
                · subst x
                  rw [upN_e, upN_e, show 3200 + 372 + 2 * bM B = 3572 + 2 * bM B by omega, show 3200 + 373 + 2 * bM B = 3572 + 2 * bM B + 1 by omega, hhy, adM_o (by decide), hhz, hI_uI_s (by omega), hI_uI_s (by omega), hI_uI_s (by omega), hI_uI_e, hhb, hI_uI_e]
                  exact ⟨rfl, rfl⟩
                · rw [upN_s x, upN_s x, ey _ (by omega) (by omega) (by omega), ey _ (by omega) (by omega) (by omega)]
                  exact rmB.2.2.2.2.1 m (by omega)
              · have hk : k < bJ B := hk
                rw [ey _ (by omega) (by omega) (by omega), ey _ (by omega) (by omega) (by omega)]
                exact rmB.2.2.2.2.2 k hk
            · refine ⟨o1, by show bM B + 1 ≤ 20; omega, o3, o4, fun m hm' => ?_, fun k hk => ?_⟩
              · have hm' : m < bM B + 1 := hm'
                show upN (bMc B) (bM B) (bC B - 1) m < bC B ∧ upN (bMh B) (bM B) v' m ≤ 4095
                by_cases x : m = bM B
                · rw [x, upN_e, upN_e]; omega
                · rw [upN_s x, upN_s x]; exact o5 m (by omega)
              · have z := o6 k hk
                refine ⟨by show bJa B k < bM B + 1; omega, by show bJb B k < bM B + 1; omega, ?_⟩
                show upN (bMc B) (bM B) (bC B - 1) (bJa B k) ≠ upN (bMc B) (bM B) (bC B - 1) (bJb B k)
                rw [upN_s (by omega), upN_s (by omega)]
                exact z.2.2
            · intro k hk
              have z := nC k hk
              refine ⟨z.1, z.2.1, ?_, ?_⟩
              · rw [u2]; exact (congrFun (hL_uL_o (by decide)) k).trans z.2.2.1
              · rw [hhy, hhz, hhb]; exact (congrFun (hL_uL_o (by decide)) k).trans z.2.2.2
            · intro k hk
              have hk : k < bM B + 1 := hk
              by_cases x : k = bM B
              · subst x
                rw [upN_e]
                refine ⟨q0.2.1, ok1, ?_, ?_⟩
                · rw [u2]; exact hL_uL_e
                · rw [hhy, hhz, hhb]; exact hL_uL_e
              · rw [upN_s x]
                have z := nM k (by omega)
                refine ⟨z.1, z.2.1, ?_, ?_⟩
                · rw [u2]; exact (hL_uL_s x).trans z.2.2.1
                · rw [hhy, hhz, hhb]; exact (hL_uL_s x).trans z.2.2.2
      · have k44 : mkT (tK f n q') ≠ 4 := fun e => k43 (mk4.2.2.1.mp e)
        have L2 : L_X12_aMean_252 (adM (uI hb 123 (3572 + 2 * bM B + 1) (nI v')) f n q') 122 (nI (bM B)) (nI (3572 + 2 * bM B)) (nI 0) = some (adM hz f n q', nI 1) := by
          refine iterW_end ?_
          show B_X12_aMean_252 _ _ _ _ _ = _
          unfold B_X12_aMean_252
          by_cases x : bM B ≤ 0
          · simp (disch := omega) only [↓m1_n, li_n, li_0, li_1, lt_y, lt_n, le_y, le_n, eq_n, nL, nLe, nEq, nEm, mEn, nLm, mLn, nLem, mLen, nI_add, nI_mul, nI_sub, nI_m, ib_nI, nx_nI, gd_y, bnd_e, bind_y, ↓reduceIte, hI_uI_o, hI_uI_s, hI_uI_e, hL_uI, hI_uL, hL_uL_o, hL_uL_s, hL_uL_e, and1_a, and1_b, Bool.not_true, Bool.not_false, Nat.zero_add, Nat.add_zero, Nat.add_sub_cancel, eq_self, ne_b, g0_0, g0_1, g0_2, g0_3, g0_4, g0_5, g0_6, g0_7, g0_8, g0_9, n1, n2, g3_2, g3_3, g3_4, g3_5, g3_6, g3_7, g3_8, g3_9, n4, n5, n6, n7, n8, n9, g10_2, g10_3, g10_4, g10_5, n11, n12, n13, n14, g15_2, g15_3, g15_4, g15_5, n16, n17, n18, n19, g40_0, g40_1, g40_2, g44_0, g44_2, g44_3, g44_5, g44_6, g44_10, g51_3, g51_4, g51_5, g51_6, g51_7, g57_3, g57_4, g57_5, g57_6, g57_7, n120, n121, g122_0, g122_4, g122_5, g122_6, g122_7, g122_8, g122_18, g122_19, g122_20, g122_21, g122_24, g122_25, g122_28, g122_29, g122_31, g122_32, g122_33, g122_39, g122_40, g122_41, g122_45, g122_46, g122_47, g122_48, n123, n124, n125, n126, n127, n128, n129, n130, n131, n132, n133, n134, n135, n136, n137, n138, n139, n140, n141, n142, n143, n144, n145, n146, n45, n46, n47, n48, n49, n50, decide_false, Bool.false_eq_true, n20, g21_0, g21_1, g21_2, g21_3, n23, g24_2, g24_3, g24_4, g24_5, n25, n26, n27, n28, n29, n30, g31_0, g31_1, g31_2, n33, g34_2, g34_3, g34_4, g34_5, n35, n36, n37, n38, n39, adC_o, adC_s, adC_L, adM_o, adM_s, adM_L, x, eD, HZ]
          · simp (disch := omega) only [↓m1_n, li_n, li_0, li_1, lt_y, lt_n, le_y, le_n, eq_n, nL, nLe, nEq, nEm, mEn, nLm, mLn, nLem, mLen, nI_add, nI_mul, nI_sub, nI_m, ib_nI, nx_nI, gd_y, bnd_e, bind_y, ↓reduceIte, hI_uI_o, hI_uI_s, hI_uI_e, hL_uI, hI_uL, hL_uL_o, hL_uL_s, hL_uL_e, and1_a, and1_b, Bool.not_true, Bool.not_false, Nat.zero_add, Nat.add_zero, Nat.add_sub_cancel, eq_self, ne_b, g0_0, g0_1, g0_2, g0_3, g0_4, g0_5, g0_6, g0_7, g0_8, g0_9, n1, n2, g3_2, g3_3, g3_4, g3_5, g3_6, g3_7, g3_8, g3_9, n4, n5, n6, n7, n8, n9, g10_2, g10_3, g10_4, g10_5, n11, n12, n13, n14, g15_2, g15_3, g15_4, g15_5, n16, n17, n18, n19, g40_0, g40_1, g40_2, g44_0, g44_2, g44_3, g44_5, g44_6, g44_10, g51_3, g51_4, g51_5, g51_6, g51_7, g57_3, g57_4, g57_5, g57_6, g57_7, n120, n121, g122_0, g122_4, g122_5, g122_6, g122_7, g122_8, g122_18, g122_19, g122_20, g122_21, g122_24, g122_25, g122_28, g122_29, g122_31, g122_32, g122_33, g122_39, g122_40, g122_41, g122_45, g122_46, g122_47, g122_48, n123, n124, n125, n126, n127, n128, n129, n130, n131, n132, n133, n134, n135, n136, n137, n138, n139, n140, n141, n142, n143, n144, n145, n146, n45, n46, n47, n48, n49, n50, decide_false, Bool.false_eq_true, n20, g21_0, g21_1, g21_2, g21_3, n23, g24_2, g24_3, g24_4, g24_5, n25, n26, n27, n28, n29, n30, g31_0, g31_1, g31_2, n33, g34_2, g34_3, g34_4, g34_5, n35, n36, n37, n38, n39, adC_o, adC_s, adC_L, adM_o, adM_s, adM_L, x, t4.2.2.1, k44, eD, HZ]
        have S4 := m_sign t5 mb5.e7
        rw [if_neg k43] at S4
        refine ⟨_, _, _, ?_, ?_, OutB.fault (k := misK f n q') (s := tS f n q') (FcB.ad (h := hc) (c := 22) (f := f) (n := n) (p := q') (by decide)) (F4.trans (FmB.ad (f := f) (n := n) (p := q'))) mis_b.1 mis_b.2⟩
        · unfold F_X1_readHoles J_X1_readMean_172
          simp (disch := omega) only [↓m1_n, li_n, li_0, li_1, lt_y, lt_n, le_y, le_n, eq_n, nL, nLe, nEq, nEm, mEn, nLm, mLn, nLem, mLen, nI_add, nI_mul, nI_sub, nI_m, ib_nI, nx_nI, gd_y, bnd_e, bind_y, ↓reduceIte, hI_uI_o, hI_uI_s, hI_uI_e, hL_uI, hI_uL, hL_uL_o, hL_uL_s, hL_uL_e, and1_a, and1_b, Bool.not_true, Bool.not_false, Nat.zero_add, Nat.add_zero, Nat.add_sub_cancel, eq_self, ne_b, g0_0, g0_1, g0_2, g0_3, g0_4, g0_5, g0_6, g0_7, g0_8, g0_9, n1, n2, g3_2, g3_3, g3_4, g3_5, g3_6, g3_7, g3_8, g3_9, n4, n5, n6, n7, n8, n9, g10_2, g10_3, g10_4, g10_5, n11, n12, n13, n14, g15_2, g15_3, g15_4, g15_5, n16, n17, n18, n19, g40_0, g40_1, g40_2, g44_0, g44_2, g44_3, g44_5, g44_6, g44_10, g51_3, g51_4, g51_5, g51_6, g51_7, g57_3, g57_4, g57_5, g57_6, g57_7, n120, n121, g122_0, g122_4, g122_5, g122_6, g122_7, g122_8, g122_18, g122_19, g122_20, g122_21, g122_24, g122_25, g122_28, g122_29, g122_31, g122_32, g122_33, g122_39, g122_40, g122_41, g122_45, g122_46, g122_47, g122_48, n123, n124, n125, n126, n127, n128, n129, n130, n131, n132, n133, n134, n135, n136, n137, n138, n139, n140, n141, n142, n143, n144, n145, n146, n45, n46, n47, n48, n49, n50, decide_false, Bool.false_eq_true, n20, g21_0, g21_1, g21_2, g21_3, n23, g24_2, g24_3, g24_4, g24_5, n25, n26, n27, n28, n29, n30, g31_0, g31_1, g31_2, n33, g34_2, g34_3, g34_4, g34_5, n35, n36, n37, n38, n39, adC_o, adC_s, adC_L, adM_o, adM_s, adM_L, c0, c1, z0, A0, c_name r1 b.e5, ok1, H1, X1, A1, W2, h4, r4.2.2.2.2.2.2.1, k43, c_sign r4 b.e5]
        · simp (disch := omega) only [↓m1_n, li_n, li_0, li_1, lt_y, lt_n, le_y, le_n, eq_n, nL, nLe, nEq, nEm, mEn, nLm, mLn, nLem, mLen, nI_add, nI_mul, nI_sub, nI_m, ib_nI, nx_nI, gd_y, bnd_e, bind_y, ↓reduceIte, hI_uI_o, hI_uI_s, hI_uI_e, hL_uI, hI_uL, hL_uL_o, hL_uL_s, hL_uL_e, and1_a, and1_b, Bool.not_true, Bool.not_false, Nat.zero_add, Nat.add_zero, Nat.add_sub_cancel, eq_self, ne_b, g0_0, g0_1, g0_2, g0_3, g0_4, g0_5, g0_6, g0_7, g0_8, g0_9, n1, n2, g3_2, g3_3, g3_4, g3_5, g3_6, g3_7, g3_8, g3_9, n4, n5, n6, n7, n8, n9, g10_2, g10_3, g10_4, g10_5, n11, n12, n13, n14, g15_2, g15_3, g15_4, g15_5, n16, n17, n18, n19, g40_0, g40_1, g40_2, g44_0, g44_2, g44_3, g44_5, g44_6, g44_10, g51_3, g51_4, g51_5, g51_6, g51_7, g57_3, g57_4, g57_5, g57_6, g57_7, n120, n121, g122_0, g122_4, g122_5, g122_6, g122_7, g122_8, g122_18, g122_19, g122_20, g122_21, g122_24, g122_25, g122_28, g122_29, g122_31, g122_32, g122_33, g122_39, g122_40, g122_41, g122_45, g122_46, g122_47, g122_48, n123, n124, n125, n126, n127, n128, n129, n130, n131, n132, n133, n134, n135, n136, n137, n138, n139, n140, n141, n142, n143, n144, n145, n146, n45, n46, n47, n48, n49, n50, decide_false, Bool.false_eq_true, n20, g21_0, g21_1, g21_2, g21_3, n23, g24_2, g24_3, g24_4, g24_5, n25, n26, n27, n28, n29, n30, g31_0, g31_1, g31_2, n33, g34_2, g34_3, g34_4, g34_5, n35, n36, n37, n38, n39, adC_o, adC_s, adC_L, adM_o, adM_s, adM_L, m0, m1, z0, c4, D0, m_name t1, ok1, G1, Y1, D1, m_bkW t2, yb, D2, HB, e11, g4, Sum.elim_inl, L2, S4]
  · have k33 : mkT (tK f n p3) ≠ 3 := fun e => k32 (mk3.2.1.mp e)
    have iN : inN f n p3 0 12 = false := by unfold inN; rw [decide_eq_false k32, Bool.false_and]
    have cn := c_num (a := 0) (b := 12) r3 b.e5 (by decide) (by decide)
    rw [iN, if_neg Bool.false_ne_true, show flN f n p3 = misK f n p3 from if_neg k32] at cn
    have L4 : L_X1_readHoles_4 (adC hc 22 f n p3) 21 (nI 0) (nI 0) = some (flC (adC hc 22 f n p3) 22 (misK f n p3) (tS f n p3), mN) := by
      refine iterW_end ?_
      show B_X1_readHoles_4 _ _ _ _ = _
      unfold B_X1_readHoles_4 J_X1_readHoles_25
      simp (disch := omega) only [↓m1_n, li_n, li_0, li_1, lt_y, lt_n, le_y, le_n, eq_n, nL, nLe, nEq, nEm, mEn, nLm, mLn, nLem, mLen, nI_add, nI_mul, nI_sub, nI_m, ib_nI, nx_nI, gd_y, bnd_e, bind_y, ↓reduceIte, hI_uI_o, hI_uI_s, hI_uI_e, hL_uI, hI_uL, hL_uL_o, hL_uL_s, hL_uL_e, and1_a, and1_b, Bool.not_true, Bool.not_false, Nat.zero_add, Nat.add_zero, Nat.add_sub_cancel, eq_self, ne_b, g0_0, g0_1, g0_2, g0_3, g0_4, g0_5, g0_6, g0_7, g0_8, g0_9, n1, n2, g3_2, g3_3, g3_4, g3_5, g3_6, g3_7, g3_8, g3_9, n4, n5, n6, n7, n8, n9, g10_2, g10_3, g10_4, g10_5, n11, n12, n13, n14, g15_2, g15_3, g15_4, g15_5, n16, n17, n18, n19, g40_0, g40_1, g40_2, g44_0, g44_2, g44_3, g44_5, g44_6, g44_10, g51_3, g51_4, g51_5, g51_6, g51_7, g57_3, g57_4, g57_5, g57_6, g57_7, n120, n121, g122_0, g122_4, g122_5, g122_6, g122_7, g122_8, g122_18, g122_19, g122_20, g122_21, g122_24, g122_25, g122_28, g122_29, g122_31, g122_32, g122_33, g122_39, g122_40, g122_41, g122_45, g122_46, g122_47, g122_48, n123, n124, n125, n126, n127, n128, n129, n130, n131, n132, n133, n134, n135, n136, n137, n138, n139, n140, n141, n142, n143, n144, n145, n146, n45, n46, n47, n48, n49, n50, decide_false, Bool.false_eq_true, n20, g21_0, g21_1, g21_2, g21_3, n23, g24_2, g24_3, g24_4, g24_5, n25, n26, n27, n28, n29, n30, g31_0, g31_1, g31_2, n33, g34_2, g34_3, g34_4, g34_5, n35, n36, n37, n38, n39, adC_o, adC_s, adC_L, adM_o, adM_s, adM_L, cn]
    refine ⟨_, _, _, ?_, ?_, OutB.fault (k := misK f n p3) (s := tS f n p3) (FcB.ad (h := hc) (c := 22) (f := f) (n := n) (p := p3) (by decide)) ((F3 (nI 0)).trans (FmB.ad (f := f) (n := n) (p := p3))) mis_b.1 mis_b.2⟩
    · unfold F_X1_readHoles
      simp (disch := omega) only [↓m1_n, li_n, li_0, li_1, lt_y, lt_n, le_y, le_n, eq_n, nL, nLe, nEq, nEm, mEn, nLm, mLn, nLem, mLen, nI_add, nI_mul, nI_sub, nI_m, ib_nI, nx_nI, gd_y, bnd_e, bind_y, ↓reduceIte, hI_uI_o, hI_uI_s, hI_uI_e, hL_uI, hI_uL, hL_uL_o, hL_uL_s, hL_uL_e, and1_a, and1_b, Bool.not_true, Bool.not_false, Nat.zero_add, Nat.add_zero, Nat.add_sub_cancel, eq_self, ne_b, g0_0, g0_1, g0_2, g0_3, g0_4, g0_5, g0_6, g0_7, g0_8, g0_9, n1, n2, g3_2, g3_3, g3_4, g3_5, g3_6, g3_7, g3_8, g3_9, n4, n5, n6, n7, n8, n9, g10_2, g10_3, g10_4, g10_5, n11, n12, n13, n14, g15_2, g15_3, g15_4, g15_5, n16, n17, n18, n19, g40_0, g40_1, g40_2, g44_0, g44_2, g44_3, g44_5, g44_6, g44_10, g51_3, g51_4, g51_5, g51_6, g51_7, g57_3, g57_4, g57_5, g57_6, g57_7, n120, n121, g122_0, g122_4, g122_5, g122_6, g122_7, g122_8, g122_18, g122_19, g122_20, g122_21, g122_24, g122_25, g122_28, g122_29, g122_31, g122_32, g122_33, g122_39, g122_40, g122_41, g122_45, g122_46, g122_47, g122_48, n123, n124, n125, n126, n127, n128, n129, n130, n131, n132, n133, n134, n135, n136, n137, n138, n139, n140, n141, n142, n143, n144, n145, n146, n45, n46, n47, n48, n49, n50, decide_false, Bool.false_eq_true, n20, g21_0, g21_1, g21_2, g21_3, n23, g24_2, g24_3, g24_4, g24_5, n25, n26, n27, n28, n29, n30, g31_0, g31_1, g31_2, n33, g34_2, g34_3, g34_4, g34_5, n35, n36, n37, n38, n39, adC_o, adC_s, adC_L, adM_o, adM_s, adM_L, c0, c1, z0, A0, c_name r1 b.e5, ok1, H1, X1, A1, W2, L4]
    · simp (disch := omega) only [↓m1_n, li_n, li_0, li_1, lt_y, lt_n, le_y, le_n, eq_n, nL, nLe, nEq, nEm, mEn, nLm, mLn, nLem, mLen, nI_add, nI_mul, nI_sub, nI_m, ib_nI, nx_nI, gd_y, bnd_e, bind_y, ↓reduceIte, hI_uI_o, hI_uI_s, hI_uI_e, hL_uI, hI_uL, hL_uL_o, hL_uL_s, hL_uL_e, and1_a, and1_b, Bool.not_true, Bool.not_false, Nat.zero_add, Nat.add_zero, Nat.add_sub_cancel, eq_self, ne_b, g0_0, g0_1, g0_2, g0_3, g0_4, g0_5, g0_6, g0_7, g0_8, g0_9, n1, n2, g3_2, g3_3, g3_4, g3_5, g3_6, g3_7, g3_8, g3_9, n4, n5, n6, n7, n8, n9, g10_2, g10_3, g10_4, g10_5, n11, n12, n13, n14, g15_2, g15_3, g15_4, g15_5, n16, n17, n18, n19, g40_0, g40_1, g40_2, g44_0, g44_2, g44_3, g44_5, g44_6, g44_10, g51_3, g51_4, g51_5, g51_6, g51_7, g57_3, g57_4, g57_5, g57_6, g57_7, n120, n121, g122_0, g122_4, g122_5, g122_6, g122_7, g122_8, g122_18, g122_19, g122_20, g122_21, g122_24, g122_25, g122_28, g122_29, g122_31, g122_32, g122_33, g122_39, g122_40, g122_41, g122_45, g122_46, g122_47, g122_48, n123, n124, n125, n126, n127, n128, n129, n130, n131, n132, n133, n134, n135, n136, n137, n138, n139, n140, n141, n142, n143, n144, n145, n146, n45, n46, n47, n48, n49, n50, decide_false, Bool.false_eq_true, n20, g21_0, g21_1, g21_2, g21_3, n23, g24_2, g24_3, g24_4, g24_5, n25, n26, n27, n28, n29, n30, g31_0, g31_1, g31_2, n33, g34_2, g34_3, g34_4, g34_5, n35, n36, n37, n38, n39, adC_o, adC_s, adC_L, adM_o, adM_s, adM_L, m0, m1, z0, c4, D0, m_name t1, ok1, G1, Y1, D1, m_bkW t2, yb, D2, HB, t3u.2.2.1, k33, m_fail2 t3 (mb4 (nI 0)).e7]
