/-! ===== book, the call ===== -/
theorem m_cp1 {h : Hp} : ∃ h', L_X12_book_114 h 122 (nI 2) = some h' ∧ (∀ d, d ≠ 123 → hI h' d = hI h d) ∧ hL h' = hL h ∧ (∀ k, 2 ≤ k → k < 5 → hI h' 123 k = hI h 123 (3200 + k)) ∧ ∀ k, k < 2 ∨ 5 ≤ k → hI h' 123 k = hI h 123 k := by
  refine iterW_inv (fun j s => s.2 = nI (2 + j) ∧ (∀ d, d ≠ 123 → hI s.1 d = hI h d) ∧ hL s.1 = hL h ∧ (∀ k, 2 ≤ k → k < 2 + j → hI s.1 123 k = hI h 123 (3200 + k)) ∧ ∀ k, k < 2 ∨ 2 + j ≤ k → hI s.1 123 k = hI h 123 k) _ 3 (fun j s hj p => ?_) (fun s p => ?_) ⟨rfl, fun _ _ => rfl, rfl, fun k a b => by omega, fun _ _ => rfl⟩
  · obtain ⟨p1, p2, p3, p4, p5⟩ := p
    refine ⟨(uI s.1 123 (2 + j) (hI h 123 (3200 + (2 + j))), nI (2 + j + 1)), ?_, rfl, fun d hd => by rw [hI_uI_o hd]; exact p2 d hd, p3, fun k a b => ?_, fun k hk => by rw [hI_uI_s (by omega)]; exact p5 k (by omega)⟩
    · show B_X12_book_114 _ _ _ = _
      unfold B_X12_book_114
      rw [p1]
      simp (disch := omega) only [↓m1_n, li_n, li_0, li_1, lt_y, lt_n, le_y, le_n, eq_n, nL, nLe, nEq, nEm, mEn, nLm, mLn, nLem, mLen, nI_add, nI_mul, nI_sub, nI_m, ib_nI, nx_nI, gd_y, bnd_e, bind_y, ↓reduceIte, hI_uI_o, hI_uI_s, hI_uI_e, hL_uI, hI_uL, hL_uL_o, hL_uL_s, hL_uL_e, and1_a, and1_b, Bool.not_true, Bool.not_false, Nat.zero_add, Nat.add_zero, Nat.add_sub_cancel, eq_self, ne_b, g0_0, g0_1, g0_2, g0_3, g0_4, g0_5, g0_6, g0_7, g0_8, g0_9, n1, n2, g3_2, g3_3, g3_4, g3_5, g3_6, g3_7, g3_8, g3_9, n4, n5, n6, n7, n8, n9, g10_2, g10_3, g10_4, g10_5, n11, n12, n13, n14, g15_2, g15_3, g15_4, g15_5, n16, n17, n18, n19, g40_0, g40_1, g40_2, g44_0, g44_2, g44_3, g44_5, g44_6, g44_10, g51_3, g51_4, g51_5, g51_6, g51_7, g57_3, g57_4, g57_5, g57_6, g57_7, n120, n121, g122_0, g122_4, g122_5, g122_6, g122_7, g122_8, g122_18, g122_19, g122_20, g122_21, g122_24, g122_25, g122_28, g122_29, g122_31, g122_32, g122_33, g122_39, g122_40, g122_41, g122_45, g122_46, g122_47, g122_48, n123, n124, n125, n126, n127, n128, n129, n130, n131, n132, n133, n134, n135, n136, n137, n138, n139, n140, n141, n142, n143, n144, n145, n146, n45, n46, n47, n48, n49, n50, decide_false, Bool.false_eq_true, n20, g21_0, g21_1, g21_2, g21_3, n23, g24_2, g24_3, g24_4, g24_5, n25, n26, n27, n28, n29, n30, g31_0, g31_1, g31_2, n33, g34_2, g34_3, g34_4, g34_5, n35, n36, n37, n38, n39, adC_o, adC_s, adC_L, adM_o, adM_s, adM_L, p5 (3200 + (2 + j)) (by omega)]
    · by_cases x : k = 2 + j
      · rw [x, hI_uI_e]
      · rw [hI_uI_s x]; exact p4 k a (by omega)
  · obtain ⟨p1, p2⟩ := p
    refine ⟨s.1, ?_, p2⟩
    show B_X12_book_114 _ _ _ = _
    unfold B_X12_book_114
    rw [p1]
    simp (disch := omega) only [↓m1_n, li_n, li_0, li_1, lt_y, lt_n, le_y, le_n, eq_n, nL, nLe, nEq, nEm, mEn, nLm, mLn, nLem, mLen, nI_add, nI_mul, nI_sub, nI_m, ib_nI, nx_nI, gd_y, bnd_e, bind_y, ↓reduceIte, hI_uI_o, hI_uI_s, hI_uI_e, hL_uI, hI_uL, hL_uL_o, hL_uL_s, hL_uL_e, and1_a, and1_b, Bool.not_true, Bool.not_false, Nat.zero_add, Nat.add_zero, Nat.add_sub_cancel, eq_self, ne_b, g0_0, g0_1, g0_2, g0_3, g0_4, g0_5, g0_6, g0_7, g0_8, g0_9, n1, n2, g3_2, g3_3, g3_4, g3_5, g3_6, g3_7, g3_8, g3_9, n4, n5, n6, n7, n8, n9, g10_2, g10_3, g10_4, g10_5, n11, n12, n13, n14, g15_2, g15_3, g15_4, g15_5, n16, n17, n18, n19, g40_0, g40_1, g40_2, g44_0, g44_2, g44_3, g44_5, g44_6, g44_10, g51_3, g51_4, g51_5, g51_6, g51_7, g57_3, g57_4, g57_5, g57_6, g57_7, n120, n121, g122_0, g122_4, g122_5, g122_6, g122_7, g122_8, g122_18, g122_19, g122_20, g122_21, g122_24, g122_25, g122_28, g122_29, g122_31, g122_32, g122_33, g122_39, g122_40, g122_41, g122_45, g122_46, g122_47, g122_48, n123, n124, n125, n126, n127, n128, n129, n130, n131, n132, n133, n134, n135, n136, n137, n138, n139, n140, n141, n142, n143, n144, n145, n146, n45, n46, n47, n48, n49, n50, decide_false, Bool.false_eq_true, n20, g21_0, g21_1, g21_2, g21_3, n23, g24_2, g24_3, g24_4, g24_5, n25, n26, n27, n28, n29, n30, g31_0, g31_1, g31_2, n33, g34_2, g34_3, g34_4, g34_5, n35, n36, n37, n38, n39, adC_o, adC_s, adC_L, adM_o, adM_s, adM_L]
theorem m_cp2 {h : Hp} : ∃ h', L_X12_book_145 h 122 (nI 368) = some (uI h' 122 1 (nI 0), hI h' 123 3) ∧ (∀ d, d ≠ 123 → hI h' d = hI h d) ∧ hL h' = hL h ∧ (∀ k, 368 ≤ k → k < 436 → hI h' 123 k = hI h 123 (3200 + k)) ∧ ∀ k, k < 368 ∨ 436 ≤ k → hI h' 123 k = hI h 123 k := by
  have key : ∃ z, L_X12_book_145 h 122 (nI 368) = some z ∧ ∃ h', z = (uI h' 122 1 (nI 0), hI h' 123 3) ∧ (∀ d, d ≠ 123 → hI h' d = hI h d) ∧ hL h' = hL h ∧ (∀ k, 368 ≤ k → k < 436 → hI h' 123 k = hI h 123 (3200 + k)) ∧ ∀ k, k < 368 ∨ 436 ≤ k → hI h' 123 k = hI h 123 k := by
    refine iterW_inv (fun j s => s.2 = nI (368 + j) ∧ (∀ d, d ≠ 123 → hI s.1 d = hI h d) ∧ hL s.1 = hL h ∧ (∀ k, 368 ≤ k → k < 368 + j → hI s.1 123 k = hI h 123 (3200 + k)) ∧ ∀ k, k < 368 ∨ 368 + j ≤ k → hI s.1 123 k = hI h 123 k) _ 68 (fun j s hj p => ?_) (fun s p => ?_) ⟨rfl, fun _ _ => rfl, rfl, fun k a b => by omega, fun _ _ => rfl⟩
    · obtain ⟨p1, p2, p3, p4, p5⟩ := p
      refine ⟨(uI s.1 123 (368 + j) (hI h 123 (3200 + (368 + j))), nI (368 + j + 1)), ?_, rfl, fun d hd => by rw [hI_uI_o hd]; exact p2 d hd, p3, fun k a b => ?_, fun k hk => by rw [hI_uI_s (by omega)]; exact p5 k (by omega)⟩
      · show B_X12_book_145 _ _ _ = _
        unfold B_X12_book_145
        rw [p1]
        simp (disch := omega) only [↓m1_n, li_n, li_0, li_1, lt_y, lt_n, le_y, le_n, eq_n, nL, nLe, nEq, nEm, mEn, nLm, mLn, nLem, mLen, nI_add, nI_mul, nI_sub, nI_m, ib_nI, nx_nI, gd_y, bnd_e, bind_y, ↓reduceIte, hI_uI_o, hI_uI_s, hI_uI_e, hL_uI, hI_uL, hL_uL_o, hL_uL_s, hL_uL_e, and1_a, and1_b, Bool.not_true, Bool.not_false, Nat.zero_add, Nat.add_zero, Nat.add_sub_cancel, eq_self, ne_b, g0_0, g0_1, g0_2, g0_3, g0_4, g0_5, g0_6, g0_7, g0_8, g0_9, n1, n2, g3_2, g3_3, g3_4, g3_5, g3_6, g3_7, g3_8, g3_9, n4, n5, n6, n7, n8, n9, g10_2, g10_3, g10_4, g10_5, n11, n12, n13, n14, g15_2, g15_3, g15_4, g15_5, n16, n17, n18, n19, g40_0, g40_1, g40_2, g44_0, g44_2, g44_3, g44_5, g44_6, g44_10, g51_3, g51_4, g51_5, g51_6, g51_7, g57_3, g57_4, g57_5, g57_6, g57_7, n120, n121, g122_0, g122_4, g122_5, g122_6, g122_7, g122_8, g122_18, g122_19, g122_20, g122_21, g122_24, g122_25, g122_28, g122_29, g122_31, g122_32, g122_33, g122_39, g122_40, g122_41, g122_45, g122_46, g122_47, g122_48, n123, n124, n125, n126, n127, n128, n129, n130, n131, n132, n133, n134, n135, n136, n137, n138, n139, n140, n141, n142, n143, n144, n145, n146, n45, n46, n47, n48, n49, n50, decide_false, Bool.false_eq_true, n20, g21_0, g21_1, g21_2, g21_3, n23, g24_2, g24_3, g24_4, g24_5, n25, n26, n27, n28, n29, n30, g31_0, g31_1, g31_2, n33, g34_2, g34_3, g34_4, g34_5, n35, n36, n37, n38, n39, adC_o, adC_s, adC_L, adM_o, adM_s, adM_L, p5 (3200 + (368 + j)) (by omega)]
      · by_cases x : k = 368 + j
        · rw [x, hI_uI_e]
        · rw [hI_uI_s x]; exact p4 k a (by omega)
    · obtain ⟨p1, p2⟩ := p
      refine ⟨_, ?_, s.1, rfl, p2⟩
      show B_X12_book_145 _ _ _ = _
      unfold B_X12_book_145 F_X12_gives
      rw [p1]
      simp (disch := omega) only [↓m1_n, li_n, li_0, li_1, lt_y, lt_n, le_y, le_n, eq_n, nL, nLe, nEq, nEm, mEn, nLm, mLn, nLem, mLen, nI_add, nI_mul, nI_sub, nI_m, ib_nI, nx_nI, gd_y, bnd_e, bind_y, ↓reduceIte, hI_uI_o, hI_uI_s, hI_uI_e, hL_uI, hI_uL, hL_uL_o, hL_uL_s, hL_uL_e, and1_a, and1_b, Bool.not_true, Bool.not_false, Nat.zero_add, Nat.add_zero, Nat.add_sub_cancel, eq_self, ne_b, g0_0, g0_1, g0_2, g0_3, g0_4, g0_5, g0_6, g0_7, g0_8, g0_9, n1, n2, g3_2, g3_3, g3_4, g3_5, g3_6, g3_7, g3_8, g3_9, n4, n5, n6, n7, n8, n9, g10_2, g10_3, g10_4, g10_5, n11, n12, n13, n14, g15_2, g15_3, g15_4, g15_5, n16, n17, n18, n19, g40_0, g40_1, g40_2, g44_0, g44_2, g44_3, g44_5, g44_6, g44_10, g51_3, g51_4, g51_5, g51_6, g51_7, g57_3, g57_4, g57_5, g57_6, g57_7, n120, n121, g122_0, g122_4, g122_5, g122_6, g122_7, g122_8, g122_18, g122_19, g122_20, g122_21, g122_24, g122_25, g122_28, g122_29, g122_31, g122_32, g122_33, g122_39, g122_40, g122_41, g122_45, g122_46, g122_47, g122_48, n123, n124, n125, n126, n127, n128, n129, n130, n131, n132, n133, n134, n135, n136, n137, n138, n139, n140, n141, n142, n143, n144, n145, n146, n45, n46, n47, n48, n49, n50, decide_false, Bool.false_eq_true, n20, g21_0, g21_1, g21_2, g21_3, n23, g24_2, g24_3, g24_4, g24_5, n25, n26, n27, n28, n29, n30, g31_0, g31_1, g31_2, n33, g34_2, g34_3, g34_4, g34_5, n35, n36, n37, n38, n39, adC_o, adC_s, adC_L, adM_o, adM_s, adM_L]
  obtain ⟨z, k1, h', k2, k3⟩ := key
  exact ⟨h', by rw [k1, k2], k3⟩
def bkZ : Bk := (0, fun _ => 0, 0, fun _ => 0, fun _ => 0, 0, fun _ => 0, fun _ => 0)
theorem bkZ_ok : BkOk bkZ := ⟨Nat.zero_le _, Nat.zero_le _, Nat.zero_le _, fun k hk => absurd hk (Nat.not_lt_zero k), fun k hk => absurd hk (Nat.not_lt_zero k), fun k hk => absurd hk (Nat.not_lt_zero k)⟩
def setB (A : Ho) (B : Bk) : Ho := (oN A, oH A, oC A, oK A, oW A, oD A, oM A, B, oS A)
noncomputable def finB (e4 : Hp) : Option (Hp × Int32) := if (hI (uI e4 122 15 (hI e4 122 17)) 122 17) ≤ 0 then (L_X12_book_114 (uI e4 122 15 (hI e4 122 17)) 122 ((2 : Int32))).bind (fun e5 => L_X12_book_145 e5 122 ((368 : Int32))) else (F_X12_refuse (uI e4 122 15 (hI e4 122 17)) 122 ((9 : Int32))).bind (fun r6 => some ((r6.1, r6.2)))
theorem op_book (q : Nat) (h : Hp) (x : Int32) (_ : q < 512) (i : Inv q h) : ∃ h1 h2 r, F_X11_book h 0 x = some (h1, r) ∧ F_X12_book h1 122 x = some (h2, r) ∧ Inv (q + 1) h2 := by
  obtain ⟨A, m, Mk, ok, rc, rm, hm, m1, m2, mk⟩ := id i.1
  obtain ⟨N, f, hN, e13, e9, tp⟩ := id i.2.2.1
  have nope : ∀ s : Int32, F_X11_book h 0 x = some (uI h 0 10 s, -1) → (∀ h', Up h h' → F_X12_book h' 122 x = some (uI h' 122 1 s, -1)) → ∃ h1 h2 r, F_X11_book h 0 x = some (h1, r) ∧ F_X12_book h1 122 x = some (h2, r) ∧ Inv (q + 1) h2 := fun s a b => op_2 (f := fun h => F_X11_book h 0 x) (g := fun h => F_X12_book h 122 x) (s, -1) i a b
  by_cases x0 : x < 0
  · refine nope 1 ?_ (fun h' u => ?_)
    · unfold F_X11_book
      rw [if_pos x0]; rfl
    · unfold F_X12_book
      rw [if_pos x0]; rfl
  obtain ⟨n, hn, rfl⟩ := nI_of x0
  by_cases l : n ≤ N
  rotate_left
  · refine nope 1 ?_ (fun h' u => ?_)
    · unfold F_X11_book F_X11_refuse
      simp (disch := omega) only [↓m1_n, li_n, li_0, li_1, lt_y, lt_n, le_y, le_n, eq_n, nL, nLe, nEq, nEm, mEn, nLm, mLn, nLem, mLen, nI_add, nI_mul, nI_sub, nI_m, ib_nI, nx_nI, gd_y, bnd_e, bind_y, ↓reduceIte, hI_uI_o, hI_uI_s, hI_uI_e, hL_uI, hI_uL, hL_uL_o, hL_uL_s, hL_uL_e, and1_a, and1_b, Bool.not_true, Bool.not_false, Nat.zero_add, Nat.add_zero, Nat.add_sub_cancel, eq_self, ne_b, g0_0, g0_1, g0_2, g0_3, g0_4, g0_5, g0_6, g0_7, g0_8, g0_9, n1, n2, g3_2, g3_3, g3_4, g3_5, g3_6, g3_7, g3_8, g3_9, n4, n5, n6, n7, n8, n9, g10_2, g10_3, g10_4, g10_5, n11, n12, n13, n14, g15_2, g15_3, g15_4, g15_5, n16, n17, n18, n19, g40_0, g40_1, g40_2, g44_0, g44_2, g44_3, g44_5, g44_6, g44_10, g51_3, g51_4, g51_5, g51_6, g51_7, g57_3, g57_4, g57_5, g57_6, g57_7, n120, n121, g122_0, g122_4, g122_5, g122_6, g122_7, g122_8, g122_18, g122_19, g122_20, g122_21, g122_24, g122_25, g122_28, g122_29, g122_31, g122_32, g122_33, g122_39, g122_40, g122_41, g122_45, g122_46, g122_47, g122_48, n123, n124, n125, n126, n127, n128, n129, n130, n131, n132, n133, n134, n135, n136, n137, n138, n139, n140, n141, n142, n143, n144, n145, n146, n45, n46, n47, n48, n49, n50, decide_false, Bool.false_eq_true, n20, g21_0, g21_1, g21_2, g21_3, n23, g24_2, g24_3, g24_4, g24_5, n25, n26, n27, n28, n29, n30, g31_0, g31_1, g31_2, n33, g34_2, g34_3, g34_4, g34_5, n35, n36, n37, n38, n39, adC_o, adC_s, adC_L, adM_o, adM_s, adM_L, e13]
    · have e9' : hI h' 122 9 = nI N := by rw [(u 122 (by decide)).1]; exact e9
      unfold F_X12_book F_X12_refuse
      simp (disch := omega) only [↓m1_n, li_n, li_0, li_1, lt_y, lt_n, le_y, le_n, eq_n, nL, nLe, nEq, nEm, mEn, nLm, mLn, nLem, mLen, nI_add, nI_mul, nI_sub, nI_m, ib_nI, nx_nI, gd_y, bnd_e, bind_y, ↓reduceIte, hI_uI_o, hI_uI_s, hI_uI_e, hL_uI, hI_uL, hL_uL_o, hL_uL_s, hL_uL_e, and1_a, and1_b, Bool.not_true, Bool.not_false, Nat.zero_add, Nat.add_zero, Nat.add_sub_cancel, eq_self, ne_b, g0_0, g0_1, g0_2, g0_3, g0_4, g0_5, g0_6, g0_7, g0_8, g0_9, n1, n2, g3_2, g3_3, g3_4, g3_5, g3_6, g3_7, g3_8, g3_9, n4, n5, n6, n7, n8, n9, g10_2, g10_3, g10_4, g10_5, n11, n12, n13, n14, g15_2, g15_3, g15_4, g15_5, n16, n17, n18, n19, g40_0, g40_1, g40_2, g44_0, g44_2, g44_3, g44_5, g44_6, g44_10, g51_3, g51_4, g51_5, g51_6, g51_7, g57_3, g57_4, g57_5, g57_6, g57_7, n120, n121, g122_0, g122_4, g122_5, g122_6, g122_7, g122_8, g122_18, g122_19, g122_20, g122_21, g122_24, g122_25, g122_28, g122_29, g122_31, g122_32, g122_33, g122_39, g122_40, g122_41, g122_45, g122_46, g122_47, g122_48, n123, n124, n125, n126, n127, n128, n129, n130, n131, n132, n133, n134, n135, n136, n137, n138, n139, n140, n141, n142, n143, n144, n145, n146, n45, n46, n47, n48, n49, n50, decide_false, Bool.false_eq_true, n20, g21_0, g21_1, g21_2, g21_3, n23, g24_2, g24_3, g24_4, g24_5, n25, n26, n27, n28, n29, n30, g31_0, g31_1, g31_2, n33, g34_2, g34_3, g34_4, g34_5, n35, n36, n37, n38, n39, adC_o, adC_s, adC_L, adM_o, adM_s, adM_L, e9']
  clear nope
  obtain ⟨hcb, hhcb⟩ : ∃ hcb, hcb = uI h 0 13 (nI 0) := ⟨_, rfl⟩
  have txb : Tx hcb f n := ⟨by omega, fun k hk => ⟨(tp k (by omega)).1, by rw [hhcb, hI_uI_o (by decide)]; exact (tp k (by omega)).2.1⟩⟩
  obtain ⟨b1, b2, b3⟩ := c_begin (c := 22) (by decide) txb
  obtain ⟨hc0, hhc0⟩ : ∃ hc0, hc0 = uI (uI (uI (adC (bgC hcb 22 n) 22 f n 0) 24 0 (nI 0)) 24 1 (nI 0)) 21 4 (nI 0) := ⟨_, rfl⟩
  have fc0 : FcB hcb hc0 := by
    rw [hhc0]
    refine FcB.trans (b := bgC hcb 22 n) ⟨fun d hd => bgC_o (by omega), fun _ _ _ => rfl⟩ ?_
    exact (((FcB.ad (by decide)).trans (FcB.u (by decide))).trans (FcB.u (by decide))).trans (FcB.u (by decide))
  have PA : F_X1_parse hcb 21 2 (nI n) = (L_X1_parse_23 hc0 21 (nI 0)).bind (fun e3 => if (hI e3 22 5) = 0 then some ((e3, (1 : Int32))) else some ((e3, (0 : Int32)))) := by
    unfold F_X1_parse F_X0_makeEmpty
    rw [g21_0, g21_1, b1, Option.bind_some, Option.bind_some, hhc0]
    rfl
  have st : ∀ H, Up h H → ∃ hm0, BS hc0 hm0 f n 0 bkZ (fun _ => 0) (fun _ => 0) ∧ F_X12_book H 122 (nI n) = (L_X12_book_63 hm0 122 (if tK f n 0 = 0 then nI 0 else nI 1)).bind finB ∧ (∀ d, d ≠ 122 → d ≠ 123 → d ≠ 128 → hI hm0 d = hI H d) ∧ (∀ k, k < 9 ∨ 17 < k → hI hm0 122 k = hI h 122 k) ∧ hI hm0 122 9 = nI 0 ∧ (∀ k, k < 3200 → hI hm0 123 k = hI h 123 k) ∧ hL hm0 = hL H := by
    intro H u
    obtain ⟨hb, d1, d2, d3, d4, d5, d6, d7⟩ := m_begin (h := H) (n := n) (f := f) (by omega) (fun k hk => ⟨(tp k (by omega)).1, by rw [(u 127 (by decide)).1]; exact (tp k (by omega)).2.2⟩)
    have e9' : hI H 122 9 = nI N := by rw [(u 122 (by decide)).1]; exact e9
    obtain ⟨hz, hhz⟩ : ∃ hz, hz = uI (uI (uI hb 123 3202 (nI 0)) 123 3203 (nI 0)) 123 3204 (nI 0) := ⟨_, rfl⟩
    have HZ : uI (uI (uI (adM hb f n 0) 123 3202 (nI 0)) 123 3203 (nI 0)) 123 3204 (nI 0) = adM hz f n 0 := by rw [uI_adM (by decide), uI_adM (by decide), uI_adM (by decide), hhz]
    have mz : Mb hz f n := by rw [hhz]; exact ((d2.uI (by decide) (by decide)).uI (by decide) (by decide)).uI (by decide) (by decide)
    have tz := mz.rd (q := 0) (Nat.zero_le n)
    have kl := tK_le (f := f) (n := n) (p := 0)
    have mk0 := mk_1 kl
    refine ⟨adM hz f n 0, ⟨?_, ?_, ?_, ?_, ?_, tz, mz.e7, ?_, ?_, bkZ_ok, fun k hk => absurd hk (Nat.not_lt_zero k), fun k hk => absurd hk (Nat.not_lt_zero k)⟩, ?_, fun d x y z => ?_, fun k hk => ?_, ?_, fun k hk => ?_, ?_⟩
    · exact (b2.rd (q := 0) (Nat.zero_le n)).cg (by rw [hhc0, hI_uI_o (by decide), hI_uI_o (by decide), hI_uI_o (by decide)]) (by rw [hhc0]; rfl) (fun k _ _ => by rw [hhc0, hI_uI_o (by decide), hI_uI_o (by decide), hI_uI_o (by decide)])
    · rw [hhc0, hI_uI_o (by decide), hI_uI_o (by decide), hI_uI_o (by decide)]; exact b2.e5
    · rw [hhc0, hI_uI_o (by decide), hI_uI_o (by decide), hI_uI_o (by decide), adC_s (by decide) (by decide) (by decide)]; exact b3
    · exact ⟨by rw [hhc0, hI_uI_o (by decide), hI_uI_s (by decide), hI_uI_e]; rfl, by rw [hhc0, hI_uI_o (by decide), hI_uI_e]; rfl, fun k hk => absurd hk (Nat.not_lt_zero k), fun k hk => absurd hk (Nat.not_lt_zero k)⟩
    · rw [hhc0, hI_uI_e]; rfl
    · rw [adM_s (by decide) (by decide) (by decide) (by decide), hhz, hI_uI_o (by decide), hI_uI_o (by decide), hI_uI_o (by decide)]; exact d3
    · exact ⟨by rw [adM_o (by decide), hhz, hI_uI_s (by decide), hI_uI_s (by decide), hI_uI_e]; rfl, by rw [adM_o (by decide), hhz, hI_uI_s (by decide), hI_uI_e]; rfl, by rw [adM_o (by decide), hhz, hI_uI_e]; rfl, fun k hk => absurd hk (Nat.not_lt_zero k), fun k hk => absurd hk (Nat.not_lt_zero k), fun k hk => absurd hk (Nat.not_lt_zero k)⟩
    · unfold F_X12_book
      have e11 := tz.2.2.1
      have nn : ¬ nI n < (0 : Int32) := x0
      by_cases y : tK f n 0 = 0
      · rw [y, show mkT 0 = 0 from rfl] at e11
        rw [if_pos y, if_neg nn, e9', if_pos ((nI_leI hn (by omega)).mpr l), d1, Option.bind_some, g122_0, n123, gd_on (by decide), gd_on (by decide), gd_on (by decide), bnd_e]
        have HZ' : uI (uI (uI (adM hb f n 0) 123 (nx 3202) 0) 123 (nx 3203) 0) 123 (nx 3204) 0 = adM hz f n 0 := HZ
        rw [HZ', e11, if_pos (show nI 0 = 0 from rfl)]
        rfl
      · have y' : ¬ nI (mkT (tK f n 0)) = 0 := fun e => y (mk0.2.2.2.2.1.mp ((nI_eq (by omega) (by decide)).mp e))
        rw [if_neg y, if_neg nn, e9', if_pos ((nI_leI hn (by omega)).mpr l), d1, Option.bind_some, g122_0, n123, gd_on (by decide), gd_on (by decide), gd_on (by decide), bnd_e]
        have HZ' : uI (uI (uI (adM hb f n 0) 123 (nx 3202) 0) 123 (nx 3203) 0) 123 (nx 3204) 0 = adM hz f n 0 := HZ
        rw [HZ', e11, if_neg y']
        rfl
    · rw [adM_o x, hhz, hI_uI_o y, hI_uI_o y, hI_uI_o y, d5 d x z]
    · rw [adM_s (by omega) (by omega) (by omega) (by omega), hhz, hI_uI_o (by decide), hI_uI_o (by decide), hI_uI_o (by decide), d6 k (by omega), (u 122 (by decide)).1]
    · rw [adM_s (by decide) (by decide) (by decide) (by decide), hhz, hI_uI_o (by decide), hI_uI_o (by decide), hI_uI_o (by decide)]; exact d4
    · rw [adM_o (by decide), hhz, hI_uI_s (by omega), hI_uI_s (by omega), hI_uI_s (by omega), d5 123 (by decide) (by decide), (u 123 (by decide)).1]
    · rw [hhz]; exact d7
  obtain ⟨hmA, sA, -⟩ := st h Up.rf
  obtain ⟨hc1, hmQ, PL, -, fc1, -, dA⟩ := loop_x n hc0 hmA 0 bkZ _ _ 0 (by omega) (Nat.le_refl _) sA
  have fc : FcB hcb hc1 := fc0.trans fc1
  have EC : ∀ d, d < 21 ∨ 39 < d → d ≠ 0 → hI hc1 d = hI h d := fun d a b => by rw [fc.1 d a, hhcb, hI_uI_o b]
  have E0 : ∀ k, k ≠ 13 → hI hc1 0 k = hI h 0 k := fun k a => by rw [fc.1 0 (by decide), hhcb, hI_uI_s a]
  have E13 : hI hc1 0 13 = nI 0 := by rw [fc.1 0 (by decide), hhcb, hI_uI_e]
  have LC : ∀ d, d ≠ 29 → d ≠ 30 → hL hc1 d = hL h d := fun d a b => by rw [fc.2 d a b, hhcb, hL_uI]
  -- the second run, from any heap that the component leaves
  have ref : ∀ H, Up hc1 H → ∃ hm1, F_X12_book H 122 (nI n) = finB hm1 ∧ (∀ d, d ≠ 122 → d ≠ 123 → d ≠ 128 → d ≠ 131 → hI hm1 d = hI H d) ∧ (∀ k, k < 9 ∨ 26 ≤ k → hI hm1 122 k = hI h 122 k) ∧ hI hm1 122 9 = nI 0 ∧ (∀ k, k < 3200 → hI hm1 123 k = hI h 123 k) ∧ (∀ d, d ≠ 129 → d ≠ 130 → hL hm1 d = hL H d) ∧ (FltB 22 hc1 hm1 ∨ ∃ p' B' C' M', BS hc1 hm1 f n p' B' C' M') := by
    intro H u
    have u' : Up h H := fun d hd => ⟨(u d hd).1.trans (EC d (by omega) (by omega)), (u d hd).2.trans (LC d (by omega) (by omega))⟩
    obtain ⟨hm0, s0, g1, g2, g3, g4, g5, g6⟩ := st H u'
    obtain ⟨hc2, hm1, PL2, ML, -, fm, dB⟩ := loop_x n hc0 hm0 0 bkZ _ _ 0 (by omega) (Nat.le_refl _) s0
    have ec : hc2 = hc1 := by rw [PL] at PL2; exact (Option.some.inj PL2).symm
    subst ec
    exact ⟨hm1, by rw [g1, ML, Option.bind_some], fun d a b c e => by rw [fm.1 d a b c e, g2 d a b c], fun k hk => by rw [fm.2.1 k (by omega), g3 k (by omega)], by rw [fm.2.1 9 (by decide)]; exact g4, fun k hk => by rw [fm.2.2.1 k hk, g5 k hk], fun d a b => by rw [fm.2.2.2 d a b, g6], dB⟩
  rcases dA with ⟨k, s, z1, z2, z3, z4, -, -⟩ | ⟨pA, BA, CA, MA, sB⟩
  · -- a fault
    obtain ⟨hf, hhf⟩ : ∃ hf, hf = uI (uI (uI hc1 0 15 (nI k)) 0 16 (nI s)) 0 10 (nI 9) := ⟨_, rfl⟩
    have uf : Up hc1 hf := fun d hd => ⟨by rw [hhf, hI_uI_o (by omega), hI_uI_o (by omega), hI_uI_o (by omega)], by rw [hhf]; rfl⟩
    obtain ⟨hm1, y1, y2, y3, y4, y5, y6, y7⟩ := ref hf uf
    rcases y7 with ⟨k', s', w1, w2, w3, w4, w5, w6⟩ | ⟨p', B', C', M', sC⟩
    · have ek : k' = k := by rw [z3] at w3; exact ((nI_eq (by omega) (by omega)).mp w3).symm
      subst ek
      have es : hI hm1 122 16 = nI s := by rw [w6, ← w4, z4]
      refine ⟨hf, uI (uI hm1 122 15 (nI k')) 122 1 (nI 9), mN, ?_, ?_, ?_⟩
      · unfold F_X11_book F_X11_keepFault F_X11_refuse
        have z3' : ¬ hI hc1 22 5 = 0 := by rw [z3]; exact fun e => absurd ((nI_eq (a := k') (b := 0) (by omega) (by decide)).mp e) (by omega)
        have PA' : F_X1_parse hcb 21 2 (nI n) = some (hc1, nI 0) := by
          rw [PA, PL, Option.bind_some, if_neg z3']
          rfl
        rw [hhf]
        simp (disch := omega) only [↓m1_n, li_n, li_0, li_1, lt_y, lt_n, le_y, le_n, eq_n, nL, nLe, nEq, nEm, mEn, nLm, mLn, nLem, mLen, nI_add, nI_mul, nI_sub, nI_m, ib_nI, nx_nI, gd_y, bnd_e, bind_y, ↓reduceIte, hI_uI_o, hI_uI_s, hI_uI_e, hL_uI, hI_uL, hL_uL_o, hL_uL_s, hL_uL_e, and1_a, and1_b, Bool.not_true, Bool.not_false, Nat.zero_add, Nat.add_zero, Nat.add_sub_cancel, eq_self, ne_b, g0_0, g0_1, g0_2, g0_3, g0_4, g0_5, g0_6, g0_7, g0_8, g0_9, n1, n2, g3_2, g3_3, g3_4, g3_5, g3_6, g3_7, g3_8, g3_9, n4, n5, n6, n7, n8, n9, g10_2, g10_3, g10_4, g10_5, n11, n12, n13, n14, g15_2, g15_3, g15_4, g15_5, n16, n17, n18, n19, g40_0, g40_1, g40_2, g44_0, g44_2, g44_3, g44_5, g44_6, g44_10, g51_3, g51_4, g51_5, g51_6, g51_7, g57_3, g57_4, g57_5, g57_6, g57_7, n120, n121, g122_0, g122_4, g122_5, g122_6, g122_7, g122_8, g122_18, g122_19, g122_20, g122_21, g122_24, g122_25, g122_28, g122_29, g122_31, g122_32, g122_33, g122_39, g122_40, g122_41, g122_45, g122_46, g122_47, g122_48, n123, n124, n125, n126, n127, n128, n129, n130, n131, n132, n133, n134, n135, n136, n137, n138, n139, n140, n141, n142, n143, n144, n145, n146, n45, n46, n47, n48, n49, n50, decide_false, Bool.false_eq_true, n20, g21_0, g21_1, g21_2, g21_3, n23, g24_2, g24_3, g24_4, g24_5, n25, n26, n27, n28, n29, n30, g31_0, g31_1, g31_2, n33, g34_2, g34_3, g34_4, g34_5, n35, n36, n37, n38, n39, adC_o, adC_s, adC_L, adM_o, adM_s, adM_L, e13, ← hhcb, PA', z3, z4]
      · rw [y1]
        unfold finB F_X12_refuse
        simp (disch := omega) only [↓m1_n, li_n, li_0, li_1, lt_y, lt_n, le_y, le_n, eq_n, nL, nLe, nEq, nEm, mEn, nLm, mLn, nLem, mLen, nI_add, nI_mul, nI_sub, nI_m, ib_nI, nx_nI, gd_y, bnd_e, bind_y, ↓reduceIte, hI_uI_o, hI_uI_s, hI_uI_e, hL_uI, hI_uL, hL_uL_o, hL_uL_s, hL_uL_e, and1_a, and1_b, Bool.not_true, Bool.not_false, Nat.zero_add, Nat.add_zero, Nat.add_sub_cancel, eq_self, ne_b, g0_0, g0_1, g0_2, g0_3, g0_4, g0_5, g0_6, g0_7, g0_8, g0_9, n1, n2, g3_2, g3_3, g3_4, g3_5, g3_6, g3_7, g3_8, g3_9, n4, n5, n6, n7, n8, n9, g10_2, g10_3, g10_4, g10_5, n11, n12, n13, n14, g15_2, g15_3, g15_4, g15_5, n16, n17, n18, n19, g40_0, g40_1, g40_2, g44_0, g44_2, g44_3, g44_5, g44_6, g44_10, g51_3, g51_4, g51_5, g51_6, g51_7, g57_3, g57_4, g57_5, g57_6, g57_7, n120, n121, g122_0, g122_4, g122_5, g122_6, g122_7, g122_8, g122_18, g122_19, g122_20, g122_21, g122_24, g122_25, g122_28, g122_29, g122_31, g122_32, g122_33, g122_39, g122_40, g122_41, g122_45, g122_46, g122_47, g122_48, n123, n124, n125, n126, n127, n128, n129, n130, n131, n132, n133, n134, n135, n136, n137, n138, n139, n140, n141, n142, n143, n144, n145, n146, n45, n46, n47, n48, n49, n50, decide_false, Bool.false_eq_true, n20, g21_0, g21_1, g21_2, g21_3, n23, g24_2, g24_3, g24_4, g24_5, n25, n26, n27, n28, n29, n30, g31_0, g31_1, g31_2, n33, g34_2, g34_3, g34_4, g34_5, n35, n36, n37, n38, n39, adC_o, adC_s, adC_L, adM_o, adM_s, adM_L, w5]
      · have q0 : ∀ d, d ≠ 122 → hI (uI (uI hm1 122 15 (nI k')) 122 1 (nI 9)) d = hI hm1 d := fun d a => by rw [hI_uI_o a, hI_uI_o a]
        have qc : ∀ d, d ≠ 0 → d ≠ 122 → d ≠ 123 → d ≠ 128 → d ≠ 131 → (d < 21 ∨ 39 < d) → hI (uI (uI hm1 122 15 (nI k')) 122 1 (nI 9)) d = hI h d := fun d a0 a1 a2 a3 a4 a5 => by
          rw [q0 d a1, y2 d a1 a2 a3 a4, hhf, hI_uI_o a0, hI_uI_o a0, hI_uI_o a0, EC d a5 a0]
        have qz : hI (uI (uI hm1 122 15 (nI k')) 122 1 (nI 9)) 0 = hI hf 0 := by rw [q0 0 (by decide), y2 0 (by decide) (by decide) (by decide) (by decide)]
        refine Inv_rd (fun d hd => qc d (by omega) (by omega) (by omega) (by omega) (by omega) (by omega)) (fun d a b c e => ?_) (fun k hk => ?_) ?_ ?_ ?_ ?_ ?_ ?_ i
        · rw [hL_uI, hL_uI, y6 d c e, hhf, hL_uI, hL_uI, hL_uI, LC d a b]
        · rw [hI_uI_s (by omega), hI_uI_s (by omega), y3 k (by omega)]
        · refine Iho_set (h := h) ok.mono (RcH_congr (fun d a b => qc d (by omega) (by omega) (by omega) (by omega) (by omega) (by omega)) rc) (RmH_range ok (fun k a b => by rw [q0 123 (by decide), y5 k (by omega)]) rm) hm ?_ ?_ mk (fun d a b => qc d (by omega) (by omega) (by omega) (by omega) (by omega) (by omega)) (fun k a b => by rw [q0 123 (by decide), y5 k b])
          · rw [qz, hhf, hI_uI_s (by decide), hI_uI_s (by decide), hI_uI_s (by decide), E0 14 (by decide)]; exact m1
          · rw [hI_uI_s (by decide), hI_uI_s (by decide), y3 51 (by decide)]; exact m2
        · rw [qz, hhf, hI_uI_s (by decide), hI_uI_s (by decide), hI_uI_s (by decide)]; exact E13
        · rw [hI_uI_s (by decide), hI_uI_s (by decide)]; exact y4
        · rw [qz, hI_uI_e, hhf, hI_uI_e]
        · rw [qz, hI_uI_s (by decide), hI_uI_e, hhf, hI_uI_s (by decide), hI_uI_s (by decide), hI_uI_e]
        · rw [qz, hI_uI_s (by decide), hI_uI_s (by decide), es, hhf, hI_uI_s (by decide), hI_uI_e]
    · exfalso
      have := sC.2.1
      rw [z3] at this
      have := (nI_eq (by omega) (by decide)).mp this
      omega
  · -- a book
    have z5 := sB.2.1
    have z6 := sB.2.2.1
    obtain ⟨hk, hhk⟩ : ∃ hk, hk = uI (uI hc1 0 15 (nI 0)) 0 16 mN := ⟨_, rfl⟩
    obtain ⟨h4, a1, a2, a3, a4, a5, a6, a7, a8⟩ := c_copyBook (h := hk) (a := 10) (b := 24) Hs3.2.1 Bs24 (by decide)
    obtain ⟨hf, hhf⟩ : ∃ hf, hf = uI h4 0 10 (nI 0) := ⟨_, rfl⟩
    have kc : ∀ d, d ≠ 0 → hI hk d = hI hc1 d := fun d a => by rw [hhk, hI_uI_o a, hI_uI_o a]
    have fk : ∀ d, d ≠ 0 → (d < 10 ∨ 14 < d) → hI hf d = hI hc1 d := fun d a b => by rw [hhf, hI_uI_o a, a2 d (by omega), kc d a]
    have uf : Up hc1 hf := fun d hd => ⟨fk d (by omega) (by omega), by rw [hhf, hL_uI, a3, hhk]; rfl⟩
    obtain ⟨hm1, y1, y2, y3, y4, y5, y6, y7⟩ := ref hf uf
    rcases y7 with ⟨k', s', w1, w2, w3, w4, w5, w6⟩ | ⟨p', B', C', M', sC⟩
    · exfalso
      rw [z5] at w3
      have := (nI_eq (by decide) (by omega)).mp w3
      omega
    · obtain ⟨rd, f5, f6, rcB, j4, rdm, g17, g16, rmB, okB, nC, nM⟩ := sC
      obtain ⟨h5, c1, c2, c3, c4, c5⟩ := m_cp1 (h := uI hm1 122 15 (nI 0))
      obtain ⟨h6, d1, d2, d3, d4, d5⟩ := m_cp2 (h := h5)
      have r3 : hI h6 123 3 = nI (bM B') := by
        rw [d5 3 (by omega), c4 3 (by omega) (by omega), hI_uI_o (by decide)]
        exact rmB.2.1
      have r3' : hI h4 10 1 = nI (bM B') := by
        rw [a4 1 (by decide), kc 24 (by decide)]
        exact rcB.2.1
      refine ⟨hf, uI h6 122 1 (nI 0), nI (bM B'), ?_, ?_, ?_⟩
      · unfold F_X11_book F_X11_keepFault F_X11_answer
        have PA' : F_X1_parse hcb 21 2 (nI n) = some (hc1, nI 1) := by
          rw [PA, PL, Option.bind_some, z5]
          rfl
        simp (disch := omega) only [↓m1_n, li_n, li_0, li_1, lt_y, lt_n, le_y, le_n, eq_n, nL, nLe, nEq, nEm, mEn, nLm, mLn, nLem, mLen, nI_add, nI_mul, nI_sub, nI_m, ib_nI, nx_nI, gd_y, bnd_e, bind_y, ↓reduceIte, hI_uI_o, hI_uI_s, hI_uI_e, hL_uI, hI_uL, hL_uL_o, hL_uL_s, hL_uL_e, and1_a, and1_b, Bool.not_true, Bool.not_false, Nat.zero_add, Nat.add_zero, Nat.add_sub_cancel, eq_self, ne_b, g0_0, g0_1, g0_2, g0_3, g0_4, g0_5, g0_6, g0_7, g0_8, g0_9, n1, n2, g3_2, g3_3, g3_4, g3_5, g3_6, g3_7, g3_8, g3_9, n4, n5, n6, n7, n8, n9, g10_2, g10_3, g10_4, g10_5, n11, n12, n13, n14, g15_2, g15_3, g15_4, g15_5, n16, n17, n18, n19, g40_0, g40_1, g40_2, g44_0, g44_2, g44_3, g44_5, g44_6, g44_10, g51_3, g51_4, g51_5, g51_6, g51_7, g57_3, g57_4, g57_5, g57_6, g57_7, n120, n121, g122_0, g122_4, g122_5, g122_6, g122_7, g122_8, g122_18, g122_19, g122_20, g122_21, g122_24, g122_25, g122_28, g122_29, g122_31, g122_32, g122_33, g122_39, g122_40, g122_41, g122_45, g122_46, g122_47, g122_48, n123, n124, n125, n126, n127, n128, n129, n130, n131, n132, n133, n134, n135, n136, n137, n138, n139, n140, n141, n142, n143, n144, n145, n146, n45, n46, n47, n48, n49, n50, decide_false, Bool.false_eq_true, n20, g21_0, g21_1, g21_2, g21_3, n23, g24_2, g24_3, g24_4, g24_5, n25, n26, n27, n28, n29, n30, g31_0, g31_1, g31_2, n33, g34_2, g34_3, g34_4, g34_5, n35, n36, n37, n38, n39, adC_o, adC_s, adC_L, adM_o, adM_s, adM_L, e13, ← hhcb, PA', z5, z6, ← hhk, a1, r3', hhf]
      · rw [y1]
        unfold finB
        have c1' : L_X12_book_114 (uI hm1 122 15 (nI 0)) 122 2 = some h5 := c1
        have d1' : L_X12_book_145 h5 122 368 = some (uI h6 122 1 (nI 0), nI (bM B')) := by rw [← r3]; exact d1
        rw [g17, hI_uI_s (by decide), g17, if_pos (by decide), c1', Option.bind_some, d1']
      · have q0 : ∀ d, d ≠ 122 → d ≠ 123 → hI (uI h6 122 1 (nI 0)) d = hI hm1 d := fun d a b => by rw [hI_uI_o a, d2 d b, c2 d b, hI_uI_o a]
        have q3 : hI (uI h6 122 1 (nI 0)) 123 = hI h6 123 := by rw [hI_uI_o (by decide)]
        have q2 : ∀ k, k ≠ 1 → k ≠ 15 → hI (uI h6 122 1 (nI 0)) 122 k = hI hm1 122 k := fun k a b => by rw [hI_uI_s a, d2 122 (by decide), c2 122 (by decide), hI_uI_s b]
        have qf : ∀ d, d ≠ 122 → d ≠ 123 → d ≠ 128 → d ≠ 131 → hI (uI h6 122 1 (nI 0)) d = hI hf d := fun d a b c e => by rw [q0 d a b, y2 d a b c e]
        have qc : ∀ d, d ≠ 0 → d ≠ 122 → d ≠ 123 → d ≠ 128 → d ≠ 131 → (d < 21 ∨ 39 < d) → (d < 10 ∨ 14 < d) → hI (uI h6 122 1 (nI 0)) d = hI h d := fun d a0 a1 a2 a3 a4 a5 a6 => by rw [qf d a1 a2 a3 a4, fk d a0 a6, EC d a5 a0]
        have qz : ∀ k, hI (uI h6 122 1 (nI 0)) 0 k = hI hf 0 k := fun k => by rw [qf 0 (by decide) (by decide) (by decide) (by decide)]
        have h40 : hI h4 0 = hI hk 0 := a2 0 (by decide)
        have low : ∀ k, (k < 2 ∨ 5 ≤ k) → (k < 368 ∨ 436 ≤ k) → k < 3200 → hI h6 123 k = hI h 123 k := fun k a b c => by rw [d5 k b, c5 k a, hI_uI_o (by decide), y5 k c]
        have okA : HoOk (q + 1) (setB A B') := by
          obtain ⟨o1, o2, o3, o4, o5⟩ := ok.mono
          exact ⟨o1, o2, o3, okB, o5⟩
        have rc1 : RcH (uI h6 122 1 (nI 0)) 3 (setB A B') := by
          refine ⟨⟨?_, ?_, fun i hi => ?_⟩, ?_, ?_⟩
          · rw [qc 3 (by decide) (by decide) (by decide) (by decide) (by decide) (by decide) (by decide)]; exact rc.1.1
          · rw [qc 3 (by decide) (by decide) (by decide) (by decide) (by decide) (by decide) (by decide)]; exact rc.1.2.1
          · rw [qc (3 + 1) (by decide) (by decide) (by decide) (by decide) (by decide) (by decide) (by decide), qc (3 + 2) (by decide) (by decide) (by decide) (by decide) (by decide) (by decide) (by decide), qc (3 + 3) (by decide) (by decide) (by decide) (by decide) (by decide) (by decide) (by decide), qc (3 + 4) (by decide) (by decide) (by decide) (by decide) (by decide) (by decide) (by decide), qc (3 + 5) (by decide) (by decide) (by decide) (by decide) (by decide) (by decide) (by decide), qc (3 + 6) (by decide) (by decide) (by decide) (by decide) (by decide) (by decide) (by decide)]
            exact rc.1.2.2 i hi
          · have e4 : ∀ d, 10 ≤ d → d ≤ 14 → hI (uI h6 122 1 (nI 0)) d = hI h4 d := fun d x y => by rw [qf d (by omega) (by omega) (by omega) (by omega), hhf, hI_uI_o (by omega)]
            refine RcB_cp (h := hc1) (a := 3 + 7) (b := 24) okB (fun k hk => ?_) (fun k hk => ?_) (fun k hk => ?_) (fun k hk => ?_) (fun k hk => ?_) rcB
            · rw [e4 (3 + 7) (by decide) (by decide), a4 k hk, kc 24 (by decide)]
            · rw [e4 (3 + 7 + 1) (by decide) (by decide), a5 k hk, kc (24 + 1) (by decide)]
            · rw [e4 (3 + 7 + 2) (by decide) (by decide), a6 k hk, kc (24 + 2) (by decide)]
            · rw [e4 (3 + 7 + 3) (by decide) (by decide), a7 k hk, kc (24 + 3) (by decide)]
            · rw [e4 (3 + 7 + 4) (by decide) (by decide), a8 k hk, kc (24 + 4) (by decide)]
          · exact RcS_congr (fun d x y => qc d (by omega) (by omega) (by omega) (by omega) (by omega) (by omega) (by omega)) rc.2.2
        have rm1 : RmH (uI h6 122 1 (nI 0)) 0 (setB A B') := by
          refine ⟨⟨?_, ?_, fun i hi => ?_⟩, ?_, ?_⟩
          · rw [q3, low 0 (by omega) (by omega) (by omega)]; exact rm.1.1
          · rw [q3, low _ (by omega) (by omega) (by omega)]; exact rm.1.2.1
          · have hi : i < oN A := hi
            have hA := ok.1
            have z := rm.1.2.2 i hi
            rw [q3]
            refine ⟨fun k hk => ?_, ?_, ?_, ?_, ?_⟩
            · rw [low _ (by omega) (by omega) (by omega)]; exact z.1 k hk
            · rw [low _ (by omega) (by omega) (by omega)]; exact z.2.1
            · rw [low _ (by omega) (by omega) (by omega)]; exact z.2.2.1
            · rw [low _ (by omega) (by omega) (by omega)]; exact z.2.2.2.1
            · rw [low _ (by omega) (by omega) (by omega)]; exact z.2.2.2.2
          · show RmB _ 0 B'
            unfold RmB
            rw [q3]
            have lo : ∀ k, 2 ≤ k → k < 5 → hI h6 123 (0 + k) = hI hm1 123 (3200 + k) := fun k a b => by rw [Nat.zero_add, d5 k (by omega), c4 k a b, hI_uI_o (by decide)]
            have hi : ∀ k, 368 ≤ k → k < 436 → hI h6 123 k = hI hm1 123 (3200 + k) := fun k a b => by rw [d4 k a b, c5 _ (by omega), hI_uI_o (by decide)]
            obtain ⟨o1, o2, o3, -⟩ := okB
            refine ⟨by rw [lo 2 (by omega) (by omega)]; exact rmB.1, by rw [lo 3 (by omega) (by omega)]; exact rmB.2.1, by rw [lo 4 (by omega) (by omega)]; exact rmB.2.2.1, fun k hk => ?_, fun m hm' => ?_, fun k hk => ?_⟩
            · rw [hi _ (by omega) (by omega), show 3200 + (0 + 368 + k) = 3200 + 368 + k by omega]; exact rmB.2.2.2.1 k hk
            · rw [hi _ (by omega) (by omega), hi _ (by omega) (by omega), show 3200 + (0 + 372 + 2 * m) = 3200 + 372 + 2 * m by omega, show 3200 + (0 + 373 + 2 * m) = 3200 + 373 + 2 * m by omega]; exact rmB.2.2.2.2.1 m hm'
            · rw [hi _ (by omega) (by omega), hi _ (by omega) (by omega), show 3200 + (0 + 412 + 2 * k) = 3200 + 412 + 2 * k by omega, show 3200 + (0 + 413 + 2 * k) = 3200 + 413 + 2 * k by omega]; exact rmB.2.2.2.2.2 k hk
          · exact RmS_range (h := h) ok.2.2.2.2 (fun k a => by rw [q3, low k (by omega) (by omega) (by omega)]) rm.2.2
        refine Inv_rd (fun d hd => qc d (by omega) (by omega) (by omega) (by omega) (by omega) (by omega) (by omega)) (fun d a b c e => ?_) (fun k hk => ?_) ?_ ?_ ?_ ?_ ?_ ?_ i
        · rw [hL_uI, d3, c3, hL_uI, y6 d c e, hhf, hL_uI, a3, hhk, hL_uI, hL_uI, LC d a b]
        · rw [q2 k (by omega) (by omega), y3 k (by omega)]
        · refine Iho_set (h := h) okA rc1 rm1 hm ?_ ?_ mk (fun d a b => qc d (by omega) (by omega) (by omega) (by omega) (by omega) (by omega) (by omega)) (fun k a b => by rw [q3, low k (by omega) (by omega) b])
          · rw [qz, hhf, hI_uI_s (by decide), h40, hhk, hI_uI_s (by decide), hI_uI_s (by decide), E0 14 (by decide)]; exact m1
          · rw [q2 51 (by decide) (by decide), y3 51 (by decide)]; exact m2
        · rw [qz, hhf, hI_uI_s (by decide), h40, hhk, hI_uI_s (by decide), hI_uI_s (by decide)]; exact E13
        · rw [q2 9 (by decide) (by decide)]; exact y4
        · rw [qz, hI_uI_e, hhf, hI_uI_e]
        · rw [qz, hI_uI_s (by decide), d2 122 (by decide), c2 122 (by decide), hI_uI_e, hhf, hI_uI_s (by decide), h40, hhk, hI_uI_s (by decide), hI_uI_e]
        · rw [qz, q2 16 (by decide) (by decide), g16, hhf, hI_uI_s (by decide), h40, hhk, hI_uI_e]
