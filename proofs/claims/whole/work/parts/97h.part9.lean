/-! ===== parts: the reference's ways ===== -/
theorem m_149 {h : Hp} {c cd k x y d l : Nat} {K x1 x2 x3 : Int32} {b : Bool} {lt : Nat → Nat → Bool} (oc : F_X12_ofCard h 122 (nI cd) (nI 9) = some K) (hb : (b = true) = ((K = mN ∨ K = nI d) ∧ (nI cd = x1 → x2 = nI d))) (hc : c < 31) (hl : l < 31) (l0 : l = 0 → lt l c = true) (sr : l ≠ 0 → (hI h 143 c ≤ hI h 143 l) = (lt l c = false)) : J_X12_waysOf_149 h 122 x1 x2 x3 (nI c) (nI cd) (nI k) (nI x) (nI y) (nI d) (nI l) = if b = true ∧ lt l c = true then J_X12_waysOf_222 h 122 x1 x2 x3 (nI c) (nI cd) (nI k) (nI x) (nI y) (nI d) else some (.inl (h, nI d + 1)) := by
  have no : J_X12_waysOf_192 h 122 x1 x2 x3 (nI c) (nI cd) (nI k) (nI x) (nI y) (nI d) (nI l) = some (.inl (h, nI d + 1)) := by
    unfold J_X12_waysOf_192 J_X12_waysOf_193
    rw [if_pos rfl]
  have yes : J_X12_waysOf_188 h 122 x1 x2 x3 (nI c) (nI cd) (nI k) (nI x) (nI y) (nI d) (nI l) = if lt l c = true then J_X12_waysOf_222 h 122 x1 x2 x3 (nI c) (nI cd) (nI k) (nI x) (nI y) (nI d) else some (.inl (h, nI d + 1)) := by
    unfold J_X12_waysOf_188 J_X12_waysOf_193
    by_cases e : l = 0
    · rw [if_pos (l0 e)]
      subst e
      simp (disch := omega) only [↓m1_n, li_n, li_0, li_1, lt_y, lt_n, le_y, le_n, eq_n, nL, nLe, nEq, nEm, mEn, nLm, mLn, nLem, mLen, nI_add, nI_mul, nI_sub, nI_m, ib_nI, nx_nI, gd_y, bnd_e, bind_y, ↓reduceIte, hI_uI_o, hI_uI_s, hI_uI_e, hL_uI, hI_uL, hL_uL_o, hL_uL_s, hL_uL_e, and1_a, and1_b, Bool.not_true, Bool.not_false, Nat.zero_add, Nat.add_zero, Nat.add_sub_cancel, eq_self, ne_b, g0_0, g0_1, g0_2, g0_3, g0_4, g0_5, g0_6, g0_7, g0_8, g0_9, n1, n2, g3_2, g3_3, g3_4, g3_5, g3_6, g3_7, g3_8, g3_9, n4, n5, n6, n7, n8, n9, g10_2, g10_3, g10_4, g10_5, n11, n12, n13, n14, g15_2, g15_3, g15_4, g15_5, n16, n17, n18, n19, g40_0, g40_1, g40_2, g44_0, g44_2, g44_3, g44_5, g44_6, g44_10, g51_3, g51_4, g51_5, g51_6, g51_7, g57_3, g57_4, g57_5, g57_6, g57_7, n120, n121, g122_0, g122_4, g122_5, g122_6, g122_7, g122_8, g122_18, g122_19, g122_20, g122_21, g122_24, g122_25, g122_28, g122_29, g122_31, g122_32, g122_33, g122_39, g122_40, g122_41, g122_45, g122_46, g122_47, g122_48, n123, n124, n125, n126, n127, n128, n129, n130, n131, n132, n133, n134, n135, n136, n137, n138, n139, n140, n141, n142, n143, n144, n145, n146]
    · have s := sr e
      by_cases q : lt l c = true
      · rw [if_pos q]
        rw [q] at s
        simp (disch := omega) only [↓m1_n, li_n, li_0, li_1, lt_y, lt_n, le_y, le_n, eq_n, nL, nLe, nEq, nEm, mEn, nLm, mLn, nLem, mLen, nI_add, nI_mul, nI_sub, nI_m, ib_nI, nx_nI, gd_y, bnd_e, bind_y, ↓reduceIte, hI_uI_o, hI_uI_s, hI_uI_e, hL_uI, hI_uL, hL_uL_o, hL_uL_s, hL_uL_e, and1_a, and1_b, Bool.not_true, Bool.not_false, Nat.zero_add, Nat.add_zero, Nat.add_sub_cancel, eq_self, ne_b, g0_0, g0_1, g0_2, g0_3, g0_4, g0_5, g0_6, g0_7, g0_8, g0_9, n1, n2, g3_2, g3_3, g3_4, g3_5, g3_6, g3_7, g3_8, g3_9, n4, n5, n6, n7, n8, n9, g10_2, g10_3, g10_4, g10_5, n11, n12, n13, n14, g15_2, g15_3, g15_4, g15_5, n16, n17, n18, n19, g40_0, g40_1, g40_2, g44_0, g44_2, g44_3, g44_5, g44_6, g44_10, g51_3, g51_4, g51_5, g51_6, g51_7, g57_3, g57_4, g57_5, g57_6, g57_7, n120, n121, g122_0, g122_4, g122_5, g122_6, g122_7, g122_8, g122_18, g122_19, g122_20, g122_21, g122_24, g122_25, g122_28, g122_29, g122_31, g122_32, g122_33, g122_39, g122_40, g122_41, g122_45, g122_46, g122_47, g122_48, n123, n124, n125, n126, n127, n128, n129, n130, n131, n132, n133, n134, n135, n136, n137, n138, n139, n140, n141, n142, n143, n144, n145, n146, n143, e, s, Bool.true_eq_false]
      · rw [if_neg q]
        have q : lt l c = false := by cases z : lt l c with
          | false => rfl
          | true => exact absurd z q
        rw [q] at s
        simp (disch := omega) only [↓m1_n, li_n, li_0, li_1, lt_y, lt_n, le_y, le_n, eq_n, nL, nLe, nEq, nEm, mEn, nLm, mLn, nLem, mLen, nI_add, nI_mul, nI_sub, nI_m, ib_nI, nx_nI, gd_y, bnd_e, bind_y, ↓reduceIte, hI_uI_o, hI_uI_s, hI_uI_e, hL_uI, hI_uL, hL_uL_o, hL_uL_s, hL_uL_e, and1_a, and1_b, Bool.not_true, Bool.not_false, Nat.zero_add, Nat.add_zero, Nat.add_sub_cancel, eq_self, ne_b, g0_0, g0_1, g0_2, g0_3, g0_4, g0_5, g0_6, g0_7, g0_8, g0_9, n1, n2, g3_2, g3_3, g3_4, g3_5, g3_6, g3_7, g3_8, g3_9, n4, n5, n6, n7, n8, n9, g10_2, g10_3, g10_4, g10_5, n11, n12, n13, n14, g15_2, g15_3, g15_4, g15_5, n16, n17, n18, n19, g40_0, g40_1, g40_2, g44_0, g44_2, g44_3, g44_5, g44_6, g44_10, g51_3, g51_4, g51_5, g51_6, g51_7, g57_3, g57_4, g57_5, g57_6, g57_7, n120, n121, g122_0, g122_4, g122_5, g122_6, g122_7, g122_8, g122_18, g122_19, g122_20, g122_21, g122_24, g122_25, g122_28, g122_29, g122_31, g122_32, g122_33, g122_39, g122_40, g122_41, g122_45, g122_46, g122_47, g122_48, n123, n124, n125, n126, n127, n128, n129, n130, n131, n132, n133, n134, n135, n136, n137, n138, n139, n140, n141, n142, n143, n144, n145, n146, n143, e, s]
  have J : J_X12_waysOf_176 h 122 x1 x2 x3 (nI c) (nI cd) (nI k) (nI x) (nI y) (nI d) (nI l) = if (nI cd = x1 → x2 = nI d) ∧ lt l c = true then J_X12_waysOf_222 h 122 x1 x2 x3 (nI c) (nI cd) (nI k) (nI x) (nI y) (nI d) else some (.inl (h, nI d + 1)) := by
    unfold J_X12_waysOf_176
    rw [no, yes]
    by_cases e1 : nI cd = x1
    · rw [if_pos e1]
      by_cases e2 : x2 = nI d
      · rw [if_pos e2]
        by_cases q : lt l c = true
        · rw [if_pos q, if_pos ⟨fun _ => e2, q⟩]
        · rw [if_neg q, if_neg (fun t => q t.2)]
      · rw [if_neg e2, if_neg (fun t => e2 (t.1 e1))]
    · rw [if_neg e1]
      by_cases q : lt l c = true
      · rw [if_pos q, if_pos ⟨fun t => absurd t e1, q⟩]
      · rw [if_neg q, if_neg (fun t => q t.2)]
  unfold J_X12_waysOf_149
  rw [J, no, show (9 : Int32) = nI 9 from rfl, oc, Option.bind_some, show (-1 : Int32) = mN from rfl, Option.bind_some]
  by_cases e1 : K = mN
  · rw [if_pos e1]
    by_cases q : (nI cd = x1 → x2 = nI d) ∧ lt l c = true
    · rw [if_pos q, if_pos ⟨by rw [hb]; exact ⟨Or.inl e1, q.1⟩, q.2⟩]
    · rw [if_neg q, if_neg (fun t => q ⟨(by rw [hb] at t; exact t.1.2), t.2⟩)]
  · rw [if_neg e1]
    by_cases e2 : K = nI d
    · rw [if_pos e2]
      by_cases q : (nI cd = x1 → x2 = nI d) ∧ lt l c = true
      · rw [if_pos q, if_pos ⟨by rw [hb]; exact ⟨Or.inr e2, q.1⟩, q.2⟩]
      · rw [if_neg q, if_neg (fun t => q ⟨(by rw [hb] at t; exact t.1.2), t.2⟩)]
    · rw [if_neg e2, if_neg (fun t => by rw [hb] at t; exact t.1.1.elim e1 e2)]
theorem m_131 {h : Hp} {c cd k : Nat} {K x1 x2 x3 : Int32} {b0 b1 : Bool} {lt : Nat → Nat → Bool} {W M : Nat → Nat} (oc : ∀ hx, hI hx 123 = hI h 123 → F_X12_ofCard hx 122 (nI cd) (nI 9) = some K) (hb0 : (b0 = true) = ((K = mN ∨ K = nI 0) ∧ (nI cd = x1 → x2 = nI 0))) (hb1 : (b1 = true) = ((K = mN ∨ K = nI 1) ∧ (nI cd = x1 → x2 = nI 1))) (hc : c < 31) (hk : k < 961) (hx : k / 31 < c) (hy : k % 31 < c) (l0 : lt 0 c = true) (sr : ∀ l, l ≠ 0 → l < c → (hI h 143 c ≤ hI h 143 l) = (lt l c = false)) (tw : TBw h 144 W) (tm : TBw h 145 M) : ∃ h', L_X12_waysOf_131 h 122 x1 x2 x3 (nI c) (nI cd) (nI k) (nI (k / 31)) (nI (k % 31)) (nI 0) = some h' ∧ TBw h' 145 (fun r => M r + ctW b0 b1 lt c W r k) ∧ (∀ e, e ≠ 145 → hI h' e = hI h e) ∧ hL h' = hL h := by
  have s0 := m_149 (k := k) (x := k / 31) (y := k % 31) (d := 0) (l := k / 31) (x3 := x3) (oc h rfl) hb0 hc (by omega) (fun e => by rw [e]; exact l0) (fun e => sr _ e hx)
  have p0 : 31 * c + k % 31 < 961 := by omega
  have p1 : 31 * (k / 31) + c < 961 := by omega
  have wk := tw k hk
  obtain ⟨h1, a1, a2, a3, a4⟩ : ∃ h1, B_X12_waysOf_131 h 122 x1 x2 x3 (nI c) (nI cd) (nI k) (nI (k / 31)) (nI (k % 31)) (nI 0) = some (.inl (h1, nI 1)) ∧ TBw h1 145 (fun r => M r + if b0 = true ∧ lt (k / 31) c = true ∧ r = 31 * c + k % 31 then W k else 0) ∧ (∀ e, e ≠ 145 → hI h1 e = hI h e) ∧ hL h1 = hL h := by
    by_cases q : b0 = true ∧ lt (k / 31) c = true
    · rw [if_pos q] at s0
      have m0 := tm _ p0
      refine ⟨uI h 145 (31 * c + k % 31) (nI (M (31 * c + k % 31) + W k)), ?_, fun r hr => ?_, fun e he => hI_uI_o he, rfl⟩
      · unfold B_X12_waysOf_131
        unfold J_X12_waysOf_222 at s0
        generalize k / 31 = x at *
        generalize k % 31 = y at *
        simp (disch := omega) only [↓m1_n, li_n, li_0, li_1, lt_y, lt_n, le_y, le_n, eq_n, nL, nLe, nEq, nEm, mEn, nLm, mLn, nLem, mLen, nI_add, nI_mul, nI_sub, nI_m, ib_nI, nx_nI, gd_y, bnd_e, bind_y, ↓reduceIte, hI_uI_o, hI_uI_s, hI_uI_e, hL_uI, hI_uL, hL_uL_o, hL_uL_s, hL_uL_e, and1_a, and1_b, Bool.not_true, Bool.not_false, Nat.zero_add, Nat.add_zero, Nat.add_sub_cancel, eq_self, ne_b, g0_0, g0_1, g0_2, g0_3, g0_4, g0_5, g0_6, g0_7, g0_8, g0_9, n1, n2, g3_2, g3_3, g3_4, g3_5, g3_6, g3_7, g3_8, g3_9, n4, n5, n6, n7, n8, n9, g10_2, g10_3, g10_4, g10_5, n11, n12, n13, n14, g15_2, g15_3, g15_4, g15_5, n16, n17, n18, n19, g40_0, g40_1, g40_2, g44_0, g44_2, g44_3, g44_5, g44_6, g44_10, g51_3, g51_4, g51_5, g51_6, g51_7, g57_3, g57_4, g57_5, g57_6, g57_7, n120, n121, g122_0, g122_4, g122_5, g122_6, g122_7, g122_8, g122_18, g122_19, g122_20, g122_21, g122_24, g122_25, g122_28, g122_29, g122_31, g122_32, g122_33, g122_39, g122_40, g122_41, g122_45, g122_46, g122_47, g122_48, n123, n124, n125, n126, n127, n128, n129, n130, n131, n132, n133, n134, n135, n136, n137, n138, n139, n140, n141, n142, n143, n144, n145, n146, n144, n145, wk, m0] at s0
        simp (disch := omega) only [↓m1_n, li_n, li_0, li_1, lt_y, lt_n, le_y, le_n, eq_n, nL, nLe, nEq, nEm, mEn, nLm, mLn, nLem, mLen, nI_add, nI_mul, nI_sub, nI_m, ib_nI, nx_nI, gd_y, bnd_e, bind_y, ↓reduceIte, hI_uI_o, hI_uI_s, hI_uI_e, hL_uI, hI_uL, hL_uL_o, hL_uL_s, hL_uL_e, and1_a, and1_b, Bool.not_true, Bool.not_false, Nat.zero_add, Nat.add_zero, Nat.add_sub_cancel, eq_self, ne_b, g0_0, g0_1, g0_2, g0_3, g0_4, g0_5, g0_6, g0_7, g0_8, g0_9, n1, n2, g3_2, g3_3, g3_4, g3_5, g3_6, g3_7, g3_8, g3_9, n4, n5, n6, n7, n8, n9, g10_2, g10_3, g10_4, g10_5, n11, n12, n13, n14, g15_2, g15_3, g15_4, g15_5, n16, n17, n18, n19, g40_0, g40_1, g40_2, g44_0, g44_2, g44_3, g44_5, g44_6, g44_10, g51_3, g51_4, g51_5, g51_6, g51_7, g57_3, g57_4, g57_5, g57_6, g57_7, n120, n121, g122_0, g122_4, g122_5, g122_6, g122_7, g122_8, g122_18, g122_19, g122_20, g122_21, g122_24, g122_25, g122_28, g122_29, g122_31, g122_32, g122_33, g122_39, g122_40, g122_41, g122_45, g122_46, g122_47, g122_48, n123, n124, n125, n126, n127, n128, n129, n130, n131, n132, n133, n134, n135, n136, n137, n138, n139, n140, n141, n142, n143, n144, n145, n146, s0]
      · show hI (uI h 145 (31 * c + k % 31) (nI (M (31 * c + k % 31) + W k))) 145 r = nI (M r + (if b0 = true ∧ lt (k / 31) c = true ∧ r = 31 * c + k % 31 then W k else 0))
        by_cases er : r = 31 * c + k % 31
        · rw [if_pos ⟨q.1, q.2, er⟩, er, hI_uI_e]
        · rw [hI_uI_s er, if_neg (fun t => er t.2.2), Nat.add_zero]
          exact tm r hr
    · rw [if_neg q] at s0
      refine ⟨h, ?_, fun r hr => ?_, fun e he => rfl, rfl⟩
      · unfold B_X12_waysOf_131
        simp (disch := omega) only [↓m1_n, li_n, li_0, li_1, lt_y, lt_n, le_y, le_n, eq_n, nL, nLe, nEq, nEm, mEn, nLm, mLn, nLem, mLen, nI_add, nI_mul, nI_sub, nI_m, ib_nI, nx_nI, gd_y, bnd_e, bind_y, ↓reduceIte, hI_uI_o, hI_uI_s, hI_uI_e, hL_uI, hI_uL, hL_uL_o, hL_uL_s, hL_uL_e, and1_a, and1_b, Bool.not_true, Bool.not_false, Nat.zero_add, Nat.add_zero, Nat.add_sub_cancel, eq_self, ne_b, g0_0, g0_1, g0_2, g0_3, g0_4, g0_5, g0_6, g0_7, g0_8, g0_9, n1, n2, g3_2, g3_3, g3_4, g3_5, g3_6, g3_7, g3_8, g3_9, n4, n5, n6, n7, n8, n9, g10_2, g10_3, g10_4, g10_5, n11, n12, n13, n14, g15_2, g15_3, g15_4, g15_5, n16, n17, n18, n19, g40_0, g40_1, g40_2, g44_0, g44_2, g44_3, g44_5, g44_6, g44_10, g51_3, g51_4, g51_5, g51_6, g51_7, g57_3, g57_4, g57_5, g57_6, g57_7, n120, n121, g122_0, g122_4, g122_5, g122_6, g122_7, g122_8, g122_18, g122_19, g122_20, g122_21, g122_24, g122_25, g122_28, g122_29, g122_31, g122_32, g122_33, g122_39, g122_40, g122_41, g122_45, g122_46, g122_47, g122_48, n123, n124, n125, n126, n127, n128, n129, n130, n131, n132, n133, n134, n135, n136, n137, n138, n139, n140, n141, n142, n143, n144, n145, n146] at s0
        simp (disch := omega) only [↓m1_n, li_n, li_0, li_1, lt_y, lt_n, le_y, le_n, eq_n, nL, nLe, nEq, nEm, mEn, nLm, mLn, nLem, mLen, nI_add, nI_mul, nI_sub, nI_m, ib_nI, nx_nI, gd_y, bnd_e, bind_y, ↓reduceIte, hI_uI_o, hI_uI_s, hI_uI_e, hL_uI, hI_uL, hL_uL_o, hL_uL_s, hL_uL_e, and1_a, and1_b, Bool.not_true, Bool.not_false, Nat.zero_add, Nat.add_zero, Nat.add_sub_cancel, eq_self, ne_b, g0_0, g0_1, g0_2, g0_3, g0_4, g0_5, g0_6, g0_7, g0_8, g0_9, n1, n2, g3_2, g3_3, g3_4, g3_5, g3_6, g3_7, g3_8, g3_9, n4, n5, n6, n7, n8, n9, g10_2, g10_3, g10_4, g10_5, n11, n12, n13, n14, g15_2, g15_3, g15_4, g15_5, n16, n17, n18, n19, g40_0, g40_1, g40_2, g44_0, g44_2, g44_3, g44_5, g44_6, g44_10, g51_3, g51_4, g51_5, g51_6, g51_7, g57_3, g57_4, g57_5, g57_6, g57_7, n120, n121, g122_0, g122_4, g122_5, g122_6, g122_7, g122_8, g122_18, g122_19, g122_20, g122_21, g122_24, g122_25, g122_28, g122_29, g122_31, g122_32, g122_33, g122_39, g122_40, g122_41, g122_45, g122_46, g122_47, g122_48, n123, n124, n125, n126, n127, n128, n129, n130, n131, n132, n133, n134, n135, n136, n137, n138, n139, n140, n141, n142, n143, n144, n145, n146, s0]
      · show hI h 145 r = nI (M r + (if b0 = true ∧ lt (k / 31) c = true ∧ r = 31 * c + k % 31 then W k else 0))
        rw [if_neg (fun t => q ⟨t.1, t.2.1⟩), Nat.add_zero]
        exact tm r hr
  have s1 := m_149 (h := h1) (k := k) (x := k / 31) (y := k % 31) (d := 1) (l := k % 31) (x3 := x3) (oc h1 (a3 123 (by decide))) hb1 hc (by omega) (fun e => by rw [e]; exact l0) (fun e => by rw [a3 143 (by decide)]; exact sr _ e hy)
  have wk1 : hI h1 144 k = nI (W k) := by rw [a3 144 (by decide)]; exact wk
  obtain ⟨h2, d1, d2, d3, d4⟩ : ∃ h2, B_X12_waysOf_131 h1 122 x1 x2 x3 (nI c) (nI cd) (nI k) (nI (k / 31)) (nI (k % 31)) (nI 1) = some (.inl (h2, nI 2)) ∧ TBw h2 145 (fun r => M r + ctW b0 b1 lt c W r k) ∧ (∀ e, e ≠ 145 → hI h2 e = hI h1 e) ∧ hL h2 = hL h1 := by
    by_cases q : b1 = true ∧ lt (k % 31) c = true
    · rw [if_pos q] at s1
      have m0 : hI h1 145 (31 * (k / 31) + c) = nI (M (31 * (k / 31) + c) + (if b0 = true ∧ lt (k / 31) c = true ∧ 31 * (k / 31) + c = 31 * c + k % 31 then W k else 0)) := a2 _ p1
      generalize hM : M (31 * (k / 31) + c) + (if b0 = true ∧ lt (k / 31) c = true ∧ 31 * (k / 31) + c = 31 * c + k % 31 then W k else 0) = M1 at m0
      refine ⟨uI h1 145 (31 * (k / 31) + c) (nI (M1 + W k)), ?_, fun r hr => ?_, fun e he => hI_uI_o he, rfl⟩
      · unfold B_X12_waysOf_131
        unfold J_X12_waysOf_222 at s1
        clear hM
        generalize k / 31 = x at *
        generalize k % 31 = y at *
        simp (disch := omega) only [↓m1_n, li_n, li_0, li_1, lt_y, lt_n, le_y, le_n, eq_n, nL, nLe, nEq, nEm, mEn, nLm, mLn, nLem, mLen, nI_add, nI_mul, nI_sub, nI_m, ib_nI, nx_nI, gd_y, bnd_e, bind_y, ↓reduceIte, hI_uI_o, hI_uI_s, hI_uI_e, hL_uI, hI_uL, hL_uL_o, hL_uL_s, hL_uL_e, and1_a, and1_b, Bool.not_true, Bool.not_false, Nat.zero_add, Nat.add_zero, Nat.add_sub_cancel, eq_self, ne_b, g0_0, g0_1, g0_2, g0_3, g0_4, g0_5, g0_6, g0_7, g0_8, g0_9, n1, n2, g3_2, g3_3, g3_4, g3_5, g3_6, g3_7, g3_8, g3_9, n4, n5, n6, n7, n8, n9, g10_2, g10_3, g10_4, g10_5, n11, n12, n13, n14, g15_2, g15_3, g15_4, g15_5, n16, n17, n18, n19, g40_0, g40_1, g40_2, g44_0, g44_2, g44_3, g44_5, g44_6, g44_10, g51_3, g51_4, g51_5, g51_6, g51_7, g57_3, g57_4, g57_5, g57_6, g57_7, n120, n121, g122_0, g122_4, g122_5, g122_6, g122_7, g122_8, g122_18, g122_19, g122_20, g122_21, g122_24, g122_25, g122_28, g122_29, g122_31, g122_32, g122_33, g122_39, g122_40, g122_41, g122_45, g122_46, g122_47, g122_48, n123, n124, n125, n126, n127, n128, n129, n130, n131, n132, n133, n134, n135, n136, n137, n138, n139, n140, n141, n142, n143, n144, n145, n146, n144, n145, wk1, m0] at s1
        simp (disch := omega) only [↓m1_n, li_n, li_0, li_1, lt_y, lt_n, le_y, le_n, eq_n, nL, nLe, nEq, nEm, mEn, nLm, mLn, nLem, mLen, nI_add, nI_mul, nI_sub, nI_m, ib_nI, nx_nI, gd_y, bnd_e, bind_y, ↓reduceIte, hI_uI_o, hI_uI_s, hI_uI_e, hL_uI, hI_uL, hL_uL_o, hL_uL_s, hL_uL_e, and1_a, and1_b, Bool.not_true, Bool.not_false, Nat.zero_add, Nat.add_zero, Nat.add_sub_cancel, eq_self, ne_b, g0_0, g0_1, g0_2, g0_3, g0_4, g0_5, g0_6, g0_7, g0_8, g0_9, n1, n2, g3_2, g3_3, g3_4, g3_5, g3_6, g3_7, g3_8, g3_9, n4, n5, n6, n7, n8, n9, g10_2, g10_3, g10_4, g10_5, n11, n12, n13, n14, g15_2, g15_3, g15_4, g15_5, n16, n17, n18, n19, g40_0, g40_1, g40_2, g44_0, g44_2, g44_3, g44_5, g44_6, g44_10, g51_3, g51_4, g51_5, g51_6, g51_7, g57_3, g57_4, g57_5, g57_6, g57_7, n120, n121, g122_0, g122_4, g122_5, g122_6, g122_7, g122_8, g122_18, g122_19, g122_20, g122_21, g122_24, g122_25, g122_28, g122_29, g122_31, g122_32, g122_33, g122_39, g122_40, g122_41, g122_45, g122_46, g122_47, g122_48, n123, n124, n125, n126, n127, n128, n129, n130, n131, n132, n133, n134, n135, n136, n137, n138, n139, n140, n141, n142, n143, n144, n145, n146, s1]
      · show hI (uI h1 145 (31 * (k / 31) + c) (nI (M1 + W k))) 145 r = nI (M r + ((if b0 = true ∧ lt (k / 31) c = true ∧ r = 31 * c + k % 31 then W k else 0) + (if b1 = true ∧ lt (k % 31) c = true ∧ r = 31 * (k / 31) + c then W k else 0)))
        by_cases er : r = 31 * (k / 31) + c
        · rw [if_pos (c := b1 = true ∧ lt (k % 31) c = true ∧ r = 31 * (k / 31) + c) ⟨q.1, q.2, er⟩, er, hI_uI_e, ← hM, Nat.add_assoc]
        · rw [hI_uI_s er, if_neg (c := b1 = true ∧ lt (k % 31) c = true ∧ r = 31 * (k / 31) + c) (fun t => er t.2.2), Nat.add_zero]
          exact a2 r hr
    · rw [if_neg q] at s1
      refine ⟨h1, ?_, fun r hr => ?_, fun e he => rfl, rfl⟩
      · unfold B_X12_waysOf_131
        simp (disch := omega) only [↓m1_n, li_n, li_0, li_1, lt_y, lt_n, le_y, le_n, eq_n, nL, nLe, nEq, nEm, mEn, nLm, mLn, nLem, mLen, nI_add, nI_mul, nI_sub, nI_m, ib_nI, nx_nI, gd_y, bnd_e, bind_y, ↓reduceIte, hI_uI_o, hI_uI_s, hI_uI_e, hL_uI, hI_uL, hL_uL_o, hL_uL_s, hL_uL_e, and1_a, and1_b, Bool.not_true, Bool.not_false, Nat.zero_add, Nat.add_zero, Nat.add_sub_cancel, eq_self, ne_b, g0_0, g0_1, g0_2, g0_3, g0_4, g0_5, g0_6, g0_7, g0_8, g0_9, n1, n2, g3_2, g3_3, g3_4, g3_5, g3_6, g3_7, g3_8, g3_9, n4, n5, n6, n7, n8, n9, g10_2, g10_3, g10_4, g10_5, n11, n12, n13, n14, g15_2, g15_3, g15_4, g15_5, n16, n17, n18, n19, g40_0, g40_1, g40_2, g44_0, g44_2, g44_3, g44_5, g44_6, g44_10, g51_3, g51_4, g51_5, g51_6, g51_7, g57_3, g57_4, g57_5, g57_6, g57_7, n120, n121, g122_0, g122_4, g122_5, g122_6, g122_7, g122_8, g122_18, g122_19, g122_20, g122_21, g122_24, g122_25, g122_28, g122_29, g122_31, g122_32, g122_33, g122_39, g122_40, g122_41, g122_45, g122_46, g122_47, g122_48, n123, n124, n125, n126, n127, n128, n129, n130, n131, n132, n133, n134, n135, n136, n137, n138, n139, n140, n141, n142, n143, n144, n145, n146] at s1
        simp (disch := omega) only [↓m1_n, li_n, li_0, li_1, lt_y, lt_n, le_y, le_n, eq_n, nL, nLe, nEq, nEm, mEn, nLm, mLn, nLem, mLen, nI_add, nI_mul, nI_sub, nI_m, ib_nI, nx_nI, gd_y, bnd_e, bind_y, ↓reduceIte, hI_uI_o, hI_uI_s, hI_uI_e, hL_uI, hI_uL, hL_uL_o, hL_uL_s, hL_uL_e, and1_a, and1_b, Bool.not_true, Bool.not_false, Nat.zero_add, Nat.add_zero, Nat.add_sub_cancel, eq_self, ne_b, g0_0, g0_1, g0_2, g0_3, g0_4, g0_5, g0_6, g0_7, g0_8, g0_9, n1, n2, g3_2, g3_3, g3_4, g3_5, g3_6, g3_7, g3_8, g3_9, n4, n5, n6, n7, n8, n9, g10_2, g10_3, g10_4, g10_5, n11, n12, n13, n14, g15_2, g15_3, g15_4, g15_5, n16, n17, n18, n19, g40_0, g40_1, g40_2, g44_0, g44_2, g44_3, g44_5, g44_6, g44_10, g51_3, g51_4, g51_5, g51_6, g51_7, g57_3, g57_4, g57_5, g57_6, g57_7, n120, n121, g122_0, g122_4, g122_5, g122_6, g122_7, g122_8, g122_18, g122_19, g122_20, g122_21, g122_24, g122_25, g122_28, g122_29, g122_31, g122_32, g122_33, g122_39, g122_40, g122_41, g122_45, g122_46, g122_47, g122_48, n123, n124, n125, n126, n127, n128, n129, n130, n131, n132, n133, n134, n135, n136, n137, n138, n139, n140, n141, n142, n143, n144, n145, n146, s1]
      · show hI h1 145 r = nI (M r + ((if b0 = true ∧ lt (k / 31) c = true ∧ r = 31 * c + k % 31 then W k else 0) + (if b1 = true ∧ lt (k % 31) c = true ∧ r = 31 * (k / 31) + c then W k else 0)))
        rw [if_neg (c := b1 = true ∧ lt (k % 31) c = true ∧ r = 31 * (k / 31) + c) (fun t => q ⟨t.1, t.2.1⟩), Nat.add_zero]
        exact a2 r hr
  refine ⟨h2, (iterW_go a1).trans ((iterW_go d1).trans (iterW_end ?_)), d2, fun e he => (d3 e he).trans (a3 e he), d4.trans a4⟩
  show B_X12_waysOf_131 h2 122 x1 x2 x3 (nI c) (nI cd) (nI k) (nI (k / 31)) (nI (k % 31)) (nI 2) = _
  unfold B_X12_waysOf_131
  simp (disch := omega) only [↓m1_n, li_n, li_0, li_1, lt_y, lt_n, le_y, le_n, eq_n, nL, nLe, nEq, nEm, mEn, nLm, mLn, nLem, mLen, nI_add, nI_mul, nI_sub, nI_m, ib_nI, nx_nI, gd_y, bnd_e, bind_y, ↓reduceIte, hI_uI_o, hI_uI_s, hI_uI_e, hL_uI, hI_uL, hL_uL_o, hL_uL_s, hL_uL_e, and1_a, and1_b, Bool.not_true, Bool.not_false, Nat.zero_add, Nat.add_zero, Nat.add_sub_cancel, eq_self, ne_b, g0_0, g0_1, g0_2, g0_3, g0_4, g0_5, g0_6, g0_7, g0_8, g0_9, n1, n2, g3_2, g3_3, g3_4, g3_5, g3_6, g3_7, g3_8, g3_9, n4, n5, n6, n7, n8, n9, g10_2, g10_3, g10_4, g10_5, n11, n12, n13, n14, g15_2, g15_3, g15_4, g15_5, n16, n17, n18, n19, g40_0, g40_1, g40_2, g44_0, g44_2, g44_3, g44_5, g44_6, g44_10, g51_3, g51_4, g51_5, g51_6, g51_7, g57_3, g57_4, g57_5, g57_6, g57_7, n120, n121, g122_0, g122_4, g122_5, g122_6, g122_7, g122_8, g122_18, g122_19, g122_20, g122_21, g122_24, g122_25, g122_28, g122_29, g122_31, g122_32, g122_33, g122_39, g122_40, g122_41, g122_45, g122_46, g122_47, g122_48, n123, n124, n125, n126, n127, n128, n129, n130, n131, n132, n133, n134, n135, n136, n137, n138, n139, n140, n141, n142, n143, n144, n145, n146]
