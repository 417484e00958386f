/-! ===== plan: the reference ===== -/
theorem m_gath {h : Hp} {g : Nat → Nat} {n : Nat} (hn : n ≤ 4) (e30 : hI h 122 30 = nI n) (e135 : ∀ k, k < n → hI h 135 k = nI (g k % 8)) : ∃ h', L_X12_plan_23 h 122 (nI 0) (nI 0) = some (h', nI (cnt (inK g n) 8)) ∧ (∀ d, d ≠ 137 → hI h' d = hI h d) ∧ hL h' = hL h ∧ ∀ j, j < cnt (inK g n) 8 → hI h' 137 j = nI (clP (inK g n) j) := by
  have c8 := cnt_inK (g := g) n
  have inner : ∀ s x, hI s 122 = hI h 122 → hI s 135 = hI h 135 → ∀ c, c < 8 → L_X12_plan_36 s 122 x (nI c) (nI 0) (nI 0) = some (if inK g n c then nI 1 else nI 0) := by
    intro s x q1 q2 c hc
    refine iterW_for (fun k => (if inK g k c then nI 1 else nI 0, nI k)) n (fun k hk => ?_) ?_
    · show B_X12_plan_36 _ _ _ _ _ _ = _
      unfold B_X12_plan_36
      have m8 := Nat.mod_lt (g k) (show 0 < 8 by decide)
      have i1 : inK g (k + 1) c = (inK g k c || decide (g k % 8 = c)) := rfl
      cases ek : inK g k c with
      | true =>
        rw [i1, ek, Bool.true_or]
        simp (disch := omega) only [↓m1_n, li_n, li_0, li_1, lt_y, lt_n, le_y, le_n, eq_n, nL, nLe, nEq, nEm, mEn, nLm, mLn, nLem, mLen, nI_add, nI_mul, nI_sub, nI_m, ib_nI, nx_nI, gd_y, bnd_e, bind_y, ↓reduceIte, hI_uI_o, hI_uI_s, hI_uI_e, hL_uI, hI_uL, hL_uL_o, hL_uL_s, hL_uL_e, and1_a, and1_b, Bool.not_true, Bool.not_false, Nat.zero_add, Nat.add_zero, Nat.add_sub_cancel, eq_self, ne_b, g0_0, g0_1, g0_2, g0_3, g0_4, g0_5, g0_6, g0_7, g0_8, g0_9, n1, n2, g3_2, g3_3, g3_4, g3_5, g3_6, g3_7, g3_8, g3_9, n4, n5, n6, n7, n8, n9, g10_2, g10_3, g10_4, g10_5, n11, n12, n13, n14, g15_2, g15_3, g15_4, g15_5, n16, n17, n18, n19, g40_0, g40_1, g40_2, g44_0, g44_2, g44_3, g44_5, g44_6, g44_10, g51_3, g51_4, g51_5, g51_6, g51_7, g57_3, g57_4, g57_5, g57_6, g57_7, n120, n121, g122_0, g122_4, g122_5, g122_6, g122_7, g122_8, g122_18, g122_19, g122_20, g122_21, g122_24, g122_25, g122_28, g122_29, g122_31, g122_32, g122_33, g122_39, g122_40, g122_41, g122_45, g122_46, g122_47, g122_48, n123, n124, n125, n126, n127, n128, n129, n130, n131, n132, n133, n134, n135, n136, n137, n138, n139, n140, n141, n142, n143, n144, n145, n146, n45, n46, n47, n48, n49, n50, decide_false, q1, e30]
      | false =>
        rw [i1, ek, Bool.false_or]
        by_cases x : g k % 8 = c
        · rw [decide_eq_true x]
          simp (disch := omega) only [↓m1_n, li_n, li_0, li_1, lt_y, lt_n, le_y, le_n, eq_n, nL, nLe, nEq, nEm, mEn, nLm, mLn, nLem, mLen, nI_add, nI_mul, nI_sub, nI_m, ib_nI, nx_nI, gd_y, bnd_e, bind_y, ↓reduceIte, hI_uI_o, hI_uI_s, hI_uI_e, hL_uI, hI_uL, hL_uL_o, hL_uL_s, hL_uL_e, and1_a, and1_b, Bool.not_true, Bool.not_false, Nat.zero_add, Nat.add_zero, Nat.add_sub_cancel, eq_self, ne_b, g0_0, g0_1, g0_2, g0_3, g0_4, g0_5, g0_6, g0_7, g0_8, g0_9, n1, n2, g3_2, g3_3, g3_4, g3_5, g3_6, g3_7, g3_8, g3_9, n4, n5, n6, n7, n8, n9, g10_2, g10_3, g10_4, g10_5, n11, n12, n13, n14, g15_2, g15_3, g15_4, g15_5, n16, n17, n18, n19, g40_0, g40_1, g40_2, g44_0, g44_2, g44_3, g44_5, g44_6, g44_10, g51_3, g51_4, g51_5, g51_6, g51_7, g57_3, g57_4, g57_5, g57_6, g57_7, n120, n121, g122_0, g122_4, g122_5, g122_6, g122_7, g122_8, g122_18, g122_19, g122_20, g122_21, g122_24, g122_25, g122_28, g122_29, g122_31, g122_32, g122_33, g122_39, g122_40, g122_41, g122_45, g122_46, g122_47, g122_48, n123, n124, n125, n126, n127, n128, n129, n130, n131, n132, n133, n134, n135, n136, n137, n138, n139, n140, n141, n142, n143, n144, n145, n146, n45, n46, n47, n48, n49, n50, decide_false, q1, q2, e30, e135 k hk, x, Bool.false_eq_true]
        · rw [decide_eq_false x]
          simp (disch := omega) only [↓m1_n, li_n, li_0, li_1, lt_y, lt_n, le_y, le_n, eq_n, nL, nLe, nEq, nEm, mEn, nLm, mLn, nLem, mLen, nI_add, nI_mul, nI_sub, nI_m, ib_nI, nx_nI, gd_y, bnd_e, bind_y, ↓reduceIte, hI_uI_o, hI_uI_s, hI_uI_e, hL_uI, hI_uL, hL_uL_o, hL_uL_s, hL_uL_e, and1_a, and1_b, Bool.not_true, Bool.not_false, Nat.zero_add, Nat.add_zero, Nat.add_sub_cancel, eq_self, ne_b, g0_0, g0_1, g0_2, g0_3, g0_4, g0_5, g0_6, g0_7, g0_8, g0_9, n1, n2, g3_2, g3_3, g3_4, g3_5, g3_6, g3_7, g3_8, g3_9, n4, n5, n6, n7, n8, n9, g10_2, g10_3, g10_4, g10_5, n11, n12, n13, n14, g15_2, g15_3, g15_4, g15_5, n16, n17, n18, n19, g40_0, g40_1, g40_2, g44_0, g44_2, g44_3, g44_5, g44_6, g44_10, g51_3, g51_4, g51_5, g51_6, g51_7, g57_3, g57_4, g57_5, g57_6, g57_7, n120, n121, g122_0, g122_4, g122_5, g122_6, g122_7, g122_8, g122_18, g122_19, g122_20, g122_21, g122_24, g122_25, g122_28, g122_29, g122_31, g122_32, g122_33, g122_39, g122_40, g122_41, g122_45, g122_46, g122_47, g122_48, n123, n124, n125, n126, n127, n128, n129, n130, n131, n132, n133, n134, n135, n136, n137, n138, n139, n140, n141, n142, n143, n144, n145, n146, n45, n46, n47, n48, n49, n50, decide_false, q1, q2, e30, e135 k hk, x, Bool.false_eq_true]
    · show B_X12_plan_36 _ _ _ _ _ _ = _
      unfold B_X12_plan_36
      simp (disch := omega) only [↓m1_n, li_n, li_0, li_1, lt_y, lt_n, le_y, le_n, eq_n, nL, nLe, nEq, nEm, mEn, nLm, mLn, nLem, mLen, nI_add, nI_mul, nI_sub, nI_m, ib_nI, nx_nI, gd_y, bnd_e, bind_y, ↓reduceIte, hI_uI_o, hI_uI_s, hI_uI_e, hL_uI, hI_uL, hL_uL_o, hL_uL_s, hL_uL_e, and1_a, and1_b, Bool.not_true, Bool.not_false, Nat.zero_add, Nat.add_zero, Nat.add_sub_cancel, eq_self, ne_b, g0_0, g0_1, g0_2, g0_3, g0_4, g0_5, g0_6, g0_7, g0_8, g0_9, n1, n2, g3_2, g3_3, g3_4, g3_5, g3_6, g3_7, g3_8, g3_9, n4, n5, n6, n7, n8, n9, g10_2, g10_3, g10_4, g10_5, n11, n12, n13, n14, g15_2, g15_3, g15_4, g15_5, n16, n17, n18, n19, g40_0, g40_1, g40_2, g44_0, g44_2, g44_3, g44_5, g44_6, g44_10, g51_3, g51_4, g51_5, g51_6, g51_7, g57_3, g57_4, g57_5, g57_6, g57_7, n120, n121, g122_0, g122_4, g122_5, g122_6, g122_7, g122_8, g122_18, g122_19, g122_20, g122_21, g122_24, g122_25, g122_28, g122_29, g122_31, g122_32, g122_33, g122_39, g122_40, g122_41, g122_45, g122_46, g122_47, g122_48, n123, n124, n125, n126, n127, n128, n129, n130, n131, n132, n133, n134, n135, n136, n137, n138, n139, n140, n141, n142, n143, n144, n145, n146, n45, n46, n47, n48, n49, n50, decide_false, q1, e30]
  have key : ∃ z, L_X12_plan_23 h 122 (nI 0) (nI 0) = some z ∧ z.2 = nI (cnt (inK g n) 8) ∧ (∀ d, d ≠ 137 → hI z.1 d = hI h d) ∧ hL z.1 = hL h ∧ ∀ j, j < cnt (inK g n) 8 → hI z.1 137 j = nI (clP (inK g n) j) := by
    refine iterW_inv (fun c s => s.2.2 = nI c ∧ s.2.1 = nI (cnt (inK g n) c) ∧ (∀ d, d ≠ 137 → hI s.1 d = hI h d) ∧ hL s.1 = hL h ∧ ∀ j, j < cnt (inK g n) c → hI s.1 137 j = nI (clP (inK g n) j)) _ 8 (fun c s hc p => ?_) (fun s p => ?_) ⟨rfl, rfl, fun _ _ => rfl, rfl, fun j hj => absurd hj (Nat.not_lt_zero j)⟩
    · obtain ⟨p1, p2, p3, p4, p5⟩ := p
      have K := inner s.1 s.2.1 (p3 122 (by decide)) (p3 135 (by decide)) c hc
      cases ek : inK g n c with
      | false =>
        rw [ek, if_neg Bool.false_ne_true] at K
        refine ⟨(s.1, nI (cnt (inK g n) c), nI (c + 1)), ?_, rfl, ?_, p3, p4, ?_⟩
        · show B_X12_plan_23 _ _ _ _ = _
          unfold B_X12_plan_23
          rw [p2] at K
          rw [p1, p2]
          simp (disch := omega) only [↓m1_n, li_n, li_0, li_1, lt_y, lt_n, le_y, le_n, eq_n, nL, nLe, nEq, nEm, mEn, nLm, mLn, nLem, mLen, nI_add, nI_mul, nI_sub, nI_m, ib_nI, nx_nI, gd_y, bnd_e, bind_y, ↓reduceIte, hI_uI_o, hI_uI_s, hI_uI_e, hL_uI, hI_uL, hL_uL_o, hL_uL_s, hL_uL_e, and1_a, and1_b, Bool.not_true, Bool.not_false, Nat.zero_add, Nat.add_zero, Nat.add_sub_cancel, eq_self, ne_b, g0_0, g0_1, g0_2, g0_3, g0_4, g0_5, g0_6, g0_7, g0_8, g0_9, n1, n2, g3_2, g3_3, g3_4, g3_5, g3_6, g3_7, g3_8, g3_9, n4, n5, n6, n7, n8, n9, g10_2, g10_3, g10_4, g10_5, n11, n12, n13, n14, g15_2, g15_3, g15_4, g15_5, n16, n17, n18, n19, g40_0, g40_1, g40_2, g44_0, g44_2, g44_3, g44_5, g44_6, g44_10, g51_3, g51_4, g51_5, g51_6, g51_7, g57_3, g57_4, g57_5, g57_6, g57_7, n120, n121, g122_0, g122_4, g122_5, g122_6, g122_7, g122_8, g122_18, g122_19, g122_20, g122_21, g122_24, g122_25, g122_28, g122_29, g122_31, g122_32, g122_33, g122_39, g122_40, g122_41, g122_45, g122_46, g122_47, g122_48, n123, n124, n125, n126, n127, n128, n129, n130, n131, n132, n133, n134, n135, n136, n137, n138, n139, n140, n141, n142, n143, n144, n145, n146, n45, n46, n47, n48, n49, n50, decide_false, K]
        · show nI (cnt (inK g n) c) = nI (cnt (inK g n) c + if inK g n c then 1 else 0)
          rw [ek, if_neg Bool.false_ne_true, Nat.add_zero]
        · rw [cnt, ek, if_neg Bool.false_ne_true, Nat.add_zero]; exact p5
      | true =>
        rw [ek, if_pos rfl] at K
        have l := cnt_lt (n := 8) hc ek
        refine ⟨(uI s.1 137 (cnt (inK g n) c) (nI c), nI (cnt (inK g n) c + 1), nI (c + 1)), ?_, rfl, ?_, fun d x => by rw [hI_uI_o x]; exact p3 d x, p4, ?_⟩
        · show B_X12_plan_23 _ _ _ _ = _
          unfold B_X12_plan_23
          rw [p2] at K
          rw [p1, p2]
          simp (disch := omega) only [↓m1_n, li_n, li_0, li_1, lt_y, lt_n, le_y, le_n, eq_n, nL, nLe, nEq, nEm, mEn, nLm, mLn, nLem, mLen, nI_add, nI_mul, nI_sub, nI_m, ib_nI, nx_nI, gd_y, bnd_e, bind_y, ↓reduceIte, hI_uI_o, hI_uI_s, hI_uI_e, hL_uI, hI_uL, hL_uL_o, hL_uL_s, hL_uL_e, and1_a, and1_b, Bool.not_true, Bool.not_false, Nat.zero_add, Nat.add_zero, Nat.add_sub_cancel, eq_self, ne_b, g0_0, g0_1, g0_2, g0_3, g0_4, g0_5, g0_6, g0_7, g0_8, g0_9, n1, n2, g3_2, g3_3, g3_4, g3_5, g3_6, g3_7, g3_8, g3_9, n4, n5, n6, n7, n8, n9, g10_2, g10_3, g10_4, g10_5, n11, n12, n13, n14, g15_2, g15_3, g15_4, g15_5, n16, n17, n18, n19, g40_0, g40_1, g40_2, g44_0, g44_2, g44_3, g44_5, g44_6, g44_10, g51_3, g51_4, g51_5, g51_6, g51_7, g57_3, g57_4, g57_5, g57_6, g57_7, n120, n121, g122_0, g122_4, g122_5, g122_6, g122_7, g122_8, g122_18, g122_19, g122_20, g122_21, g122_24, g122_25, g122_28, g122_29, g122_31, g122_32, g122_33, g122_39, g122_40, g122_41, g122_45, g122_46, g122_47, g122_48, n123, n124, n125, n126, n127, n128, n129, n130, n131, n132, n133, n134, n135, n136, n137, n138, n139, n140, n141, n142, n143, n144, n145, n146, n45, n46, n47, n48, n49, n50, decide_false, K]
        · rw [cnt, ek, if_pos rfl]
        · rw [cnt, ek, if_pos rfl]
          intro j hj
          by_cases x : j = cnt (inK g n) c
          · rw [x, hI_uI_e, clP_eq hc ek]
          · rw [hI_uI_s x]
            exact p5 j (by omega)
    · obtain ⟨p1, p2, p3⟩ := p
      refine ⟨(s.1, s.2.1), ?_, p2, p3⟩
      show B_X12_plan_23 _ _ _ _ = _
      unfold B_X12_plan_23
      rw [p1]
      simp (disch := omega) only [↓m1_n, li_n, li_0, li_1, lt_y, lt_n, le_y, le_n, eq_n, nL, nLe, nEq, nEm, mEn, nLm, mLn, nLem, mLen, nI_add, nI_mul, nI_sub, nI_m, ib_nI, nx_nI, gd_y, bnd_e, bind_y, ↓reduceIte, hI_uI_o, hI_uI_s, hI_uI_e, hL_uI, hI_uL, hL_uL_o, hL_uL_s, hL_uL_e, and1_a, and1_b, Bool.not_true, Bool.not_false, Nat.zero_add, Nat.add_zero, Nat.add_sub_cancel, eq_self, ne_b, g0_0, g0_1, g0_2, g0_3, g0_4, g0_5, g0_6, g0_7, g0_8, g0_9, n1, n2, g3_2, g3_3, g3_4, g3_5, g3_6, g3_7, g3_8, g3_9, n4, n5, n6, n7, n8, n9, g10_2, g10_3, g10_4, g10_5, n11, n12, n13, n14, g15_2, g15_3, g15_4, g15_5, n16, n17, n18, n19, g40_0, g40_1, g40_2, g44_0, g44_2, g44_3, g44_5, g44_6, g44_10, g51_3, g51_4, g51_5, g51_6, g51_7, g57_3, g57_4, g57_5, g57_6, g57_7, n120, n121, g122_0, g122_4, g122_5, g122_6, g122_7, g122_8, g122_18, g122_19, g122_20, g122_21, g122_24, g122_25, g122_28, g122_29, g122_31, g122_32, g122_33, g122_39, g122_40, g122_41, g122_45, g122_46, g122_47, g122_48, n123, n124, n125, n126, n127, n128, n129, n130, n131, n132, n133, n134, n135, n136, n137, n138, n139, n140, n141, n142, n143, n144, n145, n146, n45, n46, n47, n48, n49, n50, decide_false]
  obtain ⟨z, k1, k2, k3⟩ := key
  exact ⟨z.1, by rw [k1, ← k2], k3⟩
theorem m_lay {h : Hp} {cl : Nat → Nat} {d m r : Nat} {x5 x7 x8 : Int32} (hd : 0 < d) (hd4 : d ≤ 4) (hm : m ≤ 5) (hr : r < 2147483648) (hcl : ∀ j, cl j < 8) (e137 : ∀ j, j < d → hI h 137 j = nI (cl j)) : ∃ h', L_X12_plan_136 h 122 (nI d) x5 (nI m) x7 x8 (nI r) (nI m - 1) = some h' ∧ (∀ d, d ≠ 138 → hI h' d = hI h d) ∧ hL h' = hL h ∧ ∀ k, k < m → hI h' 138 k = nI (rwN cl d m r k) := by
  refine iterW_inv (fun j s => s.2.1 = nI (dvN d r j) ∧ s.2.2 = nI (m - j) + mN ∧ (∀ d, d ≠ 138 → hI s.1 d = hI h d) ∧ hL s.1 = hL h ∧ (∀ k, m - j ≤ k → k < m → hI s.1 138 k = nI (rwN cl d m r k))) _ m (fun j s hj p => ?_) (fun s p => ?_) ⟨rfl, sub1 _, fun _ _ => rfl, rfl, fun k h1 h2 => by omega⟩
  · obtain ⟨p1, p2, p3, p4, p5⟩ := p
    rw [nI_m (by omega)] at p2
    obtain ⟨i, hi⟩ : ∃ i, i = m - j - 1 := ⟨_, rfl⟩
    rw [← hi] at p2
    have ei : rwN cl d m r i = cl (dvN d r j % d) := by unfold rwN; rw [show m - 1 - i = j by omega]
    have lr := dvN_le (d := d) (r := r) j
    have lm := Nat.mod_lt (dvN d r j) hd
    have r1 : nI (dvN d r j) / nI d = nI (dvN d r j / d) := pk_div (by omega) hd (by omega)
    have r2 : nI (dvN d r j) - nI (dvN d r j / d * d) = nI (dvN d r j % d) := by rw [← nI_mul, ← r1]; exact pk_rem (by omega) hd (by omega)
    have e137' : hI s.1 137 (dvN d r j % d) = nI (rwN cl d m r i) := by rw [p3 137 (by decide), ei]; exact e137 _ lm
    refine ⟨(uI s.1 138 i (nI (rwN cl d m r i)), nI (dvN d r j / d), nI i + mN), ?_, rfl, ?_, fun d hd => by rw [hI_uI_o hd]; exact p3 d hd, p4, fun k h1 h2 => ?_⟩
    · show B_X12_plan_136 _ _ _ _ _ _ _ _ _ = _
      unfold B_X12_plan_136
      rw [p1, p2]
      simp (disch := omega) only [↓m1_n, li_n, li_0, li_1, lt_y, lt_n, le_y, le_n, eq_n, nL, nLe, nEq, nEm, mEn, nLm, mLn, nLem, mLen, nI_add, nI_mul, nI_sub, nI_m, ib_nI, nx_nI, gd_y, bnd_e, bind_y, ↓reduceIte, hI_uI_o, hI_uI_s, hI_uI_e, hL_uI, hI_uL, hL_uL_o, hL_uL_s, hL_uL_e, and1_a, and1_b, Bool.not_true, Bool.not_false, Nat.zero_add, Nat.add_zero, Nat.add_sub_cancel, eq_self, ne_b, g0_0, g0_1, g0_2, g0_3, g0_4, g0_5, g0_6, g0_7, g0_8, g0_9, n1, n2, g3_2, g3_3, g3_4, g3_5, g3_6, g3_7, g3_8, g3_9, n4, n5, n6, n7, n8, n9, g10_2, g10_3, g10_4, g10_5, n11, n12, n13, n14, g15_2, g15_3, g15_4, g15_5, n16, n17, n18, n19, g40_0, g40_1, g40_2, g44_0, g44_2, g44_3, g44_5, g44_6, g44_10, g51_3, g51_4, g51_5, g51_6, g51_7, g57_3, g57_4, g57_5, g57_6, g57_7, n120, n121, g122_0, g122_4, g122_5, g122_6, g122_7, g122_8, g122_18, g122_19, g122_20, g122_21, g122_24, g122_25, g122_28, g122_29, g122_31, g122_32, g122_33, g122_39, g122_40, g122_41, g122_45, g122_46, g122_47, g122_48, n123, n124, n125, n126, n127, n128, n129, n130, n131, n132, n133, n134, n135, n136, n137, n138, n139, n140, n141, n142, n143, n144, n145, n146, n45, n46, n47, n48, n49, n50, decide_false, r1, r2, e137']
    · show nI i + mN = _
      rw [show m - (j + 1) = i by omega]
    · by_cases x : k = i
      · rw [x, hI_uI_e]
      · rw [hI_uI_s x]
        exact p5 k (by omega) h2
  · obtain ⟨p1, p2, p3, p4, p5⟩ := p
    rw [Nat.sub_self] at p2 p5
    refine ⟨s.1, ?_, p3, p4, fun k hk => p5 k (Nat.zero_le _) hk⟩
    show B_X12_plan_136 _ _ _ _ _ _ _ _ _ = _
    unfold B_X12_plan_136
    rw [p2, if_pos (show nI 0 + mN < 0 by decide)]
theorem m_tries {h : Hp} {A : Ho} {q m n : Nat} {g c : Nat → Nat} (ok : HoOk q A) (rm : RmH h 0 A) (hm : m ≤ 5) (hc : ∀ k, c k < 8) (e138 : ∀ k, k < m → hI h 138 k = nI (c k)) (hn : n ≤ 4) (hg : ∀ k, k < n → g k < 24) (k0 : hI h 122 30 = nI n) (kk : ∀ k, k < n → hI h 135 k = nI (g k % 8) ∧ hI h 136 k = nI (g k / 8)) : ∃ h', F_X12_triesRow h 122 (nI m) = some (h', if exB (desB (rnk A g n) (dkR A c m)) (oN A - 1) then mN else nI (hdR A c m)) ∧ FrP h h' := by
  have hA := ok.1
  obtain ⟨h1, a1, a2, a3, a4⟩ := m_takes ok rm
  have f1 : FrP h h1 := ⟨fun d _ x _ => a3 d x, fun k _ _ => by rw [a3 122 (by decide)], a4⟩
  obtain ⟨h2, b1, b2, b3⟩ : ∃ h2, L_X12_triesRow_8 h1 122 (nI m) (nI 0) (nI 0) = some (h2, nI (hdR A c m)) ∧ FrP h h2 ∧ ∀ k, k < oN A → hI h2 134 k = nI (dkR A c m k) := by
    have key : ∃ z, L_X12_triesRow_8 h1 122 (nI m) (nI 0) (nI 0) = some z ∧ z.2 = nI (hdR A c m) ∧ FrP h z.1 ∧ ∀ k, k < oN A → hI z.1 134 k = nI (dkR A c m k) := by
      refine iterW_inv (fun j s => s.2.2 = nI j ∧ s.2.1 = nI (hdR A c j) ∧ FrP h s.1 ∧ ∀ k, k < oN A → hI s.1 134 k = nI (dkR A c j k)) _ m (fun j s hj p => ?_) (fun s p => ?_) ⟨rfl, rfl, f1, a2⟩
      · obtain ⟨p1, p2, p3, p4⟩ := p
        obtain ⟨h3, d1, d2, d3, d4, d5⟩ := m_passes (b := false) (col := c j) (D := dkR A c j) ok (p3.rm rm) (hc j) (fun k hk => ⟨p4 k hk, dkR_lt ok j k hk⟩)
        have d1 : F_X12_passes s.1 122 (nI (c j)) (nI 0) = some h3 := d1
        have d4 : hI h3 122 27 = nI ((if oN A < oN A then 1 else 0) + fil (fun k => rdN (oH A (dkR A c j k) (c j))) (oN A) 12) := d4
        rw [if_neg (Nat.lt_irrefl _), Nat.zero_add] at d4
        refine ⟨(h3, nI (hdR A c (j + 1)), nI (j + 1)), ?_, rfl, rfl, p3.trans d2, fun k hk => d5 k hk⟩
        show B_X12_triesRow_8 _ _ _ _ _ = _
        unfold B_X12_triesRow_8
        have e : hI s.1 138 j = nI (c j) := by rw [p3.1 138 (by decide) (by decide) (by decide)]; exact e138 j hj
        rw [p1, p2]
        simp (disch := omega) only [↓m1_n, li_n, li_0, li_1, lt_y, lt_n, le_y, le_n, eq_n, nL, nLe, nEq, nEm, mEn, nLm, mLn, nLem, mLen, nI_add, nI_mul, nI_sub, nI_m, ib_nI, nx_nI, gd_y, bnd_e, bind_y, ↓reduceIte, hI_uI_o, hI_uI_s, hI_uI_e, hL_uI, hI_uL, hL_uL_o, hL_uL_s, hL_uL_e, and1_a, and1_b, Bool.not_true, Bool.not_false, Nat.zero_add, Nat.add_zero, Nat.add_sub_cancel, eq_self, ne_b, g0_0, g0_1, g0_2, g0_3, g0_4, g0_5, g0_6, g0_7, g0_8, g0_9, n1, n2, g3_2, g3_3, g3_4, g3_5, g3_6, g3_7, g3_8, g3_9, n4, n5, n6, n7, n8, n9, g10_2, g10_3, g10_4, g10_5, n11, n12, n13, n14, g15_2, g15_3, g15_4, g15_5, n16, n17, n18, n19, g40_0, g40_1, g40_2, g44_0, g44_2, g44_3, g44_5, g44_6, g44_10, g51_3, g51_4, g51_5, g51_6, g51_7, g57_3, g57_4, g57_5, g57_6, g57_7, n120, n121, g122_0, g122_4, g122_5, g122_6, g122_7, g122_8, g122_18, g122_19, g122_20, g122_21, g122_24, g122_25, g122_28, g122_29, g122_31, g122_32, g122_33, g122_39, g122_40, g122_41, g122_45, g122_46, g122_47, g122_48, n123, n124, n125, n126, n127, n128, n129, n130, n131, n132, n133, n134, n135, n136, n137, n138, n139, n140, n141, n142, n143, n144, n145, n146, n45, n46, n47, n48, n49, n50, decide_false, e, d1, d4]
        rfl
      · obtain ⟨p1, p2, p3⟩ := p
        refine ⟨(s.1, s.2.1), ?_, p2, p3⟩
        show B_X12_triesRow_8 _ _ _ _ _ = _
        unfold B_X12_triesRow_8
        rw [p1]
        simp (disch := omega) only [↓m1_n, li_n, li_0, li_1, lt_y, lt_n, le_y, le_n, eq_n, nL, nLe, nEq, nEm, mEn, nLm, mLn, nLem, mLen, nI_add, nI_mul, nI_sub, nI_m, ib_nI, nx_nI, gd_y, bnd_e, bind_y, ↓reduceIte, hI_uI_o, hI_uI_s, hI_uI_e, hL_uI, hI_uL, hL_uL_o, hL_uL_s, hL_uL_e, and1_a, and1_b, Bool.not_true, Bool.not_false, Nat.zero_add, Nat.add_zero, Nat.add_sub_cancel, eq_self, ne_b, g0_0, g0_1, g0_2, g0_3, g0_4, g0_5, g0_6, g0_7, g0_8, g0_9, n1, n2, g3_2, g3_3, g3_4, g3_5, g3_6, g3_7, g3_8, g3_9, n4, n5, n6, n7, n8, n9, g10_2, g10_3, g10_4, g10_5, n11, n12, n13, n14, g15_2, g15_3, g15_4, g15_5, n16, n17, n18, n19, g40_0, g40_1, g40_2, g44_0, g44_2, g44_3, g44_5, g44_6, g44_10, g51_3, g51_4, g51_5, g51_6, g51_7, g57_3, g57_4, g57_5, g57_6, g57_7, n120, n121, g122_0, g122_4, g122_5, g122_6, g122_7, g122_8, g122_18, g122_19, g122_20, g122_21, g122_24, g122_25, g122_28, g122_29, g122_31, g122_32, g122_33, g122_39, g122_40, g122_41, g122_45, g122_46, g122_47, g122_48, n123, n124, n125, n126, n127, n128, n129, n130, n131, n132, n133, n134, n135, n136, n137, n138, n139, n140, n141, n142, n143, n144, n145, n146, n45, n46, n47, n48, n49, n50, decide_false]
    obtain ⟨z, k1, k2, k3⟩ := key
    exact ⟨z.1, by rw [k1, ← k2], k3⟩
  have OR := m_isOrdered (h := h2) (g := g) (n := n) (D := dkR A c m) ok (b2.rm rm) hn hg (by rw [b2.2.1 30 (by decide) (by decide)]; exact k0) (fun k hk => by rw [b2.1 135 (by decide) (by decide) (by decide), b2.1 136 (by decide) (by decide) (by decide)]; exact kk k hk) (fun k hk => ⟨b3 k hk, dkR_lt ok m k hk⟩)
  refine ⟨h2, ?_, b2⟩
  unfold F_X12_triesRow
  cases eb : exB (desB (rnk A g n) (dkR A c m)) (oN A - 1) with
  | true =>
    rw [eb] at OR
    simp (disch := omega) only [↓m1_n, li_n, li_0, li_1, lt_y, lt_n, le_y, le_n, eq_n, nL, nLe, nEq, nEm, mEn, nLm, mLn, nLem, mLen, nI_add, nI_mul, nI_sub, nI_m, ib_nI, nx_nI, gd_y, bnd_e, bind_y, ↓reduceIte, hI_uI_o, hI_uI_s, hI_uI_e, hL_uI, hI_uL, hL_uL_o, hL_uL_s, hL_uL_e, and1_a, and1_b, Bool.not_true, Bool.not_false, Nat.zero_add, Nat.add_zero, Nat.add_sub_cancel, eq_self, ne_b, g0_0, g0_1, g0_2, g0_3, g0_4, g0_5, g0_6, g0_7, g0_8, g0_9, n1, n2, g3_2, g3_3, g3_4, g3_5, g3_6, g3_7, g3_8, g3_9, n4, n5, n6, n7, n8, n9, g10_2, g10_3, g10_4, g10_5, n11, n12, n13, n14, g15_2, g15_3, g15_4, g15_5, n16, n17, n18, n19, g40_0, g40_1, g40_2, g44_0, g44_2, g44_3, g44_5, g44_6, g44_10, g51_3, g51_4, g51_5, g51_6, g51_7, g57_3, g57_4, g57_5, g57_6, g57_7, n120, n121, g122_0, g122_4, g122_5, g122_6, g122_7, g122_8, g122_18, g122_19, g122_20, g122_21, g122_24, g122_25, g122_28, g122_29, g122_31, g122_32, g122_33, g122_39, g122_40, g122_41, g122_45, g122_46, g122_47, g122_48, n123, n124, n125, n126, n127, n128, n129, n130, n131, n132, n133, n134, n135, n136, n137, n138, n139, n140, n141, n142, n143, n144, n145, n146, n45, n46, n47, n48, n49, n50, decide_false, a1, b1, OR]
  | false =>
    rw [eb] at OR
    simp (disch := omega) only [↓m1_n, li_n, li_0, li_1, lt_y, lt_n, le_y, le_n, eq_n, nL, nLe, nEq, nEm, mEn, nLm, mLn, nLem, mLen, nI_add, nI_mul, nI_sub, nI_m, ib_nI, nx_nI, gd_y, bnd_e, bind_y, ↓reduceIte, hI_uI_o, hI_uI_s, hI_uI_e, hL_uI, hI_uL, hL_uL_o, hL_uL_s, hL_uL_e, and1_a, and1_b, Bool.not_true, Bool.not_false, Nat.zero_add, Nat.add_zero, Nat.add_sub_cancel, eq_self, ne_b, g0_0, g0_1, g0_2, g0_3, g0_4, g0_5, g0_6, g0_7, g0_8, g0_9, n1, n2, g3_2, g3_3, g3_4, g3_5, g3_6, g3_7, g3_8, g3_9, n4, n5, n6, n7, n8, n9, g10_2, g10_3, g10_4, g10_5, n11, n12, n13, n14, g15_2, g15_3, g15_4, g15_5, n16, n17, n18, n19, g40_0, g40_1, g40_2, g44_0, g44_2, g44_3, g44_5, g44_6, g44_10, g51_3, g51_4, g51_5, g51_6, g51_7, g57_3, g57_4, g57_5, g57_6, g57_7, n120, n121, g122_0, g122_4, g122_5, g122_6, g122_7, g122_8, g122_18, g122_19, g122_20, g122_21, g122_24, g122_25, g122_28, g122_29, g122_31, g122_32, g122_33, g122_39, g122_40, g122_41, g122_45, g122_46, g122_47, g122_48, n123, n124, n125, n126, n127, n128, n129, n130, n131, n132, n133, n134, n135, n136, n137, n138, n139, n140, n141, n142, n143, n144, n145, n146, n45, n46, n47, n48, n49, n50, decide_false, a1, b1, OR, Bool.false_eq_true]
theorem m_keep {h : Hp} {m : Nat} {x4 x5 x7 x8 : Int32} (hm : m ≤ 5) : ∃ h', L_X12_plan_208 h 122 x4 x5 (nI m) x7 x8 (nI 0) = some h' ∧ (∀ d, d ≠ 139 → hI h' d = hI h d) ∧ hL h' = hL h ∧ ∀ k, k < m → hI h' 139 k = hI h 138 k := by
  refine iterW_inv (fun j s => s.2 = nI j ∧ (∀ d, d ≠ 139 → hI s.1 d = hI h d) ∧ hL s.1 = hL h ∧ ∀ k, k < j → hI s.1 139 k = hI h 138 k) _ m (fun j s hj p => ?_) (fun s p => ?_) ⟨rfl, fun _ _ => rfl, rfl, fun k hk => absurd hk (Nat.not_lt_zero k)⟩
  · obtain ⟨p1, p2, p3, p4⟩ := p
    refine ⟨(uI s.1 139 j (hI h 138 j), nI (j + 1)), ?_, rfl, fun d hd => by rw [hI_uI_o hd]; exact p2 d hd, p3, fun k hk => ?_⟩
    · show B_X12_plan_208 _ _ _ _ _ _ _ _ = _
      unfold B_X12_plan_208
      rw [p1]
      simp (disch := omega) only [↓m1_n, li_n, li_0, li_1, lt_y, lt_n, le_y, le_n, eq_n, nL, nLe, nEq, nEm, mEn, nLm, mLn, nLem, mLen, nI_add, nI_mul, nI_sub, nI_m, ib_nI, nx_nI, gd_y, bnd_e, bind_y, ↓reduceIte, hI_uI_o, hI_uI_s, hI_uI_e, hL_uI, hI_uL, hL_uL_o, hL_uL_s, hL_uL_e, and1_a, and1_b, Bool.not_true, Bool.not_false, Nat.zero_add, Nat.add_zero, Nat.add_sub_cancel, eq_self, ne_b, g0_0, g0_1, g0_2, g0_3, g0_4, g0_5, g0_6, g0_7, g0_8, g0_9, n1, n2, g3_2, g3_3, g3_4, g3_5, g3_6, g3_7, g3_8, g3_9, n4, n5, n6, n7, n8, n9, g10_2, g10_3, g10_4, g10_5, n11, n12, n13, n14, g15_2, g15_3, g15_4, g15_5, n16, n17, n18, n19, g40_0, g40_1, g40_2, g44_0, g44_2, g44_3, g44_5, g44_6, g44_10, g51_3, g51_4, g51_5, g51_6, g51_7, g57_3, g57_4, g57_5, g57_6, g57_7, n120, n121, g122_0, g122_4, g122_5, g122_6, g122_7, g122_8, g122_18, g122_19, g122_20, g122_21, g122_24, g122_25, g122_28, g122_29, g122_31, g122_32, g122_33, g122_39, g122_40, g122_41, g122_45, g122_46, g122_47, g122_48, n123, n124, n125, n126, n127, n128, n129, n130, n131, n132, n133, n134, n135, n136, n137, n138, n139, n140, n141, n142, n143, n144, n145, n146, n45, n46, n47, n48, n49, n50, decide_false, p2 138 (by decide)]
    · by_cases x : k = j
      · rw [x, hI_uI_e]
      · rw [hI_uI_s x]
        exact p4 k (by omega)
  · obtain ⟨p1, p2⟩ := p
    refine ⟨s.1, ?_, p2⟩
    show B_X12_plan_208 _ _ _ _ _ _ _ _ = _
    unfold B_X12_plan_208
    rw [p1]
    simp (disch := omega) only [↓m1_n, li_n, li_0, li_1, lt_y, lt_n, le_y, le_n, eq_n, nL, nLe, nEq, nEm, mEn, nLm, mLn, nLem, mLen, nI_add, nI_mul, nI_sub, nI_m, ib_nI, nx_nI, gd_y, bnd_e, bind_y, ↓reduceIte, hI_uI_o, hI_uI_s, hI_uI_e, hL_uI, hI_uL, hL_uL_o, hL_uL_s, hL_uL_e, and1_a, and1_b, Bool.not_true, Bool.not_false, Nat.zero_add, Nat.add_zero, Nat.add_sub_cancel, eq_self, ne_b, g0_0, g0_1, g0_2, g0_3, g0_4, g0_5, g0_6, g0_7, g0_8, g0_9, n1, n2, g3_2, g3_3, g3_4, g3_5, g3_6, g3_7, g3_8, g3_9, n4, n5, n6, n7, n8, n9, g10_2, g10_3, g10_4, g10_5, n11, n12, n13, n14, g15_2, g15_3, g15_4, g15_5, n16, n17, n18, n19, g40_0, g40_1, g40_2, g44_0, g44_2, g44_3, g44_5, g44_6, g44_10, g51_3, g51_4, g51_5, g51_6, g51_7, g57_3, g57_4, g57_5, g57_6, g57_7, n120, n121, g122_0, g122_4, g122_5, g122_6, g122_7, g122_8, g122_18, g122_19, g122_20, g122_21, g122_24, g122_25, g122_28, g122_29, g122_31, g122_32, g122_33, g122_39, g122_40, g122_41, g122_45, g122_46, g122_47, g122_48, n123, n124, n125, n126, n127, n128, n129, n130, n131, n132, n133, n134, n135, n136, n137, n138, n139, n140, n141, n142, n143, n144, n145, n146, n45, n46, n47, n48, n49, n50, decide_false]
/-- frame of the reference's search -/
def FrU (h h' : Hp) : Prop := (∀ d, d ≠ 133 → d ≠ 134 → d ≠ 138 → d ≠ 139 → d ≠ 122 → hI h' d = hI h d) ∧ (∀ k, k ≠ 26 → k ≠ 27 → hI h' 122 k = hI h 122 k) ∧ hL h' = hL h
theorem FrU.rf {h : Hp} : FrU h h := ⟨fun _ _ _ _ _ _ => rfl, fun _ _ _ => rfl, rfl⟩
theorem FrU.trans {a b c : Hp} (x : FrU a b) (y : FrU b c) : FrU a c := ⟨fun d p q r s t => (y.1 d p q r s t).trans (x.1 d p q r s t), fun k p q => (y.2.1 k p q).trans (x.2.1 k p q), y.2.2.trans x.2.2⟩
theorem FrU.rm {h h' : Hp} {A : Ho} (f : FrU h h') (r : RmH h 0 A) : RmH h' 0 A := RmH_congr (f.1 123 (by decide) (by decide) (by decide) (by decide) (by decide)) r
theorem FrP.u {h h' : Hp} (f : FrP h h') : FrU h h' := ⟨fun d p q _ _ t => f.1 d p q t, f.2.1, f.2.2⟩
def StM (h h' : Hp) (x : Int32) (R : Nat → Nat → Nat) (m : Nat) (o : Option (Nat × Nat)) : Prop := (o = none → x = mN ∧ hI h' 139 = hI h 139) ∧ ∀ p, o = some p → x = nI p.1 ∧ ∀ k, k < m → hI h' 139 k = nI (R p.2 k)
theorem StM.go {h a b : Hp} {x : Int32} {R : Nat → Nat → Nat} {m : Nat} {o : Option (Nat × Nat)} (e2 : hI b 139 = hI a 139) (s : StM h a x R m o) : StM h b x R m o := ⟨fun n => by rw [e2]; exact s.1 n, fun p n => by rw [e2]; exact s.2 p n⟩
theorem m_rows {h : Hp} {A : Ho} {q m d N n : Nat} {g cl : Nat → Nat} (ok : HoOk q A) (rm : RmH h 0 A) (hd : 0 < d) (hd4 : d ≤ 4) (hm : m ≤ 5) (hN : N ≤ 1024) (hcl : ∀ j, cl j < 8) (e137 : ∀ j, j < d → hI h 137 j = nI (cl j)) (hn : n ≤ 4) (hg : ∀ k, k < n → g k < 24) (k0 : hI h 122 30 = nI n) (kk : ∀ k, k < n → hI h 135 k = nI (g k % 8) ∧ hI h 136 k = nI (g k / 8)) : ∃ h' x, L_X12_plan_119 h 122 (nI d) (nI N) (nI m) mN (nI 0) = some (h', x) ∧ FrU h h' ∧ StM h h' x (rwN cl d m) m (selR (vlR A (rnk A g n) cl d m) N) := by
  have key : ∃ z, L_X12_plan_119 h 122 (nI d) (nI N) (nI m) mN (nI 0) = some z ∧ FrU h z.1 ∧ StM h z.1 z.2 (rwN cl d m) m (selR (vlR A (rnk A g n) cl d m) N) := by
    refine iterW_inv (fun r s => s.2.2 = nI r ∧ FrU h s.1 ∧ StM h s.1 s.2.1 (rwN cl d m) m (selR (vlR A (rnk A g n) cl d m) r)) _ N (fun r s hr p => ?_) (fun s p => ?_) ⟨rfl, FrU.rf, fun _ => ⟨rfl, rfl⟩, fun p e => by cases e⟩
    · obtain ⟨p1, p2, p3⟩ := p
      have E : ∀ d, d = 135 ∨ d = 136 ∨ d = 137 → hI s.1 d = hI h d := fun d x => p2.1 d (by omega) (by omega) (by omega) (by omega) (by omega)
      have sm : nI m - 1 = (if m = 0 then mN else nI (m - 1)) := by
        by_cases c : m = 0
        · rw [c]; rfl
        · rw [if_neg c, sub1, nI_m (by omega)]
      obtain ⟨h1, a1, a2, a3, a4⟩ := m_lay (h := s.1) (x5 := nI N) (x7 := s.2.1) (x8 := nI r) (m := m) (r := r) hd hd4 hm (by omega) hcl (fun j hj => by rw [E 137 (by omega)]; exact e137 j hj)
      have f1 : FrU s.1 h1 := ⟨fun d _ _ x _ _ => a2 d x, fun k _ _ => by rw [a2 122 (by decide)], a3⟩
      obtain ⟨h2, b1, b2⟩ := m_tries (h := h1) (m := m) (c := rwN cl d m r) (n := n) (g := g) ok ((p2.trans f1).rm rm) hm (fun k => hcl _) a4 hn hg (by rw [(p2.trans f1).2.1 30 (by decide) (by decide)]; exact k0) (fun k hk => by rw [a2 135 (by decide), a2 136 (by decide), E 135 (by omega), E 136 (by omega)]; exact kk k hk)
      have f2 : FrU s.1 h2 := f1.trans b2.u
      have g139 : hI h2 139 = hI s.1 139 := by rw [b2.1 139 (by decide) (by decide) (by decide), a2 139 (by decide)]
      cases eo : exB (desB (rnk A g n) (dkR A (rwN cl d m r) m)) (oN A - 1) with
      | true =>
        rw [eo, if_pos rfl] at b1
        have nn : vlR A (rnk A g n) cl d m r = none := by unfold vlR; rw [eo, if_pos rfl]
        refine ⟨(h2, s.2.1, nI (r + 1)), ?_, rfl, p2.trans f2, ?_⟩
        · show B_X12_plan_119 _ _ _ _ _ _ _ = _
          unfold B_X12_plan_119
          rw [p1, a1]
          simp (disch := omega) only [↓m1_n, li_n, li_0, li_1, lt_y, lt_n, le_y, le_n, eq_n, nL, nLe, nEq, nEm, mEn, nLm, mLn, nLem, mLen, nI_add, nI_mul, nI_sub, nI_m, ib_nI, nx_nI, gd_y, bnd_e, bind_y, ↓reduceIte, hI_uI_o, hI_uI_s, hI_uI_e, hL_uI, hI_uL, hL_uL_o, hL_uL_s, hL_uL_e, and1_a, and1_b, Bool.not_true, Bool.not_false, Nat.zero_add, Nat.add_zero, Nat.add_sub_cancel, eq_self, ne_b, g0_0, g0_1, g0_2, g0_3, g0_4, g0_5, g0_6, g0_7, g0_8, g0_9, n1, n2, g3_2, g3_3, g3_4, g3_5, g3_6, g3_7, g3_8, g3_9, n4, n5, n6, n7, n8, n9, g10_2, g10_3, g10_4, g10_5, n11, n12, n13, n14, g15_2, g15_3, g15_4, g15_5, n16, n17, n18, n19, g40_0, g40_1, g40_2, g44_0, g44_2, g44_3, g44_5, g44_6, g44_10, g51_3, g51_4, g51_5, g51_6, g51_7, g57_3, g57_4, g57_5, g57_6, g57_7, n120, n121, g122_0, g122_4, g122_5, g122_6, g122_7, g122_8, g122_18, g122_19, g122_20, g122_21, g122_24, g122_25, g122_28, g122_29, g122_31, g122_32, g122_33, g122_39, g122_40, g122_41, g122_45, g122_46, g122_47, g122_48, n123, n124, n125, n126, n127, n128, n129, n130, n131, n132, n133, n134, n135, n136, n137, n138, n139, n140, n141, n142, n143, n144, n145, n146, n45, n46, n47, n48, n49, n50, decide_false, b1]
        · rw [selR_s nn]
          exact p3.go g139
      | false =>
        rw [eo, if_neg Bool.false_ne_true] at b1
        have sv : vlR A (rnk A g n) cl d m r = some (hdR A (rwN cl d m r) m) := by unfold vlR; rw [eo, if_neg Bool.false_ne_true]
        have lv := vlR_le sv
        obtain ⟨h3, c1, c2, c3, c4⟩ := m_keep (h := h2) (m := m) (x4 := nI d) (x5 := nI N) (x7 := nI (hdR A (rwN cl d m r) m)) (x8 := nI r) hm
        have f3 : FrU s.1 h3 := f2.trans ⟨fun d _ _ _ x _ => c2 d x, fun k _ _ => by rw [c2 122 (by decide)], c3⟩
        have s3 : StM h h3 (nI (hdR A (rwN cl d m r) m)) (rwN cl d m) m (some (hdR A (rwN cl d m r) m, r)) := by
          refine ⟨fun e => (by cases e), fun p e => ?_⟩
          cases e
          refine ⟨rfl, fun k hk => ?_⟩
          rw [c4 k hk, b2.1 138 (by decide) (by decide) (by decide)]
          exact a4 k hk
        cases es : selR (vlR A (rnk A g n) cl d m) r with
        | none =>
          rw [es] at p3
          have x0 := (p3.1 rfl).1
          rw [x0] at a1
          refine ⟨(h3, nI (hdR A (rwN cl d m r) m), nI (r + 1)), ?_, rfl, p2.trans f3, ?_⟩
          · show B_X12_plan_119 _ _ _ _ _ _ _ = _
            unfold B_X12_plan_119
            rw [p1, x0, a1]
            simp (disch := omega) only [↓m1_n, li_n, li_0, li_1, lt_y, lt_n, le_y, le_n, eq_n, nL, nLe, nEq, nEm, mEn, nLm, mLn, nLem, mLen, nI_add, nI_mul, nI_sub, nI_m, ib_nI, nx_nI, gd_y, bnd_e, bind_y, ↓reduceIte, hI_uI_o, hI_uI_s, hI_uI_e, hL_uI, hI_uL, hL_uL_o, hL_uL_s, hL_uL_e, and1_a, and1_b, Bool.not_true, Bool.not_false, Nat.zero_add, Nat.add_zero, Nat.add_sub_cancel, eq_self, ne_b, g0_0, g0_1, g0_2, g0_3, g0_4, g0_5, g0_6, g0_7, g0_8, g0_9, n1, n2, g3_2, g3_3, g3_4, g3_5, g3_6, g3_7, g3_8, g3_9, n4, n5, n6, n7, n8, n9, g10_2, g10_3, g10_4, g10_5, n11, n12, n13, n14, g15_2, g15_3, g15_4, g15_5, n16, n17, n18, n19, g40_0, g40_1, g40_2, g44_0, g44_2, g44_3, g44_5, g44_6, g44_10, g51_3, g51_4, g51_5, g51_6, g51_7, g57_3, g57_4, g57_5, g57_6, g57_7, n120, n121, g122_0, g122_4, g122_5, g122_6, g122_7, g122_8, g122_18, g122_19, g122_20, g122_21, g122_24, g122_25, g122_28, g122_29, g122_31, g122_32, g122_33, g122_39, g122_40, g122_41, g122_45, g122_46, g122_47, g122_48, n123, n124, n125, n126, n127, n128, n129, n130, n131, n132, n133, n134, n135, n136, n137, n138, n139, n140, n141, n142, n143, n144, n145, n146, n45, n46, n47, n48, n49, n50, decide_false, b1, c1]
          · rw [selR_y sv es]; exact s3
        | some p =>
          rw [es] at p3
          have x0 := (p3.2 p rfl).1
          rw [x0] at a1
          have lp := vlR_le (selR_lt _ es).2
          by_cases l : hdR A (rwN cl d m r) m < p.1
          · refine ⟨(h3, nI (hdR A (rwN cl d m r) m), nI (r + 1)), ?_, rfl, p2.trans f3, ?_⟩
            · show B_X12_plan_119 _ _ _ _ _ _ _ = _
              unfold B_X12_plan_119
              rw [p1, x0, a1]
              simp (disch := omega) only [↓m1_n, li_n, li_0, li_1, lt_y, lt_n, le_y, le_n, eq_n, nL, nLe, nEq, nEm, mEn, nLm, mLn, nLem, mLen, nI_add, nI_mul, nI_sub, nI_m, ib_nI, nx_nI, gd_y, bnd_e, bind_y, ↓reduceIte, hI_uI_o, hI_uI_s, hI_uI_e, hL_uI, hI_uL, hL_uL_o, hL_uL_s, hL_uL_e, and1_a, and1_b, Bool.not_true, Bool.not_false, Nat.zero_add, Nat.add_zero, Nat.add_sub_cancel, eq_self, ne_b, g0_0, g0_1, g0_2, g0_3, g0_4, g0_5, g0_6, g0_7, g0_8, g0_9, n1, n2, g3_2, g3_3, g3_4, g3_5, g3_6, g3_7, g3_8, g3_9, n4, n5, n6, n7, n8, n9, g10_2, g10_3, g10_4, g10_5, n11, n12, n13, n14, g15_2, g15_3, g15_4, g15_5, n16, n17, n18, n19, g40_0, g40_1, g40_2, g44_0, g44_2, g44_3, g44_5, g44_6, g44_10, g51_3, g51_4, g51_5, g51_6, g51_7, g57_3, g57_4, g57_5, g57_6, g57_7, n120, n121, g122_0, g122_4, g122_5, g122_6, g122_7, g122_8, g122_18, g122_19, g122_20, g122_21, g122_24, g122_25, g122_28, g122_29, g122_31, g122_32, g122_33, g122_39, g122_40, g122_41, g122_45, g122_46, g122_47, g122_48, n123, n124, n125, n126, n127, n128, n129, n130, n131, n132, n133, n134, n135, n136, n137, n138, n139, n140, n141, n142, n143, n144, n145, n146, n45, n46, n47, n48, n49, n50, decide_false, b1, c1]
            · rw [selR_l sv es l]; exact s3
          · refine ⟨(h2, nI p.1, nI (r + 1)), ?_, rfl, p2.trans f2, ?_⟩
            · show B_X12_plan_119 _ _ _ _ _ _ _ = _
              unfold B_X12_plan_119
              rw [p1, x0, a1]
              simp (disch := omega) only [↓m1_n, li_n, li_0, li_1, lt_y, lt_n, le_y, le_n, eq_n, nL, nLe, nEq, nEm, mEn, nLm, mLn, nLem, mLen, nI_add, nI_mul, nI_sub, nI_m, ib_nI, nx_nI, gd_y, bnd_e, bind_y, ↓reduceIte, hI_uI_o, hI_uI_s, hI_uI_e, hL_uI, hI_uL, hL_uL_o, hL_uL_s, hL_uL_e, and1_a, and1_b, Bool.not_true, Bool.not_false, Nat.zero_add, Nat.add_zero, Nat.add_sub_cancel, eq_self, ne_b, g0_0, g0_1, g0_2, g0_3, g0_4, g0_5, g0_6, g0_7, g0_8, g0_9, n1, n2, g3_2, g3_3, g3_4, g3_5, g3_6, g3_7, g3_8, g3_9, n4, n5, n6, n7, n8, n9, g10_2, g10_3, g10_4, g10_5, n11, n12, n13, n14, g15_2, g15_3, g15_4, g15_5, n16, n17, n18, n19, g40_0, g40_1, g40_2, g44_0, g44_2, g44_3, g44_5, g44_6, g44_10, g51_3, g51_4, g51_5, g51_6, g51_7, g57_3, g57_4, g57_5, g57_6, g57_7, n120, n121, g122_0, g122_4, g122_5, g122_6, g122_7, g122_8, g122_18, g122_19, g122_20, g122_21, g122_24, g122_25, g122_28, g122_29, g122_31, g122_32, g122_33, g122_39, g122_40, g122_41, g122_45, g122_46, g122_47, g122_48, n123, n124, n125, n126, n127, n128, n129, n130, n131, n132, n133, n134, n135, n136, n137, n138, n139, n140, n141, n142, n143, n144, n145, n146, n45, n46, n47, n48, n49, n50, decide_false, b1, c1]
            · rw [selR_g sv es l]
              rw [x0] at p3
              exact p3.go g139
    · obtain ⟨p1, p2, p3⟩ := p
      refine ⟨(s.1, s.2.1), ?_, p2, p3⟩
      show B_X12_plan_119 _ _ _ _ _ _ _ = _
      unfold B_X12_plan_119
      rw [p1, if_pos (Int32.le_refl _)]
  obtain ⟨z, k1, k2⟩ := key
  exact ⟨z.1, z.2, k1, k2⟩
theorem m_seek {h : Hp} {A : Ho} {q d n : Nat} {g cl : Nat → Nat} (ok : HoOk q A) (rm : RmH h 0 A) (hd : 0 < d) (hd4 : d ≤ 4) (hcl : ∀ j, cl j < 8) (e137 : ∀ j, j < d → hI h 137 j = nI (cl j)) (hn : n ≤ 4) (hg : ∀ k, k < n → g k < 24) (k0 : hI h 122 30 = nI n) (kk : ∀ k, k < n → hI h 135 k = nI (g k % 8) ∧ hI h 136 k = nI (g k / 8)) : ∃ h', FrU h h' ∧ ((L_X12_plan_107 h 122 (nI d) (nI 1) (nI 0) = some (uI h' 122 1 (nI 6), mN) ∧ hI h' 139 = hI h 139 ∧ ∀ k, k < 6 → selR (vlR A (rnk A g n) cl d k) (d ^ k) = none) ∨ ∃ m p, L_X12_plan_107 h 122 (nI d) (nI 1) (nI 0) = some (uI (uI (uI h' 122 34 (nI m)) 122 35 (nI p.1)) 122 1 (nI 0), nI m) ∧ m < 6 ∧ (∀ k, k < m → selR (vlR A (rnk A g n) cl d k) (d ^ k) = none) ∧ selR (vlR A (rnk A g n) cl d m) (d ^ m) = some p ∧ ∀ k, k < m → hI h' 139 k = nI (rwN cl d m p.2 k)) := by
  have key : ∃ z, L_X12_plan_107 h 122 (nI d) (nI 1) (nI 0) = some z ∧ ∃ h', FrU h h' ∧ ((z = (uI h' 122 1 (nI 6), mN) ∧ hI h' 139 = hI h 139 ∧ ∀ k, k < 6 → selR (vlR A (rnk A g n) cl d k) (d ^ k) = none) ∨ ∃ m p, z = (uI (uI (uI h' 122 34 (nI m)) 122 35 (nI p.1)) 122 1 (nI 0), nI m) ∧ m < 6 ∧ (∀ k, k < m → selR (vlR A (rnk A g n) cl d k) (d ^ k) = none) ∧ selR (vlR A (rnk A g n) cl d m) (d ^ m) = some p ∧ ∀ k, k < m → hI h' 139 k = nI (rwN cl d m p.2 k)) := by
    refine iterW_inv2 (fun j s => s.2.1 = nI (d ^ j) ∧ s.2.2 = nI j ∧ FrU h s.1 ∧ hI s.1 139 = hI h 139 ∧ ∀ k, k < j → selR (vlR A (rnk A g n) cl d k) (d ^ k) = none) _ 6 (fun j s hj p => ?_) (fun s p => ?_) ⟨rfl, rfl, FrU.rf, rfl, fun k hk => absurd hk (Nat.not_lt_zero k)⟩
    · obtain ⟨p1, p2, p3, p4, p5⟩ := p
      have E : ∀ d, d = 135 ∨ d = 136 ∨ d = 137 → hI s.1 d = hI h d := fun d x => p3.1 d (by omega) (by omega) (by omega) (by omega) (by omega)
      have pw := pow_b (m := j) hd4 (by omega)
      obtain ⟨h1, x, a1, a2, a3⟩ := m_rows (h := s.1) (m := j) (N := d ^ j) (n := n) (g := g) (cl := cl) ok (p3.rm rm) hd hd4 (by omega) pw hcl (fun i hi => by rw [E 137 (by omega)]; exact e137 i hi) hn hg (by rw [p3.2.1 30 (by decide) (by decide)]; exact k0) (fun k hk => by rw [E 135 (by omega), E 136 (by omega)]; exact kk k hk)
      cases es : selR (vlR A (rnk A g n) cl d j) (d ^ j) with
      | none =>
        rw [es] at a3
        obtain ⟨y1, y2⟩ := a3.1 rfl
        refine Or.inl ⟨(h1, nI (d ^ (j + 1)), nI (j + 1)), ?_, rfl, rfl, p3.trans a2, by rw [y2, p4], fun k hk => ?_⟩
        · show B_X12_plan_107 _ _ _ _ _ = _
          unfold B_X12_plan_107
          rw [y1] at a1
          rw [p1, p2, Nat.pow_succ]
          generalize d ^ j = N at *
          simp (disch := omega) only [↓m1_n, li_n, li_0, li_1, lt_y, lt_n, le_y, le_n, eq_n, nL, nLe, nEq, nEm, mEn, nLm, mLn, nLem, mLen, nI_add, nI_mul, nI_sub, nI_m, ib_nI, nx_nI, gd_y, bnd_e, bind_y, ↓reduceIte, hI_uI_o, hI_uI_s, hI_uI_e, hL_uI, hI_uL, hL_uL_o, hL_uL_s, hL_uL_e, and1_a, and1_b, Bool.not_true, Bool.not_false, Nat.zero_add, Nat.add_zero, Nat.add_sub_cancel, eq_self, ne_b, g0_0, g0_1, g0_2, g0_3, g0_4, g0_5, g0_6, g0_7, g0_8, g0_9, n1, n2, g3_2, g3_3, g3_4, g3_5, g3_6, g3_7, g3_8, g3_9, n4, n5, n6, n7, n8, n9, g10_2, g10_3, g10_4, g10_5, n11, n12, n13, n14, g15_2, g15_3, g15_4, g15_5, n16, n17, n18, n19, g40_0, g40_1, g40_2, g44_0, g44_2, g44_3, g44_5, g44_6, g44_10, g51_3, g51_4, g51_5, g51_6, g51_7, g57_3, g57_4, g57_5, g57_6, g57_7, n120, n121, g122_0, g122_4, g122_5, g122_6, g122_7, g122_8, g122_18, g122_19, g122_20, g122_21, g122_24, g122_25, g122_28, g122_29, g122_31, g122_32, g122_33, g122_39, g122_40, g122_41, g122_45, g122_46, g122_47, g122_48, n123, n124, n125, n126, n127, n128, n129, n130, n131, n132, n133, n134, n135, n136, n137, n138, n139, n140, n141, n142, n143, n144, n145, n146, n45, n46, n47, n48, n49, n50, decide_false, a1]
        · by_cases c : k = j
          · rw [c]; exact es
          · exact p5 k (by omega)
      | some p =>
        rw [es] at a3
        obtain ⟨y1, y2⟩ := a3.2 p rfl
        have lp := vlR_le (selR_lt _ es).2
        refine Or.inr ⟨(uI (uI (uI h1 122 34 (nI j)) 122 35 (nI p.1)) 122 1 (nI 0), nI j), ?_, h1, p3.trans a2, Or.inr ⟨j, p, rfl, hj, p5, es, y2⟩⟩
        show B_X12_plan_107 _ _ _ _ _ = _
        unfold B_X12_plan_107 F_X12_gives
        rw [y1] at a1
        rw [p1, p2]
        generalize d ^ j = N at *
        simp (disch := omega) only [↓m1_n, li_n, li_0, li_1, lt_y, lt_n, le_y, le_n, eq_n, nL, nLe, nEq, nEm, mEn, nLm, mLn, nLem, mLen, nI_add, nI_mul, nI_sub, nI_m, ib_nI, nx_nI, gd_y, bnd_e, bind_y, ↓reduceIte, hI_uI_o, hI_uI_s, hI_uI_e, hL_uI, hI_uL, hL_uL_o, hL_uL_s, hL_uL_e, and1_a, and1_b, Bool.not_true, Bool.not_false, Nat.zero_add, Nat.add_zero, Nat.add_sub_cancel, eq_self, ne_b, g0_0, g0_1, g0_2, g0_3, g0_4, g0_5, g0_6, g0_7, g0_8, g0_9, n1, n2, g3_2, g3_3, g3_4, g3_5, g3_6, g3_7, g3_8, g3_9, n4, n5, n6, n7, n8, n9, g10_2, g10_3, g10_4, g10_5, n11, n12, n13, n14, g15_2, g15_3, g15_4, g15_5, n16, n17, n18, n19, g40_0, g40_1, g40_2, g44_0, g44_2, g44_3, g44_5, g44_6, g44_10, g51_3, g51_4, g51_5, g51_6, g51_7, g57_3, g57_4, g57_5, g57_6, g57_7, n120, n121, g122_0, g122_4, g122_5, g122_6, g122_7, g122_8, g122_18, g122_19, g122_20, g122_21, g122_24, g122_25, g122_28, g122_29, g122_31, g122_32, g122_33, g122_39, g122_40, g122_41, g122_45, g122_46, g122_47, g122_48, n123, n124, n125, n126, n127, n128, n129, n130, n131, n132, n133, n134, n135, n136, n137, n138, n139, n140, n141, n142, n143, n144, n145, n146, n45, n46, n47, n48, n49, n50, decide_false, a1]
    · obtain ⟨p1, p2, p3, p4, p5⟩ := p
      refine ⟨(uI s.1 122 1 (nI 6), mN), ?_, s.1, p3, Or.inl ⟨rfl, p4, p5⟩⟩
      show B_X12_plan_107 _ _ _ _ _ = _
      unfold B_X12_plan_107 F_X12_refuse
      rw [p2]
      simp (disch := omega) only [↓m1_n, li_n, li_0, li_1, lt_y, lt_n, le_y, le_n, eq_n, nL, nLe, nEq, nEm, mEn, nLm, mLn, nLem, mLen, nI_add, nI_mul, nI_sub, nI_m, ib_nI, nx_nI, gd_y, bnd_e, bind_y, ↓reduceIte, hI_uI_o, hI_uI_s, hI_uI_e, hL_uI, hI_uL, hL_uL_o, hL_uL_s, hL_uL_e, and1_a, and1_b, Bool.not_true, Bool.not_false, Nat.zero_add, Nat.add_zero, Nat.add_sub_cancel, eq_self, ne_b, g0_0, g0_1, g0_2, g0_3, g0_4, g0_5, g0_6, g0_7, g0_8, g0_9, n1, n2, g3_2, g3_3, g3_4, g3_5, g3_6, g3_7, g3_8, g3_9, n4, n5, n6, n7, n8, n9, g10_2, g10_3, g10_4, g10_5, n11, n12, n13, n14, g15_2, g15_3, g15_4, g15_5, n16, n17, n18, n19, g40_0, g40_1, g40_2, g44_0, g44_2, g44_3, g44_5, g44_6, g44_10, g51_3, g51_4, g51_5, g51_6, g51_7, g57_3, g57_4, g57_5, g57_6, g57_7, n120, n121, g122_0, g122_4, g122_5, g122_6, g122_7, g122_8, g122_18, g122_19, g122_20, g122_21, g122_24, g122_25, g122_28, g122_29, g122_31, g122_32, g122_33, g122_39, g122_40, g122_41, g122_45, g122_46, g122_47, g122_48, n123, n124, n125, n126, n127, n128, n129, n130, n131, n132, n133, n134, n135, n136, n137, n138, n139, n140, n141, n142, n143, n144, n145, n146, n45, n46, n47, n48, n49, n50, decide_false]
  obtain ⟨z, k1, h', k2, k3⟩ := key
  refine ⟨h', k2, ?_⟩
  rcases k3 with ⟨e, k3⟩ | ⟨m, p, e, k3⟩
  · exact Or.inl ⟨by rw [k1, e], k3⟩
  · exact Or.inr ⟨m, p, by rw [k1, e], k3⟩
