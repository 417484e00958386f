/-! ===== fewest: the component's searches ===== -/
theorem one_body {h : Hp} {A : Ho} {col i : Nat} {t : Nat → Int64} {c : Nat → Int} (g : CG h t c) (n13 : misV A col i ≠ 13) : ∃ h1, F_X4_change h 51 (nI (rdc A col (i / 3))) (nI (misV A col i)) = some h1 ∧ F_X4_closed h1 51 = some (if okB t (chg c (rdc A col (i / 3)) (misV A col i)) then nI 1 else nI 0) ∧ CG h1 t (chg c (rdc A col (i / 3)) (misV A col i)) ∧ hI h1 = hI h ∧ (∀ d, d ≠ 54 → hL h1 d = hL h d) ∧ ∀ h1', CG h1' t (chg c (rdc A col (i / 3)) (misV A col i)) → ∃ h2, F_X4_change h1' 51 (nI (misV A col i)) (nI (rdc A col (i / 3))) = some h2 ∧ CG h2 t c ∧ hI h2 = hI h1' ∧ ∀ d, d ≠ 54 → hL h2 d = hL h1' d := by
  have mv := misV_le (A := A) (col := col) (i := i)
  have rl := rdN_le (oH A (i / 3) col)
  obtain ⟨h1, a1, a2, a3, a4⟩ := c_change (p := rdc A col (i / 3)) (v := misV A col i) g (by unfold rdc; omega) (by omega)
  refine ⟨h1, a1, c_closed a2, a2, a3, a4, fun h1' e => ?_⟩
  obtain ⟨h2, b1, b2, b3, b4⟩ := c_change (h := h1') (p := misV A col i) (v := rdc A col (i / 3)) e (by omega) (by unfold rdc; omega)
  rw [chg_back] at b2
  exact ⟨h2, b1, b2, b3, b4⟩
theorem CG_uI {h : Hp} {t : Nat → Int64} {c : Nat → Int} {d k : Nat} {v : Int32} (g : CG h t c) : CG (uI h d k v) t c := g
theorem c_one14 {h : Hp} {A : Ho} {q col cd : Nat} {t : Nat → Int64} {c : Nat → Int} (ok : HoOk q A) (cm : CM h A col) (hc : col < 8) (g : CG h t c) (hcd : cd < oN A) (tr : TR h 0 (hit1 A col t c) 0 (3 * cd)) : ∃ h', L_X4_searchOne_14 h 51 (nI cd) (nI (cnt (hit1 A col t c) (3 * cd))) (nI 0) = some (h', nI (cnt (hit1 A col t c) (3 * cd + 3))) ∧ FrF h h' ∧ CG h' t c ∧ TR h' 0 (hit1 A col t c) 0 (3 * cd + 3) := by
  have hA := ok.1
  have key : ∃ r, L_X4_searchOne_14 h 51 (nI cd) (nI (cnt (hit1 A col t c) (3 * cd))) (nI 0) = some r ∧ ∃ h', r = (h', nI (cnt (hit1 A col t c) (3 * cd + 3))) ∧ FrF h h' ∧ CG h' t c ∧ TR h' 0 (hit1 A col t c) 0 (3 * cd + 3) := by
    refine iterW_inv (fun k s => s.2.2 = nI k ∧ s.2.1 = nI (cnt (hit1 A col t c) (3 * cd + k)) ∧ FrF h s.1 ∧ CG s.1 t c ∧ TR s.1 0 (hit1 A col t c) 0 (3 * cd + k)) _ 3 (fun k s hk p => ?_) (fun s p => ?_) ⟨rfl, rfl, FrF.rf, g, tr⟩
    · obtain ⟨p1, p2, p3, p4, p5⟩ := p
      have cms := p3.cm cm
      have MR := c_misr (i := 3 * cd + k) ok cms hc (by omega)
      rw [show (3 * cd + k) / 3 = cd by omega, show (3 * cd + k) % 3 = k by omega] at MR
      have mv := misV_le (A := A) (col := col) (i := 3 * cd + k)
      have cl := cnt_le (hit1 A col t c) (3 * cd + k)
      by_cases m13 : misV A col (3 * cd + k) = 13
      · have hf : hit1 A col t c (3 * cd + k) = false := by simp [hit1, m13]
        rw [if_pos m13] at MR
        refine ⟨(s.1, nI (cnt (hit1 A col t c) (3 * cd + k)), nI (k + 1)), ?_, rfl, ?_, p3, p4, TR_n (m := 3 * cd + k) p5 hf⟩
        · show B_X4_searchOne_14 _ _ _ _ _ = _
          unfold B_X4_searchOne_14
          rw [p1, p2]
          simp (disch := omega) only [↓m1_n, li_n, li_0, li_1, lt_y, lt_n, le_y, le_n, eq_n, nL, nLe, nEq, nEm, mEn, nLm, mLn, nLem, mLen, nI_add, nI_mul, nI_sub, nI_m, ib_nI, nx_nI, gd_y, bnd_e, bind_y, ↓reduceIte, hI_uI_o, hI_uI_s, hI_uI_e, hL_uI, hI_uL, hL_uL_o, hL_uL_s, hL_uL_e, and1_a, and1_b, Bool.not_true, Bool.not_false, Nat.zero_add, Nat.add_zero, Nat.add_sub_cancel, eq_self, ne_b, g0_0, g0_1, g0_2, g0_3, g0_4, g0_5, g0_6, g0_7, g0_8, g0_9, n1, n2, g3_2, g3_3, g3_4, g3_5, g3_6, g3_7, g3_8, g3_9, n4, n5, n6, n7, n8, n9, g10_2, g10_3, g10_4, g10_5, n11, n12, n13, n14, g15_2, g15_3, g15_4, g15_5, n16, n17, n18, n19, g40_0, g40_1, g40_2, g44_0, g44_2, g44_3, g44_5, g44_6, g44_10, g51_3, g51_4, g51_5, g51_6, g51_7, g57_3, g57_4, g57_5, g57_6, g57_7, n120, n121, g122_0, g122_4, g122_5, g122_6, g122_7, g122_8, g122_18, g122_19, g122_20, g122_21, g122_24, g122_25, g122_28, g122_29, g122_31, g122_32, g122_33, g122_39, g122_40, g122_41, g122_45, g122_46, g122_47, g122_48, n123, n124, n125, n126, n127, n128, n129, n130, n131, n132, n133, n134, n135, n136, n137, n138, n139, n140, n141, n142, n143, n144, n145, n146, MR]
        · show nI _ = nI _
          rw [← Nat.add_assoc, cnt, hf, if_neg Bool.false_ne_true, Nat.add_zero]
      · rw [if_neg m13] at MR
        obtain ⟨h1, a1, a2, a3, a4, a5, a6⟩ := one_body (i := 3 * cd + k) p4 m13
        have pl : hI s.1 55 cd = nI (rdc A col cd) := (cms.2.2 cd hcd).1
        have ed : (3 * cd + k) / 3 = cd := by omega
        have em : (3 * cd + k) % 3 = k := by omega
        rw [ed] at a1 a2 a3 a6
        have hit : hit1 A col t c (3 * cd + k) = okB t (chg c (rdc A col cd) (misV A col (3 * cd + k))) := by
          unfold hit1
          rw [ed, decide_eq_true m13, Bool.true_and]
        cases eo : okB t (chg c (rdc A col cd) (misV A col (3 * cd + k))) with
        | false =>
          rw [eo] at a2 hit
          obtain ⟨h2, b1, b2, b3, b4⟩ := a6 h1 a3
          have f2 : FrF s.1 h2 := ⟨fun d _ => by rw [b3, a4], fun d hd => (b4 d hd).trans (a5 d hd)⟩
          refine ⟨(h2, nI (cnt (hit1 A col t c) (3 * cd + k)), nI (k + 1)), ?_, rfl, ?_, p3.trans f2, b2, TR_n (h := h2) (m := 3 * cd + k) (fun i hi => by rw [b3, a4]; exact p5 i hi) hit⟩
          · show B_X4_searchOne_14 _ _ _ _ _ = _
            unfold B_X4_searchOne_14
            rw [p1, p2]
            simp (disch := omega) only [↓m1_n, li_n, li_0, li_1, lt_y, lt_n, le_y, le_n, eq_n, nL, nLe, nEq, nEm, mEn, nLm, mLn, nLem, mLen, nI_add, nI_mul, nI_sub, nI_m, ib_nI, nx_nI, gd_y, bnd_e, bind_y, ↓reduceIte, hI_uI_o, hI_uI_s, hI_uI_e, hL_uI, hI_uL, hL_uL_o, hL_uL_s, hL_uL_e, and1_a, and1_b, Bool.not_true, Bool.not_false, Nat.zero_add, Nat.add_zero, Nat.add_sub_cancel, eq_self, ne_b, g0_0, g0_1, g0_2, g0_3, g0_4, g0_5, g0_6, g0_7, g0_8, g0_9, n1, n2, g3_2, g3_3, g3_4, g3_5, g3_6, g3_7, g3_8, g3_9, n4, n5, n6, n7, n8, n9, g10_2, g10_3, g10_4, g10_5, n11, n12, n13, n14, g15_2, g15_3, g15_4, g15_5, n16, n17, n18, n19, g40_0, g40_1, g40_2, g44_0, g44_2, g44_3, g44_5, g44_6, g44_10, g51_3, g51_4, g51_5, g51_6, g51_7, g57_3, g57_4, g57_5, g57_6, g57_7, n120, n121, g122_0, g122_4, g122_5, g122_6, g122_7, g122_8, g122_18, g122_19, g122_20, g122_21, g122_24, g122_25, g122_28, g122_29, g122_31, g122_32, g122_33, g122_39, g122_40, g122_41, g122_45, g122_46, g122_47, g122_48, n123, n124, n125, n126, n127, n128, n129, n130, n131, n132, n133, n134, n135, n136, n137, n138, n139, n140, n141, n142, n143, n144, n145, n146, MR, n55, pl, a1, a2, a4, b1, Bool.false_eq_true]
          · show nI _ = nI _
            rw [← Nat.add_assoc, cnt, hit, if_neg Bool.false_ne_true, Nat.add_zero]
        | true =>
          rw [eo] at a2 hit
          by_cases z : cnt (hit1 A col t c) (3 * cd + k) = 0
          · obtain ⟨h2, b1, b2, b3, b4⟩ := a6 (uI (uI h1 53 0 (nI cd)) 53 1 (nI k)) (CG_uI (CG_uI a3))
            have f2 : FrF s.1 h2 := ⟨fun d hd => by rw [b3, hI_uI_o hd, hI_uI_o hd, a4], fun d hd => (b4 d hd).trans (a5 d hd)⟩
            refine ⟨(h2, nI (cnt (hit1 A col t c) (3 * cd + k) + 1), nI (k + 1)), ?_, rfl, ?_, p3.trans f2, b2, TR_y (m := 3 * cd + k) p5 hit (fun _ => ?_) (fun e => absurd z e)⟩
            · have pl1 : hI (uI (uI h1 53 0 (nI cd)) 53 1 (nI k)) 55 cd = nI (rdc A col cd) := by rw [hI_uI_o (by decide), hI_uI_o (by decide), a4]; exact pl
              show B_X4_searchOne_14 _ _ _ _ _ = _
              unfold B_X4_searchOne_14 F_X4_keepFirst
              rw [p1, p2]
              simp (disch := omega) only [↓m1_n, li_n, li_0, li_1, lt_y, lt_n, le_y, le_n, eq_n, nL, nLe, nEq, nEm, mEn, nLm, mLn, nLem, mLen, nI_add, nI_mul, nI_sub, nI_m, ib_nI, nx_nI, gd_y, bnd_e, bind_y, ↓reduceIte, hI_uI_o, hI_uI_s, hI_uI_e, hL_uI, hI_uL, hL_uL_o, hL_uL_s, hL_uL_e, and1_a, and1_b, Bool.not_true, Bool.not_false, Nat.zero_add, Nat.add_zero, Nat.add_sub_cancel, eq_self, ne_b, g0_0, g0_1, g0_2, g0_3, g0_4, g0_5, g0_6, g0_7, g0_8, g0_9, n1, n2, g3_2, g3_3, g3_4, g3_5, g3_6, g3_7, g3_8, g3_9, n4, n5, n6, n7, n8, n9, g10_2, g10_3, g10_4, g10_5, n11, n12, n13, n14, g15_2, g15_3, g15_4, g15_5, n16, n17, n18, n19, g40_0, g40_1, g40_2, g44_0, g44_2, g44_3, g44_5, g44_6, g44_10, g51_3, g51_4, g51_5, g51_6, g51_7, g57_3, g57_4, g57_5, g57_6, g57_7, n120, n121, g122_0, g122_4, g122_5, g122_6, g122_7, g122_8, g122_18, g122_19, g122_20, g122_21, g122_24, g122_25, g122_28, g122_29, g122_31, g122_32, g122_33, g122_39, g122_40, g122_41, g122_45, g122_46, g122_47, g122_48, n123, n124, n125, n126, n127, n128, n129, n130, n131, n132, n133, n134, n135, n136, n137, n138, n139, n140, n141, n142, n143, n144, n145, n146, MR, n55, n53, pl, a1, a2, a4, z, b1, Nat.reduceAdd]
            · show nI _ = nI _
              rw [← Nat.add_assoc, cnt, hit, if_pos rfl]
            · rw [b3, Nat.zero_add, ed, em]
              exact ⟨by simp (disch := omega) only [↓m1_n, li_n, li_0, li_1, lt_y, lt_n, le_y, le_n, eq_n, nL, nLe, nEq, nEm, mEn, nLm, mLn, nLem, mLen, nI_add, nI_mul, nI_sub, nI_m, ib_nI, nx_nI, gd_y, bnd_e, bind_y, ↓reduceIte, hI_uI_o, hI_uI_s, hI_uI_e, hL_uI, hI_uL, hL_uL_o, hL_uL_s, hL_uL_e, and1_a, and1_b, Bool.not_true, Bool.not_false, Nat.zero_add, Nat.add_zero, Nat.add_sub_cancel, eq_self, ne_b, g0_0, g0_1, g0_2, g0_3, g0_4, g0_5, g0_6, g0_7, g0_8, g0_9, n1, n2, g3_2, g3_3, g3_4, g3_5, g3_6, g3_7, g3_8, g3_9, n4, n5, n6, n7, n8, n9, g10_2, g10_3, g10_4, g10_5, n11, n12, n13, n14, g15_2, g15_3, g15_4, g15_5, n16, n17, n18, n19, g40_0, g40_1, g40_2, g44_0, g44_2, g44_3, g44_5, g44_6, g44_10, g51_3, g51_4, g51_5, g51_6, g51_7, g57_3, g57_4, g57_5, g57_6, g57_7, n120, n121, g122_0, g122_4, g122_5, g122_6, g122_7, g122_8, g122_18, g122_19, g122_20, g122_21, g122_24, g122_25, g122_28, g122_29, g122_31, g122_32, g122_33, g122_39, g122_40, g122_41, g122_45, g122_46, g122_47, g122_48, n123, n124, n125, n126, n127, n128, n129, n130, n131, n132, n133, n134, n135, n136, n137, n138, n139, n140, n141, n142, n143, n144, n145, n146], by simp (disch := omega) only [↓m1_n, li_n, li_0, li_1, lt_y, lt_n, le_y, le_n, eq_n, nL, nLe, nEq, nEm, mEn, nLm, mLn, nLem, mLen, nI_add, nI_mul, nI_sub, nI_m, ib_nI, nx_nI, gd_y, bnd_e, bind_y, ↓reduceIte, hI_uI_o, hI_uI_s, hI_uI_e, hL_uI, hI_uL, hL_uL_o, hL_uL_s, hL_uL_e, and1_a, and1_b, Bool.not_true, Bool.not_false, Nat.zero_add, Nat.add_zero, Nat.add_sub_cancel, eq_self, ne_b, g0_0, g0_1, g0_2, g0_3, g0_4, g0_5, g0_6, g0_7, g0_8, g0_9, n1, n2, g3_2, g3_3, g3_4, g3_5, g3_6, g3_7, g3_8, g3_9, n4, n5, n6, n7, n8, n9, g10_2, g10_3, g10_4, g10_5, n11, n12, n13, n14, g15_2, g15_3, g15_4, g15_5, n16, n17, n18, n19, g40_0, g40_1, g40_2, g44_0, g44_2, g44_3, g44_5, g44_6, g44_10, g51_3, g51_4, g51_5, g51_6, g51_7, g57_3, g57_4, g57_5, g57_6, g57_7, n120, n121, g122_0, g122_4, g122_5, g122_6, g122_7, g122_8, g122_18, g122_19, g122_20, g122_21, g122_24, g122_25, g122_28, g122_29, g122_31, g122_32, g122_33, g122_39, g122_40, g122_41, g122_45, g122_46, g122_47, g122_48, n123, n124, n125, n126, n127, n128, n129, n130, n131, n132, n133, n134, n135, n136, n137, n138, n139, n140, n141, n142, n143, n144, n145, n146]⟩
          · obtain ⟨h2, b1, b2, b3, b4⟩ := a6 h1 a3
            have f2 : FrF s.1 h2 := ⟨fun d _ => by rw [b3, a4], fun d hd => (b4 d hd).trans (a5 d hd)⟩
            refine ⟨(h2, nI (cnt (hit1 A col t c) (3 * cd + k) + 1), nI (k + 1)), ?_, rfl, ?_, p3.trans f2, b2, TR_y (m := 3 * cd + k) p5 hit (fun e => absurd e z) (fun _ => by rw [b3, a4]; exact ⟨rfl, rfl⟩)⟩
            · show B_X4_searchOne_14 _ _ _ _ _ = _
              unfold B_X4_searchOne_14 F_X4_keepFirst
              rw [p1, p2]
              simp (disch := omega) only [↓m1_n, li_n, li_0, li_1, lt_y, lt_n, le_y, le_n, eq_n, nL, nLe, nEq, nEm, mEn, nLm, mLn, nLem, mLen, nI_add, nI_mul, nI_sub, nI_m, ib_nI, nx_nI, gd_y, bnd_e, bind_y, ↓reduceIte, hI_uI_o, hI_uI_s, hI_uI_e, hL_uI, hI_uL, hL_uL_o, hL_uL_s, hL_uL_e, and1_a, and1_b, Bool.not_true, Bool.not_false, Nat.zero_add, Nat.add_zero, Nat.add_sub_cancel, eq_self, ne_b, g0_0, g0_1, g0_2, g0_3, g0_4, g0_5, g0_6, g0_7, g0_8, g0_9, n1, n2, g3_2, g3_3, g3_4, g3_5, g3_6, g3_7, g3_8, g3_9, n4, n5, n6, n7, n8, n9, g10_2, g10_3, g10_4, g10_5, n11, n12, n13, n14, g15_2, g15_3, g15_4, g15_5, n16, n17, n18, n19, g40_0, g40_1, g40_2, g44_0, g44_2, g44_3, g44_5, g44_6, g44_10, g51_3, g51_4, g51_5, g51_6, g51_7, g57_3, g57_4, g57_5, g57_6, g57_7, n120, n121, g122_0, g122_4, g122_5, g122_6, g122_7, g122_8, g122_18, g122_19, g122_20, g122_21, g122_24, g122_25, g122_28, g122_29, g122_31, g122_32, g122_33, g122_39, g122_40, g122_41, g122_45, g122_46, g122_47, g122_48, n123, n124, n125, n126, n127, n128, n129, n130, n131, n132, n133, n134, n135, n136, n137, n138, n139, n140, n141, n142, n143, n144, n145, n146, MR, n55, pl, a1, a2, a4, z, b1]
            · show nI _ = nI _
              rw [← Nat.add_assoc, cnt, hit, if_pos rfl]
    · obtain ⟨p1, p2, p3, p4, p5⟩ := p
      refine ⟨(s.1, nI (cnt (hit1 A col t c) (3 * cd + 3))), ?_, s.1, rfl, p3, p4, p5⟩
      show B_X4_searchOne_14 _ _ _ _ _ = _
      unfold B_X4_searchOne_14
      rw [p1, p2]
      simp (disch := omega) only [↓m1_n, li_n, li_0, li_1, lt_y, lt_n, le_y, le_n, eq_n, nL, nLe, nEq, nEm, mEn, nLm, mLn, nLem, mLen, nI_add, nI_mul, nI_sub, nI_m, ib_nI, nx_nI, gd_y, bnd_e, bind_y, ↓reduceIte, hI_uI_o, hI_uI_s, hI_uI_e, hL_uI, hI_uL, hL_uL_o, hL_uL_s, hL_uL_e, and1_a, and1_b, Bool.not_true, Bool.not_false, Nat.zero_add, Nat.add_zero, Nat.add_sub_cancel, eq_self, ne_b, g0_0, g0_1, g0_2, g0_3, g0_4, g0_5, g0_6, g0_7, g0_8, g0_9, n1, n2, g3_2, g3_3, g3_4, g3_5, g3_6, g3_7, g3_8, g3_9, n4, n5, n6, n7, n8, n9, g10_2, g10_3, g10_4, g10_5, n11, n12, n13, n14, g15_2, g15_3, g15_4, g15_5, n16, n17, n18, n19, g40_0, g40_1, g40_2, g44_0, g44_2, g44_3, g44_5, g44_6, g44_10, g51_3, g51_4, g51_5, g51_6, g51_7, g57_3, g57_4, g57_5, g57_6, g57_7, n120, n121, g122_0, g122_4, g122_5, g122_6, g122_7, g122_8, g122_18, g122_19, g122_20, g122_21, g122_24, g122_25, g122_28, g122_29, g122_31, g122_32, g122_33, g122_39, g122_40, g122_41, g122_45, g122_46, g122_47, g122_48, n123, n124, n125, n126, n127, n128, n129, n130, n131, n132, n133, n134, n135, n136, n137, n138, n139, n140, n141, n142, n143, n144, n145, n146]
  obtain ⟨r, x1, h3, x2, x3⟩ := key
  exact ⟨h3, by rw [x1, x2], x3⟩
theorem c_one {h : Hp} {A : Ho} {q col : Nat} {t : Nat → Int64} {c : Nat → Int} (ok : HoOk q A) (cm : CM h A col) (hc : col < 8) (g : CG h t c) : ∃ h', F_X4_searchOne h 51 = some (h', nI (cnt (hit1 A col t c) (3 * oN A))) ∧ FrF h h' ∧ CG h' t c ∧ TR h' 0 (hit1 A col t c) 0 (3 * oN A) := by
  have hA := ok.1
  have key : ∃ r, F_X4_searchOne h 51 = some r ∧ ∃ h', r = (h', nI (cnt (hit1 A col t c) (3 * oN A))) ∧ FrF h h' ∧ CG h' t c ∧ TR h' 0 (hit1 A col t c) 0 (3 * oN A) := by
    refine iterW_inv (fun k s => s.2.2 = nI k ∧ s.2.1 = nI (cnt (hit1 A col t c) (3 * k)) ∧ FrF h s.1 ∧ CG s.1 t c ∧ TR s.1 0 (hit1 A col t c) 0 (3 * k)) _ (oN A) (fun k s hk p => ?_) (fun s p => ?_) ⟨rfl, rfl, FrF.rf, g, fun i e => (by cases e)⟩
    · obtain ⟨p1, p2, p3, p4, p5⟩ := p
      obtain ⟨h1, a1, a2, a3, a4⟩ := c_one14 ok (p3.cm cm) hc p4 hk p5
      refine ⟨(h1, nI (cnt (hit1 A col t c) (3 * k + 3)), nI (k + 1)), ?_, rfl, by rw [show 3 * (k + 1) = 3 * k + 3 by omega], p3.trans a2, a3, by rw [show 3 * (k + 1) = 3 * k + 3 by omega]; exact a4⟩
      show B_X4_searchOne_4 _ _ _ _ = _
      unfold B_X4_searchOne_4
      rw [p1, p2]
      simp (disch := omega) only [↓m1_n, li_n, li_0, li_1, lt_y, lt_n, le_y, le_n, eq_n, nL, nLe, nEq, nEm, mEn, nLm, mLn, nLem, mLen, nI_add, nI_mul, nI_sub, nI_m, ib_nI, nx_nI, gd_y, bnd_e, bind_y, ↓reduceIte, hI_uI_o, hI_uI_s, hI_uI_e, hL_uI, hI_uL, hL_uL_o, hL_uL_s, hL_uL_e, and1_a, and1_b, Bool.not_true, Bool.not_false, Nat.zero_add, Nat.add_zero, Nat.add_sub_cancel, eq_self, ne_b, g0_0, g0_1, g0_2, g0_3, g0_4, g0_5, g0_6, g0_7, g0_8, g0_9, n1, n2, g3_2, g3_3, g3_4, g3_5, g3_6, g3_7, g3_8, g3_9, n4, n5, n6, n7, n8, n9, g10_2, g10_3, g10_4, g10_5, n11, n12, n13, n14, g15_2, g15_3, g15_4, g15_5, n16, n17, n18, n19, g40_0, g40_1, g40_2, g44_0, g44_2, g44_3, g44_5, g44_6, g44_10, g51_3, g51_4, g51_5, g51_6, g51_7, g57_3, g57_4, g57_5, g57_6, g57_7, n120, n121, g122_0, g122_4, g122_5, g122_6, g122_7, g122_8, g122_18, g122_19, g122_20, g122_21, g122_24, g122_25, g122_28, g122_29, g122_31, g122_32, g122_33, g122_39, g122_40, g122_41, g122_45, g122_46, g122_47, g122_48, n123, n124, n125, n126, n127, n128, n129, n130, n131, n132, n133, n134, n135, n136, n137, n138, n139, n140, n141, n142, n143, n144, n145, n146, (p3.cm cm).1, a1]
    · obtain ⟨p1, p2, p3, p4, p5⟩ := p
      refine ⟨(s.1, nI (cnt (hit1 A col t c) (3 * oN A))), ?_, s.1, rfl, p3, p4, p5⟩
      show B_X4_searchOne_4 _ _ _ _ = _
      unfold B_X4_searchOne_4
      rw [p1, p2]
      simp (disch := omega) only [↓m1_n, li_n, li_0, li_1, lt_y, lt_n, le_y, le_n, eq_n, nL, nLe, nEq, nEm, mEn, nLm, mLn, nLem, mLen, nI_add, nI_mul, nI_sub, nI_m, ib_nI, nx_nI, gd_y, bnd_e, bind_y, ↓reduceIte, hI_uI_o, hI_uI_s, hI_uI_e, hL_uI, hI_uL, hL_uL_o, hL_uL_s, hL_uL_e, and1_a, and1_b, Bool.not_true, Bool.not_false, Nat.zero_add, Nat.add_zero, Nat.add_sub_cancel, eq_self, ne_b, g0_0, g0_1, g0_2, g0_3, g0_4, g0_5, g0_6, g0_7, g0_8, g0_9, n1, n2, g3_2, g3_3, g3_4, g3_5, g3_6, g3_7, g3_8, g3_9, n4, n5, n6, n7, n8, n9, g10_2, g10_3, g10_4, g10_5, n11, n12, n13, n14, g15_2, g15_3, g15_4, g15_5, n16, n17, n18, n19, g40_0, g40_1, g40_2, g44_0, g44_2, g44_3, g44_5, g44_6, g44_10, g51_3, g51_4, g51_5, g51_6, g51_7, g57_3, g57_4, g57_5, g57_6, g57_7, n120, n121, g122_0, g122_4, g122_5, g122_6, g122_7, g122_8, g122_18, g122_19, g122_20, g122_21, g122_24, g122_25, g122_28, g122_29, g122_31, g122_32, g122_33, g122_39, g122_40, g122_41, g122_45, g122_46, g122_47, g122_48, n123, n124, n125, n126, n127, n128, n129, n130, n131, n132, n133, n134, n135, n136, n137, n138, n139, n140, n141, n142, n143, n144, n145, n146, (p3.cm cm).1]
  obtain ⟨r, x1, h3, x2, x3⟩ := key
  exact ⟨h3, by rw [x1, x2], x3⟩
/-- behind a card: from index o on; bf were found before -/
def hitb (A : Ho) (col : Nat) (t : Nat → Int64) (c : Nat → Int) (o j : Nat) : Bool := hit1 A col t c (o + j)
def TB (h0 h : Hp) (bf : Nat) (P : Nat → Bool) (o m : Nat) : Prop := (bf = 0 → TR h 2 P o m) ∧ (bf ≠ 0 → hI h 53 = hI h0 53) ∧ hI h 53 0 = hI h0 53 0 ∧ hI h 53 1 = hI h0 53 1
theorem c_beh19 {h0 h : Hp} {A : Ho} {q col cd o m bf : Nat} {t : Nat → Int64} {c : Nat → Int} (ok : HoOk q A) (cm : CM h A col) (hc : col < 8) (g : CG h t c) (hcd : cd < oN A) (hm : o + m = 3 * cd) (hbf : bf ≤ 1000000) (tr : TB h0 h bf (hitb A col t c o) o m) : ∃ h', L_X4_searchBehind_19 h 51 (nI bf) (nI cd) (nI (cnt (hitb A col t c o) m)) (nI 0) = some (h', nI (cnt (hitb A col t c o) (m + 3))) ∧ FrF h h' ∧ CG h' t c ∧ TB h0 h' bf (hitb A col t c o) o (m + 3) := by
  have hA := ok.1
  have key : ∃ r, L_X4_searchBehind_19 h 51 (nI bf) (nI cd) (nI (cnt (hitb A col t c o) m)) (nI 0) = some r ∧ ∃ h', r = (h', nI (cnt (hitb A col t c o) (m + 3))) ∧ FrF h h' ∧ CG h' t c ∧ TB h0 h' bf (hitb A col t c o) o (m + 3) := by
    refine iterW_inv (fun k s => s.2.2 = nI k ∧ s.2.1 = nI (cnt (hitb A col t c o) (m + k)) ∧ FrF h s.1 ∧ CG s.1 t c ∧ TB h0 s.1 bf (hitb A col t c o) o (m + k)) _ 3 (fun k s hk p => ?_) (fun s p => ?_) ⟨rfl, rfl, FrF.rf, g, tr⟩
    · obtain ⟨p1, p2, p3, p4, p5⟩ := p
      have cms := p3.cm cm
      have ed : (o + (m + k)) / 3 = cd := by omega
      have em : (o + (m + k)) % 3 = k := by omega
      have MR := c_misr (i := o + (m + k)) ok cms hc (by omega)
      rw [ed, em] at MR
      have mv := misV_le (A := A) (col := col) (i := o + (m + k))
      have cl := cnt_le (hitb A col t c o) (m + k)
      have hb1 : hitb A col t c o (m + k) = hit1 A col t c (o + (m + k)) := rfl
      by_cases m13 : misV A col (o + (m + k)) = 13
      · have hf : hitb A col t c o (m + k) = false := by rw [hb1]; simp [hit1, m13]
        rw [if_pos m13] at MR
        refine ⟨(s.1, nI (cnt (hitb A col t c o) (m + k)), nI (k + 1)), ?_, rfl, ?_, p3, p4, ⟨fun b => TR_n (m := m + k) (p5.1 b) hf, p5.2⟩⟩
        · show B_X4_searchBehind_19 _ _ _ _ _ _ = _
          unfold B_X4_searchBehind_19
          rw [p1, p2]
          simp (disch := omega) only [↓m1_n, li_n, li_0, li_1, lt_y, lt_n, le_y, le_n, eq_n, nL, nLe, nEq, nEm, mEn, nLm, mLn, nLem, mLen, nI_add, nI_mul, nI_sub, nI_m, ib_nI, nx_nI, gd_y, bnd_e, bind_y, ↓reduceIte, hI_uI_o, hI_uI_s, hI_uI_e, hL_uI, hI_uL, hL_uL_o, hL_uL_s, hL_uL_e, and1_a, and1_b, Bool.not_true, Bool.not_false, Nat.zero_add, Nat.add_zero, Nat.add_sub_cancel, eq_self, ne_b, g0_0, g0_1, g0_2, g0_3, g0_4, g0_5, g0_6, g0_7, g0_8, g0_9, n1, n2, g3_2, g3_3, g3_4, g3_5, g3_6, g3_7, g3_8, g3_9, n4, n5, n6, n7, n8, n9, g10_2, g10_3, g10_4, g10_5, n11, n12, n13, n14, g15_2, g15_3, g15_4, g15_5, n16, n17, n18, n19, g40_0, g40_1, g40_2, g44_0, g44_2, g44_3, g44_5, g44_6, g44_10, g51_3, g51_4, g51_5, g51_6, g51_7, g57_3, g57_4, g57_5, g57_6, g57_7, n120, n121, g122_0, g122_4, g122_5, g122_6, g122_7, g122_8, g122_18, g122_19, g122_20, g122_21, g122_24, g122_25, g122_28, g122_29, g122_31, g122_32, g122_33, g122_39, g122_40, g122_41, g122_45, g122_46, g122_47, g122_48, n123, n124, n125, n126, n127, n128, n129, n130, n131, n132, n133, n134, n135, n136, n137, n138, n139, n140, n141, n142, n143, n144, n145, n146, MR]
        · show nI _ = nI _
          rw [← Nat.add_assoc, cnt, hf, if_neg Bool.false_ne_true, Nat.add_zero]
      · rw [if_neg m13] at MR
        obtain ⟨h1, a1, a2, a3, a4, a5, a6⟩ := one_body (i := o + (m + k)) p4 m13
        have pl : hI s.1 55 cd = nI (rdc A col cd) := (cms.2.2 cd hcd).1
        rw [ed] at a1 a2 a3 a6
        have hit : hitb A col t c o (m + k) = okB t (chg c (rdc A col cd) (misV A col (o + (m + k)))) := by
          rw [hb1]
          unfold hit1
          rw [ed, decide_eq_true m13, Bool.true_and]
        cases eo : okB t (chg c (rdc A col cd) (misV A col (o + (m + k)))) with
        | false =>
          rw [eo] at a2 hit
          obtain ⟨h2, b1, b2, b3, b4⟩ := a6 h1 a3
          have e53 : hI h2 53 = hI s.1 53 := by rw [b3, a4]
          have f2 : FrF s.1 h2 := ⟨fun d _ => by rw [b3, a4], fun d hd => (b4 d hd).trans (a5 d hd)⟩
          refine ⟨(h2, nI (cnt (hitb A col t c o) (m + k)), nI (k + 1)), ?_, rfl, ?_, p3.trans f2, b2, ⟨fun b => TR_n (h := h2) (m := m + k) (fun i hi => by rw [e53]; exact p5.1 b i hi) hit, by rw [e53]; exact p5.2⟩⟩
          · show B_X4_searchBehind_19 _ _ _ _ _ _ = _
            unfold B_X4_searchBehind_19
            rw [p1, p2]
            simp (disch := omega) only [↓m1_n, li_n, li_0, li_1, lt_y, lt_n, le_y, le_n, eq_n, nL, nLe, nEq, nEm, mEn, nLm, mLn, nLem, mLen, nI_add, nI_mul, nI_sub, nI_m, ib_nI, nx_nI, gd_y, bnd_e, bind_y, ↓reduceIte, hI_uI_o, hI_uI_s, hI_uI_e, hL_uI, hI_uL, hL_uL_o, hL_uL_s, hL_uL_e, and1_a, and1_b, Bool.not_true, Bool.not_false, Nat.zero_add, Nat.add_zero, Nat.add_sub_cancel, eq_self, ne_b, g0_0, g0_1, g0_2, g0_3, g0_4, g0_5, g0_6, g0_7, g0_8, g0_9, n1, n2, g3_2, g3_3, g3_4, g3_5, g3_6, g3_7, g3_8, g3_9, n4, n5, n6, n7, n8, n9, g10_2, g10_3, g10_4, g10_5, n11, n12, n13, n14, g15_2, g15_3, g15_4, g15_5, n16, n17, n18, n19, g40_0, g40_1, g40_2, g44_0, g44_2, g44_3, g44_5, g44_6, g44_10, g51_3, g51_4, g51_5, g51_6, g51_7, g57_3, g57_4, g57_5, g57_6, g57_7, n120, n121, g122_0, g122_4, g122_5, g122_6, g122_7, g122_8, g122_18, g122_19, g122_20, g122_21, g122_24, g122_25, g122_28, g122_29, g122_31, g122_32, g122_33, g122_39, g122_40, g122_41, g122_45, g122_46, g122_47, g122_48, n123, n124, n125, n126, n127, n128, n129, n130, n131, n132, n133, n134, n135, n136, n137, n138, n139, n140, n141, n142, n143, n144, n145, n146, MR, n55, pl, a1, a2, a4, b1, Bool.false_eq_true]
          · show nI _ = nI _
            rw [← Nat.add_assoc, cnt, hit, if_neg Bool.false_ne_true, Nat.add_zero]
        | true =>
          rw [eo] at a2 hit
          by_cases z : bf + cnt (hitb A col t c o) (m + k) = 0
          · obtain ⟨h2, b1, b2, b3, b4⟩ := a6 (uI (uI h1 53 2 (nI cd)) 53 3 (nI k)) (CG_uI (CG_uI a3))
            have f2 : FrF s.1 h2 := ⟨fun d hd => by rw [b3, hI_uI_o hd, hI_uI_o hd, a4], fun d hd => (b4 d hd).trans (a5 d hd)⟩
            refine ⟨(h2, nI (cnt (hitb A col t c o) (m + k) + 1), nI (k + 1)), ?_, rfl, ?_, p3.trans f2, b2, ⟨fun b => TR_y (m := m + k) (p5.1 b) hit (fun _ => ?_) (fun e => absurd (show cnt (hitb A col t c o) (m + k) = 0 by omega) e), fun b => absurd (show bf = 0 by omega) b, ?_, ?_⟩⟩
            · have pl1 : hI (uI (uI h1 53 2 (nI cd)) 53 3 (nI k)) 55 cd = nI (rdc A col cd) := by rw [hI_uI_o (by decide), hI_uI_o (by decide), a4]; exact pl
              show B_X4_searchBehind_19 _ _ _ _ _ _ = _
              unfold B_X4_searchBehind_19 F_X4_keepFirst
              rw [p1, p2]
              simp (disch := omega) only [↓m1_n, li_n, li_0, li_1, lt_y, lt_n, le_y, le_n, eq_n, nL, nLe, nEq, nEm, mEn, nLm, mLn, nLem, mLen, nI_add, nI_mul, nI_sub, nI_m, ib_nI, nx_nI, gd_y, bnd_e, bind_y, ↓reduceIte, hI_uI_o, hI_uI_s, hI_uI_e, hL_uI, hI_uL, hL_uL_o, hL_uL_s, hL_uL_e, and1_a, and1_b, Bool.not_true, Bool.not_false, Nat.zero_add, Nat.add_zero, Nat.add_sub_cancel, eq_self, ne_b, g0_0, g0_1, g0_2, g0_3, g0_4, g0_5, g0_6, g0_7, g0_8, g0_9, n1, n2, g3_2, g3_3, g3_4, g3_5, g3_6, g3_7, g3_8, g3_9, n4, n5, n6, n7, n8, n9, g10_2, g10_3, g10_4, g10_5, n11, n12, n13, n14, g15_2, g15_3, g15_4, g15_5, n16, n17, n18, n19, g40_0, g40_1, g40_2, g44_0, g44_2, g44_3, g44_5, g44_6, g44_10, g51_3, g51_4, g51_5, g51_6, g51_7, g57_3, g57_4, g57_5, g57_6, g57_7, n120, n121, g122_0, g122_4, g122_5, g122_6, g122_7, g122_8, g122_18, g122_19, g122_20, g122_21, g122_24, g122_25, g122_28, g122_29, g122_31, g122_32, g122_33, g122_39, g122_40, g122_41, g122_45, g122_46, g122_47, g122_48, n123, n124, n125, n126, n127, n128, n129, n130, n131, n132, n133, n134, n135, n136, n137, n138, n139, n140, n141, n142, n143, n144, n145, n146, MR, n55, n53, pl, a1, a2, a4, z, b1, Nat.reduceAdd]
            · show nI _ = nI _
              rw [← Nat.add_assoc, cnt, hit, if_pos rfl]
            · rw [b3, ed, em]
              exact ⟨by simp (disch := omega) only [↓m1_n, li_n, li_0, li_1, lt_y, lt_n, le_y, le_n, eq_n, nL, nLe, nEq, nEm, mEn, nLm, mLn, nLem, mLen, nI_add, nI_mul, nI_sub, nI_m, ib_nI, nx_nI, gd_y, bnd_e, bind_y, ↓reduceIte, hI_uI_o, hI_uI_s, hI_uI_e, hL_uI, hI_uL, hL_uL_o, hL_uL_s, hL_uL_e, and1_a, and1_b, Bool.not_true, Bool.not_false, Nat.zero_add, Nat.add_zero, Nat.add_sub_cancel, eq_self, ne_b, g0_0, g0_1, g0_2, g0_3, g0_4, g0_5, g0_6, g0_7, g0_8, g0_9, n1, n2, g3_2, g3_3, g3_4, g3_5, g3_6, g3_7, g3_8, g3_9, n4, n5, n6, n7, n8, n9, g10_2, g10_3, g10_4, g10_5, n11, n12, n13, n14, g15_2, g15_3, g15_4, g15_5, n16, n17, n18, n19, g40_0, g40_1, g40_2, g44_0, g44_2, g44_3, g44_5, g44_6, g44_10, g51_3, g51_4, g51_5, g51_6, g51_7, g57_3, g57_4, g57_5, g57_6, g57_7, n120, n121, g122_0, g122_4, g122_5, g122_6, g122_7, g122_8, g122_18, g122_19, g122_20, g122_21, g122_24, g122_25, g122_28, g122_29, g122_31, g122_32, g122_33, g122_39, g122_40, g122_41, g122_45, g122_46, g122_47, g122_48, n123, n124, n125, n126, n127, n128, n129, n130, n131, n132, n133, n134, n135, n136, n137, n138, n139, n140, n141, n142, n143, n144, n145, n146], by simp (disch := omega) only [↓m1_n, li_n, li_0, li_1, lt_y, lt_n, le_y, le_n, eq_n, nL, nLe, nEq, nEm, mEn, nLm, mLn, nLem, mLen, nI_add, nI_mul, nI_sub, nI_m, ib_nI, nx_nI, gd_y, bnd_e, bind_y, ↓reduceIte, hI_uI_o, hI_uI_s, hI_uI_e, hL_uI, hI_uL, hL_uL_o, hL_uL_s, hL_uL_e, and1_a, and1_b, Bool.not_true, Bool.not_false, Nat.zero_add, Nat.add_zero, Nat.add_sub_cancel, eq_self, ne_b, g0_0, g0_1, g0_2, g0_3, g0_4, g0_5, g0_6, g0_7, g0_8, g0_9, n1, n2, g3_2, g3_3, g3_4, g3_5, g3_6, g3_7, g3_8, g3_9, n4, n5, n6, n7, n8, n9, g10_2, g10_3, g10_4, g10_5, n11, n12, n13, n14, g15_2, g15_3, g15_4, g15_5, n16, n17, n18, n19, g40_0, g40_1, g40_2, g44_0, g44_2, g44_3, g44_5, g44_6, g44_10, g51_3, g51_4, g51_5, g51_6, g51_7, g57_3, g57_4, g57_5, g57_6, g57_7, n120, n121, g122_0, g122_4, g122_5, g122_6, g122_7, g122_8, g122_18, g122_19, g122_20, g122_21, g122_24, g122_25, g122_28, g122_29, g122_31, g122_32, g122_33, g122_39, g122_40, g122_41, g122_45, g122_46, g122_47, g122_48, n123, n124, n125, n126, n127, n128, n129, n130, n131, n132, n133, n134, n135, n136, n137, n138, n139, n140, n141, n142, n143, n144, n145, n146]⟩
            · rw [b3, hI_uI_s (by decide), hI_uI_s (by decide), a4]
              exact p5.2.2.1
            · rw [b3, hI_uI_s (by decide), hI_uI_s (by decide), a4]
              exact p5.2.2.2
          · obtain ⟨h2, b1, b2, b3, b4⟩ := a6 h1 a3
            have e53 : hI h2 53 = hI s.1 53 := by rw [b3, a4]
            have f2 : FrF s.1 h2 := ⟨fun d _ => by rw [b3, a4], fun d hd => (b4 d hd).trans (a5 d hd)⟩
            refine ⟨(h2, nI (cnt (hitb A col t c o) (m + k) + 1), nI (k + 1)), ?_, rfl, ?_, p3.trans f2, b2, ⟨fun b => TR_y (m := m + k) (p5.1 b) hit (fun e => absurd (show bf + cnt (hitb A col t c o) (m + k) = 0 by omega) z) (fun _ => by rw [e53]; exact ⟨rfl, rfl⟩), by rw [e53]; exact p5.2⟩⟩
            · show B_X4_searchBehind_19 _ _ _ _ _ _ = _
              unfold B_X4_searchBehind_19 F_X4_keepFirst
              rw [p1, p2]
              simp (disch := omega) only [↓m1_n, li_n, li_0, li_1, lt_y, lt_n, le_y, le_n, eq_n, nL, nLe, nEq, nEm, mEn, nLm, mLn, nLem, mLen, nI_add, nI_mul, nI_sub, nI_m, ib_nI, nx_nI, gd_y, bnd_e, bind_y, ↓reduceIte, hI_uI_o, hI_uI_s, hI_uI_e, hL_uI, hI_uL, hL_uL_o, hL_uL_s, hL_uL_e, and1_a, and1_b, Bool.not_true, Bool.not_false, Nat.zero_add, Nat.add_zero, Nat.add_sub_cancel, eq_self, ne_b, g0_0, g0_1, g0_2, g0_3, g0_4, g0_5, g0_6, g0_7, g0_8, g0_9, n1, n2, g3_2, g3_3, g3_4, g3_5, g3_6, g3_7, g3_8, g3_9, n4, n5, n6, n7, n8, n9, g10_2, g10_3, g10_4, g10_5, n11, n12, n13, n14, g15_2, g15_3, g15_4, g15_5, n16, n17, n18, n19, g40_0, g40_1, g40_2, g44_0, g44_2, g44_3, g44_5, g44_6, g44_10, g51_3, g51_4, g51_5, g51_6, g51_7, g57_3, g57_4, g57_5, g57_6, g57_7, n120, n121, g122_0, g122_4, g122_5, g122_6, g122_7, g122_8, g122_18, g122_19, g122_20, g122_21, g122_24, g122_25, g122_28, g122_29, g122_31, g122_32, g122_33, g122_39, g122_40, g122_41, g122_45, g122_46, g122_47, g122_48, n123, n124, n125, n126, n127, n128, n129, n130, n131, n132, n133, n134, n135, n136, n137, n138, n139, n140, n141, n142, n143, n144, n145, n146, MR, n55, pl, a1, a2, a4, z, b1]
            · show nI _ = nI _
              rw [← Nat.add_assoc, cnt, hit, if_pos rfl]
    · obtain ⟨p1, p2, p3, p4, p5⟩ := p
      refine ⟨(s.1, nI (cnt (hitb A col t c o) (m + 3))), ?_, s.1, rfl, p3, p4, p5⟩
      show B_X4_searchBehind_19 _ _ _ _ _ _ = _
      unfold B_X4_searchBehind_19
      rw [p1, p2]
      simp (disch := omega) only [↓m1_n, li_n, li_0, li_1, lt_y, lt_n, le_y, le_n, eq_n, nL, nLe, nEq, nEm, mEn, nLm, mLn, nLem, mLen, nI_add, nI_mul, nI_sub, nI_m, ib_nI, nx_nI, gd_y, bnd_e, bind_y, ↓reduceIte, hI_uI_o, hI_uI_s, hI_uI_e, hL_uI, hI_uL, hL_uL_o, hL_uL_s, hL_uL_e, and1_a, and1_b, Bool.not_true, Bool.not_false, Nat.zero_add, Nat.add_zero, Nat.add_sub_cancel, eq_self, ne_b, g0_0, g0_1, g0_2, g0_3, g0_4, g0_5, g0_6, g0_7, g0_8, g0_9, n1, n2, g3_2, g3_3, g3_4, g3_5, g3_6, g3_7, g3_8, g3_9, n4, n5, n6, n7, n8, n9, g10_2, g10_3, g10_4, g10_5, n11, n12, n13, n14, g15_2, g15_3, g15_4, g15_5, n16, n17, n18, n19, g40_0, g40_1, g40_2, g44_0, g44_2, g44_3, g44_5, g44_6, g44_10, g51_3, g51_4, g51_5, g51_6, g51_7, g57_3, g57_4, g57_5, g57_6, g57_7, n120, n121, g122_0, g122_4, g122_5, g122_6, g122_7, g122_8, g122_18, g122_19, g122_20, g122_21, g122_24, g122_25, g122_28, g122_29, g122_31, g122_32, g122_33, g122_39, g122_40, g122_41, g122_45, g122_46, g122_47, g122_48, n123, n124, n125, n126, n127, n128, n129, n130, n131, n132, n133, n134, n135, n136, n137, n138, n139, n140, n141, n142, n143, n144, n145, n146]
  obtain ⟨r, x1, h3, x2, x3⟩ := key
  exact ⟨h3, by rw [x1, x2], x3⟩
/-- how many behind card cd -/
def bhN (A : Ho) (cd : Nat) : Nat := 3 * oN A - (3 * cd + 3)
theorem c_behind {h : Hp} {A : Ho} {q col cd bf : Nat} {t : Nat → Int64} {c : Nat → Int} (ok : HoOk q A) (cm : CM h A col) (hc : col < 8) (g : CG h t c) (hcd : cd < oN A) (hbf : bf ≤ 1000000) : ∃ h', F_X4_searchBehind h 51 (nI cd) (nI bf) = some (h', nI (cnt (hitb A col t c (3 * cd + 3)) (bhN A cd))) ∧ FrF h h' ∧ CG h' t c ∧ TB h h' bf (hitb A col t c (3 * cd + 3)) (3 * cd + 3) (bhN A cd) := by
  have hA := ok.1
  have eb : bhN A cd = 3 * (oN A - (cd + 1)) := by unfold bhN; omega
  have key : ∃ r, F_X4_searchBehind h 51 (nI cd) (nI bf) = some r ∧ ∃ h', r = (h', nI (cnt (hitb A col t c (3 * cd + 3)) (bhN A cd))) ∧ FrF h h' ∧ CG h' t c ∧ TB h h' bf (hitb A col t c (3 * cd + 3)) (3 * cd + 3) (bhN A cd) := by
    refine iterW_inv (fun k s => s.2.2 = nI (cd + 1 + k) ∧ s.2.1 = nI (cnt (hitb A col t c (3 * cd + 3)) (3 * k)) ∧ FrF h s.1 ∧ CG s.1 t c ∧ TB h s.1 bf (hitb A col t c (3 * cd + 3)) (3 * cd + 3) (3 * k)) _ (oN A - (cd + 1)) (fun k s hk p => ?_) (fun s p => ?_) ⟨by rw [Nat.add_zero]; exact nI_s cd, rfl, FrF.rf, g, ⟨fun _ i e => (by cases e), fun _ => rfl, rfl, rfl⟩⟩
    · obtain ⟨p1, p2, p3, p4, p5⟩ := p
      obtain ⟨h1, a1, a2, a3, a4⟩ := c_beh19 (h0 := h) (cd := cd + 1 + k) (o := 3 * cd + 3) (m := 3 * k) ok (p3.cm cm) hc p4 (by omega) (by omega) hbf p5
      refine ⟨(h1, nI (cnt (hitb A col t c (3 * cd + 3)) (3 * k + 3)), nI (cd + 1 + k + 1)), ?_, rfl, by rw [show 3 * (k + 1) = 3 * k + 3 by omega], p3.trans a2, a3, by rw [show 3 * (k + 1) = 3 * k + 3 by omega]; exact a4⟩
      show B_X4_searchBehind_7 _ _ _ _ _ = _
      unfold B_X4_searchBehind_7
      rw [p1, p2]
      simp (disch := omega) only [↓m1_n, li_n, li_0, li_1, lt_y, lt_n, le_y, le_n, eq_n, nL, nLe, nEq, nEm, mEn, nLm, mLn, nLem, mLen, nI_add, nI_mul, nI_sub, nI_m, ib_nI, nx_nI, gd_y, bnd_e, bind_y, ↓reduceIte, hI_uI_o, hI_uI_s, hI_uI_e, hL_uI, hI_uL, hL_uL_o, hL_uL_s, hL_uL_e, and1_a, and1_b, Bool.not_true, Bool.not_false, Nat.zero_add, Nat.add_zero, Nat.add_sub_cancel, eq_self, ne_b, g0_0, g0_1, g0_2, g0_3, g0_4, g0_5, g0_6, g0_7, g0_8, g0_9, n1, n2, g3_2, g3_3, g3_4, g3_5, g3_6, g3_7, g3_8, g3_9, n4, n5, n6, n7, n8, n9, g10_2, g10_3, g10_4, g10_5, n11, n12, n13, n14, g15_2, g15_3, g15_4, g15_5, n16, n17, n18, n19, g40_0, g40_1, g40_2, g44_0, g44_2, g44_3, g44_5, g44_6, g44_10, g51_3, g51_4, g51_5, g51_6, g51_7, g57_3, g57_4, g57_5, g57_6, g57_7, n120, n121, g122_0, g122_4, g122_5, g122_6, g122_7, g122_8, g122_18, g122_19, g122_20, g122_21, g122_24, g122_25, g122_28, g122_29, g122_31, g122_32, g122_33, g122_39, g122_40, g122_41, g122_45, g122_46, g122_47, g122_48, n123, n124, n125, n126, n127, n128, n129, n130, n131, n132, n133, n134, n135, n136, n137, n138, n139, n140, n141, n142, n143, n144, n145, n146, (p3.cm cm).1, a1]
    · obtain ⟨p1, p2, p3, p4, p5⟩ := p
      rw [eb]
      refine ⟨(s.1, nI (cnt (hitb A col t c (3 * cd + 3)) (3 * (oN A - (cd + 1))))), ?_, s.1, rfl, p3, p4, p5⟩
      show B_X4_searchBehind_7 _ _ _ _ _ = _
      unfold B_X4_searchBehind_7
      rw [p1, p2]
      simp (disch := omega) only [↓m1_n, li_n, li_0, li_1, lt_y, lt_n, le_y, le_n, eq_n, nL, nLe, nEq, nEm, mEn, nLm, mLn, nLem, mLen, nI_add, nI_mul, nI_sub, nI_m, ib_nI, nx_nI, gd_y, bnd_e, bind_y, ↓reduceIte, hI_uI_o, hI_uI_s, hI_uI_e, hL_uI, hI_uL, hL_uL_o, hL_uL_s, hL_uL_e, and1_a, and1_b, Bool.not_true, Bool.not_false, Nat.zero_add, Nat.add_zero, Nat.add_sub_cancel, eq_self, ne_b, g0_0, g0_1, g0_2, g0_3, g0_4, g0_5, g0_6, g0_7, g0_8, g0_9, n1, n2, g3_2, g3_3, g3_4, g3_5, g3_6, g3_7, g3_8, g3_9, n4, n5, n6, n7, n8, n9, g10_2, g10_3, g10_4, g10_5, n11, n12, n13, n14, g15_2, g15_3, g15_4, g15_5, n16, n17, n18, n19, g40_0, g40_1, g40_2, g44_0, g44_2, g44_3, g44_5, g44_6, g44_10, g51_3, g51_4, g51_5, g51_6, g51_7, g57_3, g57_4, g57_5, g57_6, g57_7, n120, n121, g122_0, g122_4, g122_5, g122_6, g122_7, g122_8, g122_18, g122_19, g122_20, g122_21, g122_24, g122_25, g122_28, g122_29, g122_31, g122_32, g122_33, g122_39, g122_40, g122_41, g122_45, g122_46, g122_47, g122_48, n123, n124, n125, n126, n127, n128, n129, n130, n131, n132, n133, n134, n135, n136, n137, n138, n139, n140, n141, n142, n143, n144, n145, n146, (p3.cm cm).1]
  obtain ⟨r, x1, h3, x2, x3⟩ := key
  exact ⟨h3, by rw [x1, x2], x3⟩
