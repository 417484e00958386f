/-! ===== fewest: the component's answer ===== -/
def resF (A : Ho) (col : Nat) (t : Nat → Int64) (c : Nat → Int) : Option (Nat × Nat) := if okB t c then some (0, 1) else if 0 < cnt (hit1 A col t c) (3 * oN A) then some (1, cnt (hit1 A col t c) (3 * oN A)) else if 0 < tot2 A col t c (3 * oN A) then some (2, tot2 A col t c (3 * oN A)) else none
/-- the first set, in cell d, slots 0 to 3 -/
def Tri (h : Hp) (A : Ho) (col : Nat) (t : Nat → Int64) (c : Nat → Int) (l : Nat) : Prop := (l = 1 → ∀ i, fst1 (hit1 A col t c) (3 * oN A) 0 = some i → hI h 52 0 = nI (i / 3) ∧ hI h 52 1 = nI (i % 3)) ∧ (l = 2 → ∀ i, fst1 (any2 A col t c) (3 * oN A) 0 = some i → hI h 52 0 = nI (i / 3) ∧ hI h 52 1 = nI (i % 3) ∧ ∀ j, fst1 (hbI A col t c i) (bhN A (i / 3)) 0 = some j → hI h 52 2 = nI ((3 * (i / 3) + 3 + j) / 3) ∧ hI h 52 3 = nI ((3 * (i / 3) + 3 + j) % 3))
theorem c_srch {h : Hp} {A : Ho} {q col j : Nat} (ok : HoOk q A) (rc : RcH h 3 A) (hc : col < 8) (hj : j < 4) : ∃ h', F_X4_search h 51 3 (nI col) (64 + 2 * j) = some (h', if (resF A col (hL h (64 + 2 * j)) (bcN A col (oN A))).isSome then nI 1 else nI 0) ∧ (∀ d, d ≠ 51 → d ≠ 52 → d ≠ 53 → d ≠ 55 → d ≠ 56 → hI h' d = hI h d) ∧ (∀ d, d ≠ 54 → hL h' d = hL h d) ∧ (resF A col (hL h (64 + 2 * j)) (bcN A col (oN A)) = none → (∀ k, k ≤ 2 → hI h' 51 k = hI h 51 k) ∧ hI h' 52 = hI h 52) ∧ ∀ l s, resF A col (hL h (64 + 2 * j)) (bcN A col (oN A)) = some (l, s) → hI h' 51 0 = nI 1 ∧ hI h' 51 1 = nI l ∧ hI h' 51 2 = nI s ∧ Tri h' A col (hL h (64 + 2 * j)) (bcN A col (oN A)) l := by
  have hA := ok.1
  obtain ⟨h1, a1, a2, a3, a4, a5, a6⟩ := c_prep ok rc hc hj
  generalize hL h (64 + 2 * j) = t at *
  generalize bcN A col (oN A) = c at *
  have CL := c_closed a3
  obtain ⟨h2, b1, b2, b3, b4⟩ := c_one ok a2 hc a3
  obtain ⟨h3, d1, d2, d3, d4⟩ := c_two ok (b2.cm a2) hc b3
  have fin : ∀ (hx : Hp) (l s : Nat), FrF h1 hx → resF A col t c = some (l, s) → L_X4_search_10 h1 51 (nI 0) = some (.inl (hx, nI l, nI s)) → (l = 1 → TR hx 0 (hit1 A col t c) 0 (3 * oN A)) → (l = 2 → TT A col t c hx (3 * oN A)) → ∃ h', F_X4_search h 51 3 (nI col) (64 + 2 * j) = some (h', if (resF A col t c).isSome then nI 1 else nI 0) ∧ (∀ d, d ≠ 51 → d ≠ 52 → d ≠ 53 → d ≠ 55 → d ≠ 56 → hI h' d = hI h d) ∧ (∀ d, d ≠ 54 → hL h' d = hL h d) ∧ (resF A col t c = none → (∀ k, k ≤ 2 → hI h' 51 k = hI h 51 k) ∧ hI h' 52 = hI h 52) ∧ ∀ l s, resF A col t c = some (l, s) → hI h' 51 0 = nI 1 ∧ hI h' 51 1 = nI l ∧ hI h' 51 2 = nI s ∧ Tri h' A col t c l := by
    intro hx l s f er eL t1 t2
    rw [er]
    refine ⟨sI (uI (uI (uI hx 51 0 (nI 1)) 51 1 (nI l)) 51 2 (nI s)) 52 (va_cpy (hI hx 53) (hI hx 52) 0 0 4), ?_, fun d x1 x2 x3 x4 x5 => ?_, fun d hd => ?_, fun e => (by cases e), fun l' s' e => ?_⟩
    · unfold F_X4_search
      simp (disch := omega) only [↓m1_n, li_n, li_0, li_1, lt_y, lt_n, le_y, le_n, eq_n, nL, nLe, nEq, nEm, mEn, nLm, mLn, nLem, mLen, nI_add, nI_mul, nI_sub, nI_m, ib_nI, nx_nI, gd_y, bnd_e, bind_y, ↓reduceIte, hI_uI_o, hI_uI_s, hI_uI_e, hL_uI, hI_uL, hL_uL_o, hL_uL_s, hL_uL_e, and1_a, and1_b, Bool.not_true, Bool.not_false, Nat.zero_add, Nat.add_zero, Nat.add_sub_cancel, eq_self, ne_b, g0_0, g0_1, g0_2, g0_3, g0_4, g0_5, g0_6, g0_7, g0_8, g0_9, n1, n2, g3_2, g3_3, g3_4, g3_5, g3_6, g3_7, g3_8, g3_9, n4, n5, n6, n7, n8, n9, g10_2, g10_3, g10_4, g10_5, n11, n12, n13, n14, g15_2, g15_3, g15_4, g15_5, n16, n17, n18, n19, g40_0, g40_1, g40_2, g44_0, g44_2, g44_3, g44_5, g44_6, g44_10, g51_3, g51_4, g51_5, g51_6, g51_7, g57_3, g57_4, g57_5, g57_6, g57_7, n120, n121, g122_0, g122_4, g122_5, g122_6, g122_7, g122_8, g122_18, g122_19, g122_20, g122_21, g122_24, g122_25, g122_28, g122_29, g122_31, g122_32, g122_33, g122_39, g122_40, g122_41, g122_45, g122_46, g122_47, g122_48, n123, n124, n125, n126, n127, n128, n129, n130, n131, n132, n133, n134, n135, n136, n137, n138, n139, n140, n141, n142, n143, n144, n145, n146, a1, eL, Sum.elim_inl, n52, n53, cpk, Option.isSome_some]
    · rw [hI_sI_o x2, hI_uI_o x1, hI_uI_o x1, hI_uI_o x1, f.1 d x3, a4 d x1 x4 x5]
    · rw [hL_sI, hL_uI, hL_uI, hL_uI, f.2 d hd, a6 d hd]
    · cases e
      refine ⟨by rw [hI_sI_o (by decide)]; simp (disch := omega) only [↓m1_n, li_n, li_0, li_1, lt_y, lt_n, le_y, le_n, eq_n, nL, nLe, nEq, nEm, mEn, nLm, mLn, nLem, mLen, nI_add, nI_mul, nI_sub, nI_m, ib_nI, nx_nI, gd_y, bnd_e, bind_y, ↓reduceIte, hI_uI_o, hI_uI_s, hI_uI_e, hL_uI, hI_uL, hL_uL_o, hL_uL_s, hL_uL_e, and1_a, and1_b, Bool.not_true, Bool.not_false, Nat.zero_add, Nat.add_zero, Nat.add_sub_cancel, eq_self, ne_b, g0_0, g0_1, g0_2, g0_3, g0_4, g0_5, g0_6, g0_7, g0_8, g0_9, n1, n2, g3_2, g3_3, g3_4, g3_5, g3_6, g3_7, g3_8, g3_9, n4, n5, n6, n7, n8, n9, g10_2, g10_3, g10_4, g10_5, n11, n12, n13, n14, g15_2, g15_3, g15_4, g15_5, n16, n17, n18, n19, g40_0, g40_1, g40_2, g44_0, g44_2, g44_3, g44_5, g44_6, g44_10, g51_3, g51_4, g51_5, g51_6, g51_7, g57_3, g57_4, g57_5, g57_6, g57_7, n120, n121, g122_0, g122_4, g122_5, g122_6, g122_7, g122_8, g122_18, g122_19, g122_20, g122_21, g122_24, g122_25, g122_28, g122_29, g122_31, g122_32, g122_33, g122_39, g122_40, g122_41, g122_45, g122_46, g122_47, g122_48, n123, n124, n125, n126, n127, n128, n129, n130, n131, n132, n133, n134, n135, n136, n137, n138, n139, n140, n141, n142, n143, n144, n145, n146], by rw [hI_sI_o (by decide)]; simp (disch := omega) only [↓m1_n, li_n, li_0, li_1, lt_y, lt_n, le_y, le_n, eq_n, nL, nLe, nEq, nEm, mEn, nLm, mLn, nLem, mLen, nI_add, nI_mul, nI_sub, nI_m, ib_nI, nx_nI, gd_y, bnd_e, bind_y, ↓reduceIte, hI_uI_o, hI_uI_s, hI_uI_e, hL_uI, hI_uL, hL_uL_o, hL_uL_s, hL_uL_e, and1_a, and1_b, Bool.not_true, Bool.not_false, Nat.zero_add, Nat.add_zero, Nat.add_sub_cancel, eq_self, ne_b, g0_0, g0_1, g0_2, g0_3, g0_4, g0_5, g0_6, g0_7, g0_8, g0_9, n1, n2, g3_2, g3_3, g3_4, g3_5, g3_6, g3_7, g3_8, g3_9, n4, n5, n6, n7, n8, n9, g10_2, g10_3, g10_4, g10_5, n11, n12, n13, n14, g15_2, g15_3, g15_4, g15_5, n16, n17, n18, n19, g40_0, g40_1, g40_2, g44_0, g44_2, g44_3, g44_5, g44_6, g44_10, g51_3, g51_4, g51_5, g51_6, g51_7, g57_3, g57_4, g57_5, g57_6, g57_7, n120, n121, g122_0, g122_4, g122_5, g122_6, g122_7, g122_8, g122_18, g122_19, g122_20, g122_21, g122_24, g122_25, g122_28, g122_29, g122_31, g122_32, g122_33, g122_39, g122_40, g122_41, g122_45, g122_46, g122_47, g122_48, n123, n124, n125, n126, n127, n128, n129, n130, n131, n132, n133, n134, n135, n136, n137, n138, n139, n140, n141, n142, n143, n144, n145, n146], by rw [hI_sI_o (by decide)]; simp (disch := omega) only [↓m1_n, li_n, li_0, li_1, lt_y, lt_n, le_y, le_n, eq_n, nL, nLe, nEq, nEm, mEn, nLm, mLn, nLem, mLen, nI_add, nI_mul, nI_sub, nI_m, ib_nI, nx_nI, gd_y, bnd_e, bind_y, ↓reduceIte, hI_uI_o, hI_uI_s, hI_uI_e, hL_uI, hI_uL, hL_uL_o, hL_uL_s, hL_uL_e, and1_a, and1_b, Bool.not_true, Bool.not_false, Nat.zero_add, Nat.add_zero, Nat.add_sub_cancel, eq_self, ne_b, g0_0, g0_1, g0_2, g0_3, g0_4, g0_5, g0_6, g0_7, g0_8, g0_9, n1, n2, g3_2, g3_3, g3_4, g3_5, g3_6, g3_7, g3_8, g3_9, n4, n5, n6, n7, n8, n9, g10_2, g10_3, g10_4, g10_5, n11, n12, n13, n14, g15_2, g15_3, g15_4, g15_5, n16, n17, n18, n19, g40_0, g40_1, g40_2, g44_0, g44_2, g44_3, g44_5, g44_6, g44_10, g51_3, g51_4, g51_5, g51_6, g51_7, g57_3, g57_4, g57_5, g57_6, g57_7, n120, n121, g122_0, g122_4, g122_5, g122_6, g122_7, g122_8, g122_18, g122_19, g122_20, g122_21, g122_24, g122_25, g122_28, g122_29, g122_31, g122_32, g122_33, g122_39, g122_40, g122_41, g122_45, g122_46, g122_47, g122_48, n123, n124, n125, n126, n127, n128, n129, n130, n131, n132, n133, n134, n135, n136, n137, n138, n139, n140, n141, n142, n143, n144, n145, n146], fun e i hi => ?_, fun e i hi => ?_⟩
      · have := t1 e i hi
        rw [Nat.zero_add] at this
        rw [hI_sI_e, cpy0 (by decide), cpy0 (by decide)]
        exact this
      · have := t2 e i hi
        rw [hI_sI_e, cpy0 (by decide), cpy0 (by decide), cpy0 (by decide), cpy0 (by decide)]
        exact this
  have c1 := cnt_le (hit1 A col t c) (3 * oN A)
  have c2 := tot2_le A col t c hA (3 * oN A)
  cases o1 : okB t c with
  | true =>
    rw [o1] at CL
    refine fin h1 0 1 FrF.rf (by unfold resF; rw [o1, if_pos rfl]) (iterW_end ?_) (fun e => absurd e (by decide)) (fun e => absurd e (by decide))
    show B_X4_search_10 _ _ _ = _
    unfold B_X4_search_10 J_X4_search_53
    simp (disch := omega) only [↓m1_n, li_n, li_0, li_1, lt_y, lt_n, le_y, le_n, eq_n, nL, nLe, nEq, nEm, mEn, nLm, mLn, nLem, mLen, nI_add, nI_mul, nI_sub, nI_m, ib_nI, nx_nI, gd_y, bnd_e, bind_y, ↓reduceIte, hI_uI_o, hI_uI_s, hI_uI_e, hL_uI, hI_uL, hL_uL_o, hL_uL_s, hL_uL_e, and1_a, and1_b, Bool.not_true, Bool.not_false, Nat.zero_add, Nat.add_zero, Nat.add_sub_cancel, eq_self, ne_b, g0_0, g0_1, g0_2, g0_3, g0_4, g0_5, g0_6, g0_7, g0_8, g0_9, n1, n2, g3_2, g3_3, g3_4, g3_5, g3_6, g3_7, g3_8, g3_9, n4, n5, n6, n7, n8, n9, g10_2, g10_3, g10_4, g10_5, n11, n12, n13, n14, g15_2, g15_3, g15_4, g15_5, n16, n17, n18, n19, g40_0, g40_1, g40_2, g44_0, g44_2, g44_3, g44_5, g44_6, g44_10, g51_3, g51_4, g51_5, g51_6, g51_7, g57_3, g57_4, g57_5, g57_6, g57_7, n120, n121, g122_0, g122_4, g122_5, g122_6, g122_7, g122_8, g122_18, g122_19, g122_20, g122_21, g122_24, g122_25, g122_28, g122_29, g122_31, g122_32, g122_33, g122_39, g122_40, g122_41, g122_45, g122_46, g122_47, g122_48, n123, n124, n125, n126, n127, n128, n129, n130, n131, n132, n133, n134, n135, n136, n137, n138, n139, n140, n141, n142, n143, n144, n145, n146, CL]
  | false =>
    rw [o1] at CL
    have g1 : B_X4_search_10 h1 51 (nI 0) = some (.inl (h1, nI 1)) := by
      unfold B_X4_search_10 J_X4_search_53
      simp (disch := omega) only [↓m1_n, li_n, li_0, li_1, lt_y, lt_n, le_y, le_n, eq_n, nL, nLe, nEq, nEm, mEn, nLm, mLn, nLem, mLen, nI_add, nI_mul, nI_sub, nI_m, ib_nI, nx_nI, gd_y, bnd_e, bind_y, ↓reduceIte, hI_uI_o, hI_uI_s, hI_uI_e, hL_uI, hI_uL, hL_uL_o, hL_uL_s, hL_uL_e, and1_a, and1_b, Bool.not_true, Bool.not_false, Nat.zero_add, Nat.add_zero, Nat.add_sub_cancel, eq_self, ne_b, g0_0, g0_1, g0_2, g0_3, g0_4, g0_5, g0_6, g0_7, g0_8, g0_9, n1, n2, g3_2, g3_3, g3_4, g3_5, g3_6, g3_7, g3_8, g3_9, n4, n5, n6, n7, n8, n9, g10_2, g10_3, g10_4, g10_5, n11, n12, n13, n14, g15_2, g15_3, g15_4, g15_5, n16, n17, n18, n19, g40_0, g40_1, g40_2, g44_0, g44_2, g44_3, g44_5, g44_6, g44_10, g51_3, g51_4, g51_5, g51_6, g51_7, g57_3, g57_4, g57_5, g57_6, g57_7, n120, n121, g122_0, g122_4, g122_5, g122_6, g122_7, g122_8, g122_18, g122_19, g122_20, g122_21, g122_24, g122_25, g122_28, g122_29, g122_31, g122_32, g122_33, g122_39, g122_40, g122_41, g122_45, g122_46, g122_47, g122_48, n123, n124, n125, n126, n127, n128, n129, n130, n131, n132, n133, n134, n135, n136, n137, n138, n139, n140, n141, n142, n143, n144, n145, n146, CL, Bool.false_eq_true]
    have r0 : ¬ okB t c = true := by rw [o1]; exact Bool.false_ne_true
    by_cases z1 : 0 < cnt (hit1 A col t c) (3 * oN A)
    · refine fin h2 1 (cnt (hit1 A col t c) (3 * oN A)) b2 (by unfold resF; rw [if_neg r0, if_pos z1]) ((iterW_go g1).trans (iterW_end ?_)) (fun _ => b4) (fun e => absurd e (by decide))
      show B_X4_search_10 _ _ _ = _
      unfold B_X4_search_10 J_X4_search_53
      simp (disch := omega) only [↓m1_n, li_n, li_0, li_1, lt_y, lt_n, le_y, le_n, eq_n, nL, nLe, nEq, nEm, mEn, nLm, mLn, nLem, mLen, nI_add, nI_mul, nI_sub, nI_m, ib_nI, nx_nI, gd_y, bnd_e, bind_y, ↓reduceIte, hI_uI_o, hI_uI_s, hI_uI_e, hL_uI, hI_uL, hL_uL_o, hL_uL_s, hL_uL_e, and1_a, and1_b, Bool.not_true, Bool.not_false, Nat.zero_add, Nat.add_zero, Nat.add_sub_cancel, eq_self, ne_b, g0_0, g0_1, g0_2, g0_3, g0_4, g0_5, g0_6, g0_7, g0_8, g0_9, n1, n2, g3_2, g3_3, g3_4, g3_5, g3_6, g3_7, g3_8, g3_9, n4, n5, n6, n7, n8, n9, g10_2, g10_3, g10_4, g10_5, n11, n12, n13, n14, g15_2, g15_3, g15_4, g15_5, n16, n17, n18, n19, g40_0, g40_1, g40_2, g44_0, g44_2, g44_3, g44_5, g44_6, g44_10, g51_3, g51_4, g51_5, g51_6, g51_7, g57_3, g57_4, g57_5, g57_6, g57_7, n120, n121, g122_0, g122_4, g122_5, g122_6, g122_7, g122_8, g122_18, g122_19, g122_20, g122_21, g122_24, g122_25, g122_28, g122_29, g122_31, g122_32, g122_33, g122_39, g122_40, g122_41, g122_45, g122_46, g122_47, g122_48, n123, n124, n125, n126, n127, n128, n129, n130, n131, n132, n133, n134, n135, n136, n137, n138, n139, n140, n141, n142, n143, n144, n145, n146, b1]
    · have g2 : B_X4_search_10 h1 51 (nI 1) = some (.inl (h2, nI 2)) := by
        unfold B_X4_search_10 J_X4_search_53
        simp (disch := omega) only [↓m1_n, li_n, li_0, li_1, lt_y, lt_n, le_y, le_n, eq_n, nL, nLe, nEq, nEm, mEn, nLm, mLn, nLem, mLen, nI_add, nI_mul, nI_sub, nI_m, ib_nI, nx_nI, gd_y, bnd_e, bind_y, ↓reduceIte, hI_uI_o, hI_uI_s, hI_uI_e, hL_uI, hI_uL, hL_uL_o, hL_uL_s, hL_uL_e, and1_a, and1_b, Bool.not_true, Bool.not_false, Nat.zero_add, Nat.add_zero, Nat.add_sub_cancel, eq_self, ne_b, g0_0, g0_1, g0_2, g0_3, g0_4, g0_5, g0_6, g0_7, g0_8, g0_9, n1, n2, g3_2, g3_3, g3_4, g3_5, g3_6, g3_7, g3_8, g3_9, n4, n5, n6, n7, n8, n9, g10_2, g10_3, g10_4, g10_5, n11, n12, n13, n14, g15_2, g15_3, g15_4, g15_5, n16, n17, n18, n19, g40_0, g40_1, g40_2, g44_0, g44_2, g44_3, g44_5, g44_6, g44_10, g51_3, g51_4, g51_5, g51_6, g51_7, g57_3, g57_4, g57_5, g57_6, g57_7, n120, n121, g122_0, g122_4, g122_5, g122_6, g122_7, g122_8, g122_18, g122_19, g122_20, g122_21, g122_24, g122_25, g122_28, g122_29, g122_31, g122_32, g122_33, g122_39, g122_40, g122_41, g122_45, g122_46, g122_47, g122_48, n123, n124, n125, n126, n127, n128, n129, n130, n131, n132, n133, n134, n135, n136, n137, n138, n139, n140, n141, n142, n143, n144, n145, n146, b1]
      by_cases z2 : 0 < tot2 A col t c (3 * oN A)
      · refine fin h3 2 (tot2 A col t c (3 * oN A)) (b2.trans d2) (by unfold resF; rw [if_neg r0, if_neg z1, if_pos z2]) ((iterW_go g1).trans ((iterW_go g2).trans (iterW_end ?_))) (fun e => absurd e (by decide)) (fun _ => d4)
        show B_X4_search_10 _ _ _ = _
        unfold B_X4_search_10 J_X4_search_53
        simp (disch := omega) only [↓m1_n, li_n, li_0, li_1, lt_y, lt_n, le_y, le_n, eq_n, nL, nLe, nEq, nEm, mEn, nLm, mLn, nLem, mLen, nI_add, nI_mul, nI_sub, nI_m, ib_nI, nx_nI, gd_y, bnd_e, bind_y, ↓reduceIte, hI_uI_o, hI_uI_s, hI_uI_e, hL_uI, hI_uL, hL_uL_o, hL_uL_s, hL_uL_e, and1_a, and1_b, Bool.not_true, Bool.not_false, Nat.zero_add, Nat.add_zero, Nat.add_sub_cancel, eq_self, ne_b, g0_0, g0_1, g0_2, g0_3, g0_4, g0_5, g0_6, g0_7, g0_8, g0_9, n1, n2, g3_2, g3_3, g3_4, g3_5, g3_6, g3_7, g3_8, g3_9, n4, n5, n6, n7, n8, n9, g10_2, g10_3, g10_4, g10_5, n11, n12, n13, n14, g15_2, g15_3, g15_4, g15_5, n16, n17, n18, n19, g40_0, g40_1, g40_2, g44_0, g44_2, g44_3, g44_5, g44_6, g44_10, g51_3, g51_4, g51_5, g51_6, g51_7, g57_3, g57_4, g57_5, g57_6, g57_7, n120, n121, g122_0, g122_4, g122_5, g122_6, g122_7, g122_8, g122_18, g122_19, g122_20, g122_21, g122_24, g122_25, g122_28, g122_29, g122_31, g122_32, g122_33, g122_39, g122_40, g122_41, g122_45, g122_46, g122_47, g122_48, n123, n124, n125, n126, n127, n128, n129, n130, n131, n132, n133, n134, n135, n136, n137, n138, n139, n140, n141, n142, n143, n144, n145, n146, d1]
      · have g3 : B_X4_search_10 h2 51 (nI 2) = some (.inl (h3, nI 3)) := by
          unfold B_X4_search_10 J_X4_search_53
          simp (disch := omega) only [↓m1_n, li_n, li_0, li_1, lt_y, lt_n, le_y, le_n, eq_n, nL, nLe, nEq, nEm, mEn, nLm, mLn, nLem, mLen, nI_add, nI_mul, nI_sub, nI_m, ib_nI, nx_nI, gd_y, bnd_e, bind_y, ↓reduceIte, hI_uI_o, hI_uI_s, hI_uI_e, hL_uI, hI_uL, hL_uL_o, hL_uL_s, hL_uL_e, and1_a, and1_b, Bool.not_true, Bool.not_false, Nat.zero_add, Nat.add_zero, Nat.add_sub_cancel, eq_self, ne_b, g0_0, g0_1, g0_2, g0_3, g0_4, g0_5, g0_6, g0_7, g0_8, g0_9, n1, n2, g3_2, g3_3, g3_4, g3_5, g3_6, g3_7, g3_8, g3_9, n4, n5, n6, n7, n8, n9, g10_2, g10_3, g10_4, g10_5, n11, n12, n13, n14, g15_2, g15_3, g15_4, g15_5, n16, n17, n18, n19, g40_0, g40_1, g40_2, g44_0, g44_2, g44_3, g44_5, g44_6, g44_10, g51_3, g51_4, g51_5, g51_6, g51_7, g57_3, g57_4, g57_5, g57_6, g57_7, n120, n121, g122_0, g122_4, g122_5, g122_6, g122_7, g122_8, g122_18, g122_19, g122_20, g122_21, g122_24, g122_25, g122_28, g122_29, g122_31, g122_32, g122_33, g122_39, g122_40, g122_41, g122_45, g122_46, g122_47, g122_48, n123, n124, n125, n126, n127, n128, n129, n130, n131, n132, n133, n134, n135, n136, n137, n138, n139, n140, n141, n142, n143, n144, n145, n146, d1]
        have er : resF A col t c = none := by unfold resF; rw [if_neg r0, if_neg z1, if_neg z2]
        have eL : L_X4_search_10 h1 51 (nI 0) = some (.inr (h3, nI 0)) := (iterW_go g1).trans ((iterW_go g2).trans ((iterW_go g3).trans (iterW_end rfl)))
        rw [er]
        refine ⟨h3, ?_, fun d x1 x2 x3 x4 x5 => by rw [d2.1 d x3, b2.1 d x3, a4 d x1 x4 x5], fun d hd => by rw [d2.2 d hd, b2.2 d hd, a6 d hd], fun _ => ⟨fun k hk => by rw [d2.1 51 (by decide), b2.1 51 (by decide), a5 k (by omega) (by omega)], by rw [d2.1 52 (by decide), b2.1 52 (by decide), a4 52 (by decide) (by decide) (by decide)]⟩, fun l s e => (by cases e)⟩
        unfold F_X4_search
        simp (disch := omega) only [↓m1_n, li_n, li_0, li_1, lt_y, lt_n, le_y, le_n, eq_n, nL, nLe, nEq, nEm, mEn, nLm, mLn, nLem, mLen, nI_add, nI_mul, nI_sub, nI_m, ib_nI, nx_nI, gd_y, bnd_e, bind_y, ↓reduceIte, hI_uI_o, hI_uI_s, hI_uI_e, hL_uI, hI_uL, hL_uL_o, hL_uL_s, hL_uL_e, and1_a, and1_b, Bool.not_true, Bool.not_false, Nat.zero_add, Nat.add_zero, Nat.add_sub_cancel, eq_self, ne_b, g0_0, g0_1, g0_2, g0_3, g0_4, g0_5, g0_6, g0_7, g0_8, g0_9, n1, n2, g3_2, g3_3, g3_4, g3_5, g3_6, g3_7, g3_8, g3_9, n4, n5, n6, n7, n8, n9, g10_2, g10_3, g10_4, g10_5, n11, n12, n13, n14, g15_2, g15_3, g15_4, g15_5, n16, n17, n18, n19, g40_0, g40_1, g40_2, g44_0, g44_2, g44_3, g44_5, g44_6, g44_10, g51_3, g51_4, g51_5, g51_6, g51_7, g57_3, g57_4, g57_5, g57_6, g57_7, n120, n121, g122_0, g122_4, g122_5, g122_6, g122_7, g122_8, g122_18, g122_19, g122_20, g122_21, g122_24, g122_25, g122_28, g122_29, g122_31, g122_32, g122_33, g122_39, g122_40, g122_41, g122_45, g122_46, g122_47, g122_48, n123, n124, n125, n126, n127, n128, n129, n130, n131, n132, n133, n134, n135, n136, n137, n138, n139, n140, n141, n142, n143, n144, n145, n146, a1, eL, Sum.elim_inr, Option.isSome_none, Bool.false_eq_true]
/-! ===== fewest: the reference's counts ===== -/
def MG (h : Hp) (c : Nat → Int) : Prop := (∀ k, k < 12 → hI h 140 k = Int32.ofInt (c k)) ∧ hI h 122 44 = Int32.ofInt (c 12)
/-- the reference's word for what a card reads -/
def rvV (v : Nat) : Int32 := if v = 13 then -2 else if v = 12 then mN else nI v
theorem m_counts {h : Hp} {c : Nat → Int} {v : Nat} {b : Int} {x y : Int32} (g : MG h c) (hv : v ≤ 12) (hy : y = rvV v) (hb : x = Int32.ofInt b) : ∃ h', F_X12_counts h 122 y x = some h' ∧ MG h' (tlc c v b) ∧ (∀ d, d ≠ 140 → d ≠ 122 → hI h' d = hI h d) ∧ (∀ k, k ≠ 44 → hI h' 122 k = hI h 122 k) ∧ hL h' = hL h := by
  have e : ∀ k, Int32.ofInt (c k) + Int32.ofInt (b * wgt v k) = Int32.ofInt (tlc c v b k) := fun k => by rw [← Int32.ofInt_add]; rfl
  subst hy
  unfold rvV
  rw [if_neg (by omega)]
  by_cases c12 : v = 12
  · rw [if_pos c12]
    refine ⟨h, ?_, ⟨fun k hk => ?_, ?_⟩, fun _ _ _ => rfl, fun _ _ => rfl, rfl⟩
    · unfold F_X12_counts
      rw [if_neg (by decide)]
    · rw [g.1 k hk]
      unfold tlc wgt
      rw [if_neg (by omega), if_neg (by omega)]
      congr 1
      omega
    · rw [g.2]
      unfold tlc wgt
      rw [if_neg (by omega), if_neg (by omega)]
      congr 1
      omega
  rw [if_neg c12]
  have c140 : ∀ (z : Int32) k, k < 12 → hI (uI (uI h 140 v (hI h 140 v + x)) 122 44 z) 140 k = Int32.ofInt (tlc c v b k) := by
    intro z k hk
    rw [hI_uI_o (by decide), ← e k]
    by_cases ck : k = v
    · subst ck
      rw [hI_uI_e, hb, g.1 k hk]
      unfold wgt
      rw [if_pos ⟨rfl, by omega⟩, if_neg (by omega)]
      congr 2
      omega
    · rw [hI_uI_s ck, g.1 k hk]
      unfold wgt
      rw [if_neg (by omega), if_neg (by omega), ← Int32.ofInt_add]
      congr 1
      omega
  by_cases c10 : 10 ≤ v
  · refine ⟨uI (uI h 140 v (hI h 140 v + x)) 122 44 (hI h 122 44 + nI 0), ?_, ⟨fun k hk => c140 _ k hk, ?_⟩, fun d d1 d2 => by rw [hI_uI_o d2, hI_uI_o d1], fun k hk => by rw [hI_uI_s hk, hI_uI_o (by decide)], rfl⟩
    · unfold F_X12_counts
      simp (disch := omega) only [↓m1_n, li_n, li_0, li_1, lt_y, lt_n, le_y, le_n, eq_n, nL, nLe, nEq, nEm, mEn, nLm, mLn, nLem, mLen, nI_add, nI_mul, nI_sub, nI_m, ib_nI, nx_nI, gd_y, bnd_e, bind_y, ↓reduceIte, hI_uI_o, hI_uI_s, hI_uI_e, hL_uI, hI_uL, hL_uL_o, hL_uL_s, hL_uL_e, and1_a, and1_b, Bool.not_true, Bool.not_false, Nat.zero_add, Nat.add_zero, Nat.add_sub_cancel, eq_self, ne_b, g0_0, g0_1, g0_2, g0_3, g0_4, g0_5, g0_6, g0_7, g0_8, g0_9, n1, n2, g3_2, g3_3, g3_4, g3_5, g3_6, g3_7, g3_8, g3_9, n4, n5, n6, n7, n8, n9, g10_2, g10_3, g10_4, g10_5, n11, n12, n13, n14, g15_2, g15_3, g15_4, g15_5, n16, n17, n18, n19, g40_0, g40_1, g40_2, g44_0, g44_2, g44_3, g44_5, g44_6, g44_10, g51_3, g51_4, g51_5, g51_6, g51_7, g57_3, g57_4, g57_5, g57_6, g57_7, n120, n121, g122_0, g122_4, g122_5, g122_6, g122_7, g122_8, g122_18, g122_19, g122_20, g122_21, g122_24, g122_25, g122_28, g122_29, g122_31, g122_32, g122_33, g122_39, g122_40, g122_41, g122_45, g122_46, g122_47, g122_48, n123, n124, n125, n126, n127, n128, n129, n130, n131, n132, n133, n134, n135, n136, n137, n138, n139, n140, n141, n142, n143, n144, n145, n146]
    · rw [hI_uI_e, g.2, ← e 12, show nI 0 = Int32.ofInt 0 from rfl]
      unfold wgt
      rw [if_neg (by omega), if_neg (by omega)]
      congr 2
      omega
  · refine ⟨uI (uI h 140 v (hI h 140 v + x)) 122 44 (hI h 122 44 + x * nI v), ?_, ⟨fun k hk => c140 _ k hk, ?_⟩, fun d d1 d2 => by rw [hI_uI_o d2, hI_uI_o d1], fun k hk => by rw [hI_uI_s hk, hI_uI_o (by decide)], rfl⟩
    · unfold F_X12_counts
      simp (disch := omega) only [↓m1_n, li_n, li_0, li_1, lt_y, lt_n, le_y, le_n, eq_n, nL, nLe, nEq, nEm, mEn, nLm, mLn, nLem, mLen, nI_add, nI_mul, nI_sub, nI_m, ib_nI, nx_nI, gd_y, bnd_e, bind_y, ↓reduceIte, hI_uI_o, hI_uI_s, hI_uI_e, hL_uI, hI_uL, hL_uL_o, hL_uL_s, hL_uL_e, and1_a, and1_b, Bool.not_true, Bool.not_false, Nat.zero_add, Nat.add_zero, Nat.add_sub_cancel, eq_self, ne_b, g0_0, g0_1, g0_2, g0_3, g0_4, g0_5, g0_6, g0_7, g0_8, g0_9, n1, n2, g3_2, g3_3, g3_4, g3_5, g3_6, g3_7, g3_8, g3_9, n4, n5, n6, n7, n8, n9, g10_2, g10_3, g10_4, g10_5, n11, n12, n13, n14, g15_2, g15_3, g15_4, g15_5, n16, n17, n18, n19, g40_0, g40_1, g40_2, g44_0, g44_2, g44_3, g44_5, g44_6, g44_10, g51_3, g51_4, g51_5, g51_6, g51_7, g57_3, g57_4, g57_5, g57_6, g57_7, n120, n121, g122_0, g122_4, g122_5, g122_6, g122_7, g122_8, g122_18, g122_19, g122_20, g122_21, g122_24, g122_25, g122_28, g122_29, g122_31, g122_32, g122_33, g122_39, g122_40, g122_41, g122_45, g122_46, g122_47, g122_48, n123, n124, n125, n126, n127, n128, n129, n130, n131, n132, n133, n134, n135, n136, n137, n138, n139, n140, n141, n142, n143, n144, n145, n146]
    · rw [hI_uI_e, g.2, hb, nI_oi (by omega), ← Int32.ofInt_mul, ← e 12]
      unfold wgt
      rw [if_neg (by omega), if_pos ⟨rfl, by omega⟩]
      congr 3
      omega
theorem m_told {h : Hp} {c : Nat → Int} {j : Nat} (g : MG h c) (hj : j < 4) (bd : ∀ k, k < 13 → -1000000 ≤ c k ∧ c k ≤ 1000000) : F_X12_isTold h 122 (nI j) = some (if okB (fun k => hL h 126 (60 * j + k)) c then nI 1 else nI 0) := by
  have E : ∀ k, k < 13 → (Int32.ofInt (c k)).toInt64 = Int64.ofInt (c k) := fun k hk => oi_64 (bd k hk).1 (bd k hk).2
  have e2 : ∀ m, m < 12 → (lg_cmp (hL h 126 (60 * j + m)) (Int32.ofInt (c m)).toInt64 = nI 0) = (hL h 126 (60 * j + m) = Int64.ofInt (c m)) := by
    intro m hm
    rw [show (lg_cmp (hL h 126 (60 * j + m)) (Int32.ofInt (c m)).toInt64 = nI 0) = (hL h 126 (60 * j + m) = (Int32.ofInt (c m)).toInt64) from propext (lg_cmp_eq _ _), E m (by omega)]
  have e3 : (lg_cmp (hL h 126 (60 * j + 12)) (Int32.ofInt (c 12)).toInt64 = nI 0) = (hL h 126 (60 * j + 12) = Int64.ofInt (c 12)) := by
    rw [show (lg_cmp (hL h 126 (60 * j + 12)) (Int32.ofInt (c 12)).toInt64 = nI 0) = (hL h 126 (60 * j + 12) = (Int32.ofInt (c 12)).toInt64) from propext (lg_cmp_eq _ _), E 12 (by omega)]
  generalize hP : (fun k => decide (hL h 126 (60 * j + k) ≠ Int64.ofInt (c k))) = P
  have pt : ∀ m, m < 12 → hL h 126 (60 * j + m) = Int64.ofInt (c m) → P m = false := fun m _ e => by rw [← hP]; simp [e]
  have pf : ∀ m, m < 12 → hL h 126 (60 * j + m) ≠ Int64.ofInt (c m) → P m = true := fun m _ e => by rw [← hP]; simp [e]
  have lp : ∀ b : Bool, L_X12_isTold_29 h 122 (nI j) (bI b) (nI 0) = some (bI (b && !exB P 12)) := by
    intro b
    have key := iterW_for (f := fun s : Int32 × Int32 => B_X12_isTold_29 h 122 (nI j) s.1 s.2) (fun m => (bI (b && !exB P m), nI m)) 12 (r := bI (b && !exB P 12)) (fun m hm => ?_) ?_
    · have e0 : (b && !exB P 0) = b := by
        show (b && true) = b
        exact Bool.and_true b
      rw [e0] at key
      exact key
    · show B_X12_isTold_29 _ _ _ _ _ = some (.inl (bI (b && !(exB P m || P m)), nI (m + 1)))
      unfold B_X12_isTold_29
      cases b with
      | false =>
        rw [Bool.false_and, Bool.false_and]
        unfold bI
        rw [if_neg Bool.false_ne_true]
        simp (disch := omega) only [↓m1_n, li_n, li_0, li_1, lt_y, lt_n, le_y, le_n, eq_n, nL, nLe, nEq, nEm, mEn, nLm, mLn, nLem, mLen, nI_add, nI_mul, nI_sub, nI_m, ib_nI, nx_nI, gd_y, bnd_e, bind_y, ↓reduceIte, hI_uI_o, hI_uI_s, hI_uI_e, hL_uI, hI_uL, hL_uL_o, hL_uL_s, hL_uL_e, and1_a, and1_b, Bool.not_true, Bool.not_false, Nat.zero_add, Nat.add_zero, Nat.add_sub_cancel, eq_self, ne_b, g0_0, g0_1, g0_2, g0_3, g0_4, g0_5, g0_6, g0_7, g0_8, g0_9, n1, n2, g3_2, g3_3, g3_4, g3_5, g3_6, g3_7, g3_8, g3_9, n4, n5, n6, n7, n8, n9, g10_2, g10_3, g10_4, g10_5, n11, n12, n13, n14, g15_2, g15_3, g15_4, g15_5, n16, n17, n18, n19, g40_0, g40_1, g40_2, g44_0, g44_2, g44_3, g44_5, g44_6, g44_10, g51_3, g51_4, g51_5, g51_6, g51_7, g57_3, g57_4, g57_5, g57_6, g57_7, n120, n121, g122_0, g122_4, g122_5, g122_6, g122_7, g122_8, g122_18, g122_19, g122_20, g122_21, g122_24, g122_25, g122_28, g122_29, g122_31, g122_32, g122_33, g122_39, g122_40, g122_41, g122_45, g122_46, g122_47, g122_48, n123, n124, n125, n126, n127, n128, n129, n130, n131, n132, n133, n134, n135, n136, n137, n138, n139, n140, n141, n142, n143, n144, n145, n146]
      | true =>
        rw [Bool.true_and, Bool.true_and]
        cases exB P m with
        | true =>
          rw [Bool.true_or]
          unfold bI
          rw [Bool.not_true, if_neg Bool.false_ne_true]
          simp (disch := omega) only [↓m1_n, li_n, li_0, li_1, lt_y, lt_n, le_y, le_n, eq_n, nL, nLe, nEq, nEm, mEn, nLm, mLn, nLem, mLen, nI_add, nI_mul, nI_sub, nI_m, ib_nI, nx_nI, gd_y, bnd_e, bind_y, ↓reduceIte, hI_uI_o, hI_uI_s, hI_uI_e, hL_uI, hI_uL, hL_uL_o, hL_uL_s, hL_uL_e, and1_a, and1_b, Bool.not_true, Bool.not_false, Nat.zero_add, Nat.add_zero, Nat.add_sub_cancel, eq_self, ne_b, g0_0, g0_1, g0_2, g0_3, g0_4, g0_5, g0_6, g0_7, g0_8, g0_9, n1, n2, g3_2, g3_3, g3_4, g3_5, g3_6, g3_7, g3_8, g3_9, n4, n5, n6, n7, n8, n9, g10_2, g10_3, g10_4, g10_5, n11, n12, n13, n14, g15_2, g15_3, g15_4, g15_5, n16, n17, n18, n19, g40_0, g40_1, g40_2, g44_0, g44_2, g44_3, g44_5, g44_6, g44_10, g51_3, g51_4, g51_5, g51_6, g51_7, g57_3, g57_4, g57_5, g57_6, g57_7, n120, n121, g122_0, g122_4, g122_5, g122_6, g122_7, g122_8, g122_18, g122_19, g122_20, g122_21, g122_24, g122_25, g122_28, g122_29, g122_31, g122_32, g122_33, g122_39, g122_40, g122_41, g122_45, g122_46, g122_47, g122_48, n123, n124, n125, n126, n127, n128, n129, n130, n131, n132, n133, n134, n135, n136, n137, n138, n139, n140, n141, n142, n143, n144, n145, n146]
        | false =>
          rw [Bool.false_or]
          by_cases q : hL h 126 (60 * j + m) = Int64.ofInt (c m)
          · rw [pt m hm q]
            unfold bI
            rw [Bool.not_false, if_pos rfl]
            simp (disch := omega) only [↓m1_n, li_n, li_0, li_1, lt_y, lt_n, le_y, le_n, eq_n, nL, nLe, nEq, nEm, mEn, nLm, mLn, nLem, mLen, nI_add, nI_mul, nI_sub, nI_m, ib_nI, nx_nI, gd_y, bnd_e, bind_y, ↓reduceIte, hI_uI_o, hI_uI_s, hI_uI_e, hL_uI, hI_uL, hL_uL_o, hL_uL_s, hL_uL_e, and1_a, and1_b, Bool.not_true, Bool.not_false, Nat.zero_add, Nat.add_zero, Nat.add_sub_cancel, eq_self, ne_b, g0_0, g0_1, g0_2, g0_3, g0_4, g0_5, g0_6, g0_7, g0_8, g0_9, n1, n2, g3_2, g3_3, g3_4, g3_5, g3_6, g3_7, g3_8, g3_9, n4, n5, n6, n7, n8, n9, g10_2, g10_3, g10_4, g10_5, n11, n12, n13, n14, g15_2, g15_3, g15_4, g15_5, n16, n17, n18, n19, g40_0, g40_1, g40_2, g44_0, g44_2, g44_3, g44_5, g44_6, g44_10, g51_3, g51_4, g51_5, g51_6, g51_7, g57_3, g57_4, g57_5, g57_6, g57_7, n120, n121, g122_0, g122_4, g122_5, g122_6, g122_7, g122_8, g122_18, g122_19, g122_20, g122_21, g122_24, g122_25, g122_28, g122_29, g122_31, g122_32, g122_33, g122_39, g122_40, g122_41, g122_45, g122_46, g122_47, g122_48, n123, n124, n125, n126, n127, n128, n129, n130, n131, n132, n133, n134, n135, n136, n137, n138, n139, n140, n141, n142, n143, n144, n145, n146, g.1 m hm, e2 m hm, if_pos q]
          · rw [pf m hm q]
            unfold bI
            rw [Bool.not_false, if_pos rfl, Bool.not_true, if_neg Bool.false_ne_true]
            simp (disch := omega) only [↓m1_n, li_n, li_0, li_1, lt_y, lt_n, le_y, le_n, eq_n, nL, nLe, nEq, nEm, mEn, nLm, mLn, nLem, mLen, nI_add, nI_mul, nI_sub, nI_m, ib_nI, nx_nI, gd_y, bnd_e, bind_y, ↓reduceIte, hI_uI_o, hI_uI_s, hI_uI_e, hL_uI, hI_uL, hL_uL_o, hL_uL_s, hL_uL_e, and1_a, and1_b, Bool.not_true, Bool.not_false, Nat.zero_add, Nat.add_zero, Nat.add_sub_cancel, eq_self, ne_b, g0_0, g0_1, g0_2, g0_3, g0_4, g0_5, g0_6, g0_7, g0_8, g0_9, n1, n2, g3_2, g3_3, g3_4, g3_5, g3_6, g3_7, g3_8, g3_9, n4, n5, n6, n7, n8, n9, g10_2, g10_3, g10_4, g10_5, n11, n12, n13, n14, g15_2, g15_3, g15_4, g15_5, n16, n17, n18, n19, g40_0, g40_1, g40_2, g44_0, g44_2, g44_3, g44_5, g44_6, g44_10, g51_3, g51_4, g51_5, g51_6, g51_7, g57_3, g57_4, g57_5, g57_6, g57_7, n120, n121, g122_0, g122_4, g122_5, g122_6, g122_7, g122_8, g122_18, g122_19, g122_20, g122_21, g122_24, g122_25, g122_28, g122_29, g122_31, g122_32, g122_33, g122_39, g122_40, g122_41, g122_45, g122_46, g122_47, g122_48, n123, n124, n125, n126, n127, n128, n129, n130, n131, n132, n133, n134, n135, n136, n137, n138, n139, n140, n141, n142, n143, n144, n145, n146, g.1 m hm, e2 m hm, if_neg q]
    · show B_X12_isTold_29 _ _ _ _ _ = _
      unfold B_X12_isTold_29
      cases (b && !exB P 12) with
      | false =>
        unfold bI
        rw [if_neg Bool.false_ne_true]
        simp (disch := omega) only [↓m1_n, li_n, li_0, li_1, lt_y, lt_n, le_y, le_n, eq_n, nL, nLe, nEq, nEm, mEn, nLm, mLn, nLem, mLen, nI_add, nI_mul, nI_sub, nI_m, ib_nI, nx_nI, gd_y, bnd_e, bind_y, ↓reduceIte, hI_uI_o, hI_uI_s, hI_uI_e, hL_uI, hI_uL, hL_uL_o, hL_uL_s, hL_uL_e, and1_a, and1_b, Bool.not_true, Bool.not_false, Nat.zero_add, Nat.add_zero, Nat.add_sub_cancel, eq_self, ne_b, g0_0, g0_1, g0_2, g0_3, g0_4, g0_5, g0_6, g0_7, g0_8, g0_9, n1, n2, g3_2, g3_3, g3_4, g3_5, g3_6, g3_7, g3_8, g3_9, n4, n5, n6, n7, n8, n9, g10_2, g10_3, g10_4, g10_5, n11, n12, n13, n14, g15_2, g15_3, g15_4, g15_5, n16, n17, n18, n19, g40_0, g40_1, g40_2, g44_0, g44_2, g44_3, g44_5, g44_6, g44_10, g51_3, g51_4, g51_5, g51_6, g51_7, g57_3, g57_4, g57_5, g57_6, g57_7, n120, n121, g122_0, g122_4, g122_5, g122_6, g122_7, g122_8, g122_18, g122_19, g122_20, g122_21, g122_24, g122_25, g122_28, g122_29, g122_31, g122_32, g122_33, g122_39, g122_40, g122_41, g122_45, g122_46, g122_47, g122_48, n123, n124, n125, n126, n127, n128, n129, n130, n131, n132, n133, n134, n135, n136, n137, n138, n139, n140, n141, n142, n143, n144, n145, n146, and1_a]
      | true =>
        unfold bI
        rw [if_pos rfl]
        simp (disch := omega) only [↓m1_n, li_n, li_0, li_1, lt_y, lt_n, le_y, le_n, eq_n, nL, nLe, nEq, nEm, mEn, nLm, mLn, nLem, mLen, nI_add, nI_mul, nI_sub, nI_m, ib_nI, nx_nI, gd_y, bnd_e, bind_y, ↓reduceIte, hI_uI_o, hI_uI_s, hI_uI_e, hL_uI, hI_uL, hL_uL_o, hL_uL_s, hL_uL_e, and1_a, and1_b, Bool.not_true, Bool.not_false, Nat.zero_add, Nat.add_zero, Nat.add_sub_cancel, eq_self, ne_b, g0_0, g0_1, g0_2, g0_3, g0_4, g0_5, g0_6, g0_7, g0_8, g0_9, n1, n2, g3_2, g3_3, g3_4, g3_5, g3_6, g3_7, g3_8, g3_9, n4, n5, n6, n7, n8, n9, g10_2, g10_3, g10_4, g10_5, n11, n12, n13, n14, g15_2, g15_3, g15_4, g15_5, n16, n17, n18, n19, g40_0, g40_1, g40_2, g44_0, g44_2, g44_3, g44_5, g44_6, g44_10, g51_3, g51_4, g51_5, g51_6, g51_7, g57_3, g57_4, g57_5, g57_6, g57_7, n120, n121, g122_0, g122_4, g122_5, g122_6, g122_7, g122_8, g122_18, g122_19, g122_20, g122_21, g122_24, g122_25, g122_28, g122_29, g122_31, g122_32, g122_33, g122_39, g122_40, g122_41, g122_45, g122_46, g122_47, g122_48, n123, n124, n125, n126, n127, n128, n129, n130, n131, n132, n133, n134, n135, n136, n137, n138, n139, n140, n141, n142, n143, n144, n145, n146, and1_b]
  have fin : okB (fun k => hL h 126 (60 * j + k)) c = !(exB P 12 || P 12) := by
    unfold okB
    rw [← hP]
    rfl
  rw [fin]
  unfold F_X12_isTold
  have l1 := lp true
  have l0 := lp false
  unfold bI at l1 l0
  rw [if_pos rfl] at l1
  rw [if_neg Bool.false_ne_true] at l0
  by_cases q : hL h 126 (60 * j + 12) = Int64.ofInt (c 12)
  · have : P 12 = false := by rw [← hP]; simp [q]
    rw [this, Bool.or_false]
    simp (disch := omega) only [↓m1_n, li_n, li_0, li_1, lt_y, lt_n, le_y, le_n, eq_n, nL, nLe, nEq, nEm, mEn, nLm, mLn, nLem, mLen, nI_add, nI_mul, nI_sub, nI_m, ib_nI, nx_nI, gd_y, bnd_e, bind_y, ↓reduceIte, hI_uI_o, hI_uI_s, hI_uI_e, hL_uI, hI_uL, hL_uL_o, hL_uL_s, hL_uL_e, and1_a, and1_b, Bool.not_true, Bool.not_false, Nat.zero_add, Nat.add_zero, Nat.add_sub_cancel, eq_self, ne_b, g0_0, g0_1, g0_2, g0_3, g0_4, g0_5, g0_6, g0_7, g0_8, g0_9, n1, n2, g3_2, g3_3, g3_4, g3_5, g3_6, g3_7, g3_8, g3_9, n4, n5, n6, n7, n8, n9, g10_2, g10_3, g10_4, g10_5, n11, n12, n13, n14, g15_2, g15_3, g15_4, g15_5, n16, n17, n18, n19, g40_0, g40_1, g40_2, g44_0, g44_2, g44_3, g44_5, g44_6, g44_10, g51_3, g51_4, g51_5, g51_6, g51_7, g57_3, g57_4, g57_5, g57_6, g57_7, n120, n121, g122_0, g122_4, g122_5, g122_6, g122_7, g122_8, g122_18, g122_19, g122_20, g122_21, g122_24, g122_25, g122_28, g122_29, g122_31, g122_32, g122_33, g122_39, g122_40, g122_41, g122_45, g122_46, g122_47, g122_48, n123, n124, n125, n126, n127, n128, n129, n130, n131, n132, n133, n134, n135, n136, n137, n138, n139, n140, n141, n142, n143, n144, n145, n146, g.2, e3, if_pos q, l1, Bool.true_and]
  · have : P 12 = true := by rw [← hP]; simp [q]
    rw [this, Bool.or_true]
    simp (disch := omega) only [↓m1_n, li_n, li_0, li_1, lt_y, lt_n, le_y, le_n, eq_n, nL, nLe, nEq, nEm, mEn, nLm, mLn, nLem, mLen, nI_add, nI_mul, nI_sub, nI_m, ib_nI, nx_nI, gd_y, bnd_e, bind_y, ↓reduceIte, hI_uI_o, hI_uI_s, hI_uI_e, hL_uI, hI_uL, hL_uL_o, hL_uL_s, hL_uL_e, and1_a, and1_b, Bool.not_true, Bool.not_false, Nat.zero_add, Nat.add_zero, Nat.add_sub_cancel, eq_self, ne_b, g0_0, g0_1, g0_2, g0_3, g0_4, g0_5, g0_6, g0_7, g0_8, g0_9, n1, n2, g3_2, g3_3, g3_4, g3_5, g3_6, g3_7, g3_8, g3_9, n4, n5, n6, n7, n8, n9, g10_2, g10_3, g10_4, g10_5, n11, n12, n13, n14, g15_2, g15_3, g15_4, g15_5, n16, n17, n18, n19, g40_0, g40_1, g40_2, g44_0, g44_2, g44_3, g44_5, g44_6, g44_10, g51_3, g51_4, g51_5, g51_6, g51_7, g57_3, g57_4, g57_5, g57_6, g57_7, n120, n121, g122_0, g122_4, g122_5, g122_6, g122_7, g122_8, g122_18, g122_19, g122_20, g122_21, g122_24, g122_25, g122_28, g122_29, g122_31, g122_32, g122_33, g122_39, g122_40, g122_41, g122_45, g122_46, g122_47, g122_48, n123, n124, n125, n126, n127, n128, n129, n130, n131, n132, n133, n134, n135, n136, n137, n138, n139, n140, n141, n142, n143, n144, n145, n146, g.2, e3, if_neg q, l0, Bool.false_and, Bool.not_true]
/-! ===== fewest: one misreading, told and taken back ===== -/
theorem rvV_rd {v : Nat} (h : v ≤ 11) : rvV v = nI v := by
  unfold rvV
  rw [if_neg (by omega), if_neg (by omega)]
theorem rvV_m2 {v : Nat} (h : v ≤ 13) : (rvV v = (-2 : Int32)) = (v = 13) := by
  unfold rvV
  by_cases a : v = 13
  · rw [if_pos a]
    simp [a]
  · rw [if_neg a]
    by_cases b : v = 12
    · rw [if_pos b]
      simp [b]
      decide
    · rw [if_neg b]
      have : nI v ≠ (-2 : Int32) := by
        intro e
        have := congrArg Int32.toInt e
        rw [nI_toInt (by omega)] at this
        have e2 : (-2 : Int32).toInt = -2 := by decide
        omega
      simp [a, this]
