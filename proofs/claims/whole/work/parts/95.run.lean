/-! ===== run ===== -/
theorem HoOk_re {q1 q2 : Nat} {A : Ho} (h : HoOk q1 A) (w : ∀ i, i < oN A → oW A i ≤ 200 * q2) : HoOk q2 A := ⟨h.1, fun i hi => ⟨(h.2.1 i hi).1, (h.2.1 i hi).2.1, (h.2.1 i hi).2.2.1, w i hi, (h.2.1 i hi).2.2.2.2⟩, h.2.2⟩
def S0 (A : Ho) : St := (A, 0, fun _ => 0, 0, nI 0, lN 0)
theorem S0_gd {q : Nat} {A : Ho} (ok : HoOk q A) : gdS q (S0 A) ∧ meS (S0 A) ≤ 18080 := by
  refine ⟨⟨ok, fun i hi => (ok.2.1 i hi).2.2.2.1, ⟨Nat.zero_le _, Nat.zero_le _⟩, fun o eo => ?_⟩, ?_⟩
  · have x3 : o < 0 := eo.2.2.1
    omega
  · unfold meS wS
    show 90 * (200 - 0) + (if 0 < sN (oS A) ∧ sK (oS A) 0 = 7 then (80 - 0) + (if sM (oS A) 0 + 1 = 0 ∧ sK (oS A) (sM (oS A) 0) = 5 then 0 else 0) else 0) ≤ 18080
    rw [ite_self]
    by_cases c : 0 < sN (oS A) ∧ sK (oS A) 0 = 7
    · rw [if_pos c]; omega
    · rw [if_neg c]; omega
theorem op_run (q : Nat) (h : Hp) (_ : q < 512) (i : Inv q h) : ∃ h1 h2 r, F_X11_run h 0 = some (h1, r) ∧ F_X12_run h1 122 = some (h2, r) ∧ Inv (q + 1) h2 := by
  obtain ⟨A, m, Mk, ok, rc, rm, hm, m1, m2, mk⟩ := id i.1
  have gd0 := S0_gd ok
  have fk := finN_ok 18080 (S0 A) gd0.1 gd0.2
  have rc0 : RcH (uI (uI (uI (uL (uI h 40 3 (nI 1)) 40 4 (lN 0)) 40 5 (nI 0)) 40 6 (nI 0)) 40 7 (nI 0)) 3 A := RcH_o (fun d a _ _ _ => by rw [hI_uI_o a, hI_uI_o a, hI_uI_o a, hI_uL, hI_uI_o a]) rc
  have cr0 : CR (uI (uI (uI (uL (uI h 40 3 (nI 1)) 40 4 (lN 0)) 40 5 (nI 0)) 40 6 (nI 0)) 40 7 (nI 0)) (S0 A) := by
    refine ⟨rc0, ?_, ?_, ?_, ?_, fun o eo => ?_⟩
    · simp (disch := omega) only [↓m1_n, li_n, li_0, li_1, lt_y, lt_n, le_y, le_n, eq_n, nL, nLe, nEq, nEm, mEn, nLm, mLn, nLem, mLen, nI_add, nI_mul, nI_sub, nI_m, ib_nI, nx_nI, gd_y, bnd_e, bind_y, ↓reduceIte, hI_uI_o, hI_uI_s, hI_uI_e, hL_uI, hI_uL, hL_uL_o, hL_uL_s, hL_uL_e, and1_a, and1_b, Bool.not_true, Bool.not_false, Nat.zero_add, Nat.add_zero, Nat.add_sub_cancel, eq_self, ne_b, g0_0, g0_1, g0_2, g0_3, g0_4, g0_5, g0_6, g0_7, g0_8, g0_9, n1, n2, g3_2, g3_3, g3_4, g3_5, g3_6, g3_7, g3_8, g3_9, n4, n5, n6, n7, n8, n9, g10_2, g10_3, g10_4, g10_5, n11, n12, n13, n14, g15_2, g15_3, g15_4, g15_5, n16, n17, n18, n19, g40_0, g40_1, g40_2, g44_0, g44_2, g44_3, g44_5, g44_6, g44_10, g51_3, g51_4, g51_5, g51_6, g51_7, g57_3, g57_4, g57_5, g57_6, g57_7, n120, n121, g122_0, g122_4, g122_5, g122_6, g122_7, g122_8, g122_18, g122_19, g122_20, g122_21, g122_24, g122_25, g122_28, g122_29, g122_31, g122_32, g122_33, g122_39, g122_40, g122_41, g122_45, g122_46, g122_47, g122_48, n123, n124, n125, n126, n127, n128, n129, n130, n131, n132, n133, n134, n135, n136, n137, n138, n139, n140, n141, n142, n143, n144, n145, n146]
      rfl
    · simp (disch := omega) only [↓m1_n, li_n, li_0, li_1, lt_y, lt_n, le_y, le_n, eq_n, nL, nLe, nEq, nEm, mEn, nLm, mLn, nLem, mLen, nI_add, nI_mul, nI_sub, nI_m, ib_nI, nx_nI, gd_y, bnd_e, bind_y, ↓reduceIte, hI_uI_o, hI_uI_s, hI_uI_e, hL_uI, hI_uL, hL_uL_o, hL_uL_s, hL_uL_e, and1_a, and1_b, Bool.not_true, Bool.not_false, Nat.zero_add, Nat.add_zero, Nat.add_sub_cancel, eq_self, ne_b, g0_0, g0_1, g0_2, g0_3, g0_4, g0_5, g0_6, g0_7, g0_8, g0_9, n1, n2, g3_2, g3_3, g3_4, g3_5, g3_6, g3_7, g3_8, g3_9, n4, n5, n6, n7, n8, n9, g10_2, g10_3, g10_4, g10_5, n11, n12, n13, n14, g15_2, g15_3, g15_4, g15_5, n16, n17, n18, n19, g40_0, g40_1, g40_2, g44_0, g44_2, g44_3, g44_5, g44_6, g44_10, g51_3, g51_4, g51_5, g51_6, g51_7, g57_3, g57_4, g57_5, g57_6, g57_7, n120, n121, g122_0, g122_4, g122_5, g122_6, g122_7, g122_8, g122_18, g122_19, g122_20, g122_21, g122_24, g122_25, g122_28, g122_29, g122_31, g122_32, g122_33, g122_39, g122_40, g122_41, g122_45, g122_46, g122_47, g122_48, n123, n124, n125, n126, n127, n128, n129, n130, n131, n132, n133, n134, n135, n136, n137, n138, n139, n140, n141, n142, n143, n144, n145, n146]
      rfl
    · simp (disch := omega) only [↓m1_n, li_n, li_0, li_1, lt_y, lt_n, le_y, le_n, eq_n, nL, nLe, nEq, nEm, mEn, nLm, mLn, nLem, mLen, nI_add, nI_mul, nI_sub, nI_m, ib_nI, nx_nI, gd_y, bnd_e, bind_y, ↓reduceIte, hI_uI_o, hI_uI_s, hI_uI_e, hL_uI, hI_uL, hL_uL_o, hL_uL_s, hL_uL_e, and1_a, and1_b, Bool.not_true, Bool.not_false, Nat.zero_add, Nat.add_zero, Nat.add_sub_cancel, eq_self, ne_b, g0_0, g0_1, g0_2, g0_3, g0_4, g0_5, g0_6, g0_7, g0_8, g0_9, n1, n2, g3_2, g3_3, g3_4, g3_5, g3_6, g3_7, g3_8, g3_9, n4, n5, n6, n7, n8, n9, g10_2, g10_3, g10_4, g10_5, n11, n12, n13, n14, g15_2, g15_3, g15_4, g15_5, n16, n17, n18, n19, g40_0, g40_1, g40_2, g44_0, g44_2, g44_3, g44_5, g44_6, g44_10, g51_3, g51_4, g51_5, g51_6, g51_7, g57_3, g57_4, g57_5, g57_6, g57_7, n120, n121, g122_0, g122_4, g122_5, g122_6, g122_7, g122_8, g122_18, g122_19, g122_20, g122_21, g122_24, g122_25, g122_28, g122_29, g122_31, g122_32, g122_33, g122_39, g122_40, g122_41, g122_45, g122_46, g122_47, g122_48, n123, n124, n125, n126, n127, n128, n129, n130, n131, n132, n133, n134, n135, n136, n137, n138, n139, n140, n141, n142, n143, n144, n145, n146]
    · simp (disch := omega) only [↓m1_n, li_n, li_0, li_1, lt_y, lt_n, le_y, le_n, eq_n, nL, nLe, nEq, nEm, mEn, nLm, mLn, nLem, mLen, nI_add, nI_mul, nI_sub, nI_m, ib_nI, nx_nI, gd_y, bnd_e, bind_y, ↓reduceIte, hI_uI_o, hI_uI_s, hI_uI_e, hL_uI, hI_uL, hL_uL_o, hL_uL_s, hL_uL_e, and1_a, and1_b, Bool.not_true, Bool.not_false, Nat.zero_add, Nat.add_zero, Nat.add_sub_cancel, eq_self, ne_b, g0_0, g0_1, g0_2, g0_3, g0_4, g0_5, g0_6, g0_7, g0_8, g0_9, n1, n2, g3_2, g3_3, g3_4, g3_5, g3_6, g3_7, g3_8, g3_9, n4, n5, n6, n7, n8, n9, g10_2, g10_3, g10_4, g10_5, n11, n12, n13, n14, g15_2, g15_3, g15_4, g15_5, n16, n17, n18, n19, g40_0, g40_1, g40_2, g44_0, g44_2, g44_3, g44_5, g44_6, g44_10, g51_3, g51_4, g51_5, g51_6, g51_7, g57_3, g57_4, g57_5, g57_6, g57_7, n120, n121, g122_0, g122_4, g122_5, g122_6, g122_7, g122_8, g122_18, g122_19, g122_20, g122_21, g122_24, g122_25, g122_28, g122_29, g122_31, g122_32, g122_33, g122_39, g122_40, g122_41, g122_45, g122_46, g122_47, g122_48, n123, n124, n125, n126, n127, n128, n129, n130, n131, n132, n133, n134, n135, n136, n137, n138, n139, n140, n141, n142, n143, n144, n145, n146]
      rfl
    · have x3 : o < 0 := eo.2.2.1
      omega
  obtain ⟨h1, a1, a2, a3, a4, a5, a6⟩ := c_runL 18080 (S0 A) _ 0 gd0.1 gd0.2 cr0 (by decide)
  have e1 : ∀ d, d ≠ 3 → d ≠ 8 → d ≠ 9 → d ≠ 40 → d ≠ 41 → d ≠ 42 → d ≠ 43 → hI h1 d = hI h d := fun d x1 x2 x3 x4 x5 x6 x7 => by rw [a6.1 d x1 x2 x3 x4 x5 x6 x7, hI_uI_o x4, hI_uI_o x4, hI_uI_o x4, hI_uL, hI_uI_o x4]
  have l1 : ∀ d, d ≠ 40 → hL h1 d = hL h d := fun d x => by rw [a6.2.1 d x, hL_uI, hL_uI, hL_uI, hL_uL_o x, hL_uI]
  have t1 : hI h1 40 3 = nI 1 := by
    rw [a6.2.2]
    simp (disch := omega) only [↓m1_n, li_n, li_0, li_1, lt_y, lt_n, le_y, le_n, eq_n, nL, nLe, nEq, nEm, mEn, nLm, mLn, nLem, mLen, nI_add, nI_mul, nI_sub, nI_m, ib_nI, nx_nI, gd_y, bnd_e, bind_y, ↓reduceIte, hI_uI_o, hI_uI_s, hI_uI_e, hL_uI, hI_uL, hL_uL_o, hL_uL_s, hL_uL_e, and1_a, and1_b, Bool.not_true, Bool.not_false, Nat.zero_add, Nat.add_zero, Nat.add_sub_cancel, eq_self, ne_b, g0_0, g0_1, g0_2, g0_3, g0_4, g0_5, g0_6, g0_7, g0_8, g0_9, n1, n2, g3_2, g3_3, g3_4, g3_5, g3_6, g3_7, g3_8, g3_9, n4, n5, n6, n7, n8, n9, g10_2, g10_3, g10_4, g10_5, n11, n12, n13, n14, g15_2, g15_3, g15_4, g15_5, n16, n17, n18, n19, g40_0, g40_1, g40_2, g44_0, g44_2, g44_3, g44_5, g44_6, g44_10, g51_3, g51_4, g51_5, g51_6, g51_7, g57_3, g57_4, g57_5, g57_6, g57_7, n120, n121, g122_0, g122_4, g122_5, g122_6, g122_7, g122_8, g122_18, g122_19, g122_20, g122_21, g122_24, g122_25, g122_28, g122_29, g122_31, g122_32, g122_33, g122_39, g122_40, g122_41, g122_45, g122_46, g122_47, g122_48, n123, n124, n125, n126, n127, n128, n129, n130, n131, n132, n133, n134, n135, n136, n137, n138, n139, n140, n141, n142, n143, n144, n145, n146]
  have u : Up h (uI h1 0 10 (nI 0)) := fun d hd => ⟨by rw [hI_uI_o (by omega), e1 d (by omega) (by omega) (by omega) (by omega) (by omega) (by omega) (by omega)], by rw [hL_uI, l1 d (by omega)]⟩
  have rm0 : RmH (uI (uL (uI h1 0 10 (nI 0)) 122 36 (lN 0)) 122 37 (nI 0)) 0 A := RmH_congr (by rw [hI_uI_o (by decide), hI_uL]) (u.rm rm)
  have mr0 : MR (uI (uL (uI h1 0 10 (nI 0)) 122 36 (lN 0)) 122 37 (nI 0)) (S0 A) := by
    refine ⟨rm0, ?_, ?_, fun o eo => ?_⟩
    · simp (disch := omega) only [↓m1_n, li_n, li_0, li_1, lt_y, lt_n, le_y, le_n, eq_n, nL, nLe, nEq, nEm, mEn, nLm, mLn, nLem, mLen, nI_add, nI_mul, nI_sub, nI_m, ib_nI, nx_nI, gd_y, bnd_e, bind_y, ↓reduceIte, hI_uI_o, hI_uI_s, hI_uI_e, hL_uI, hI_uL, hL_uL_o, hL_uL_s, hL_uL_e, and1_a, and1_b, Bool.not_true, Bool.not_false, Nat.zero_add, Nat.add_zero, Nat.add_sub_cancel, eq_self, ne_b, g0_0, g0_1, g0_2, g0_3, g0_4, g0_5, g0_6, g0_7, g0_8, g0_9, n1, n2, g3_2, g3_3, g3_4, g3_5, g3_6, g3_7, g3_8, g3_9, n4, n5, n6, n7, n8, n9, g10_2, g10_3, g10_4, g10_5, n11, n12, n13, n14, g15_2, g15_3, g15_4, g15_5, n16, n17, n18, n19, g40_0, g40_1, g40_2, g44_0, g44_2, g44_3, g44_5, g44_6, g44_10, g51_3, g51_4, g51_5, g51_6, g51_7, g57_3, g57_4, g57_5, g57_6, g57_7, n120, n121, g122_0, g122_4, g122_5, g122_6, g122_7, g122_8, g122_18, g122_19, g122_20, g122_21, g122_24, g122_25, g122_28, g122_29, g122_31, g122_32, g122_33, g122_39, g122_40, g122_41, g122_45, g122_46, g122_47, g122_48, n123, n124, n125, n126, n127, n128, n129, n130, n131, n132, n133, n134, n135, n136, n137, n138, n139, n140, n141, n142, n143, n144, n145, n146]
      rfl
    · simp (disch := omega) only [↓m1_n, li_n, li_0, li_1, lt_y, lt_n, le_y, le_n, eq_n, nL, nLe, nEq, nEm, mEn, nLm, mLn, nLem, mLen, nI_add, nI_mul, nI_sub, nI_m, ib_nI, nx_nI, gd_y, bnd_e, bind_y, ↓reduceIte, hI_uI_o, hI_uI_s, hI_uI_e, hL_uI, hI_uL, hL_uL_o, hL_uL_s, hL_uL_e, and1_a, and1_b, Bool.not_true, Bool.not_false, Nat.zero_add, Nat.add_zero, Nat.add_sub_cancel, eq_self, ne_b, g0_0, g0_1, g0_2, g0_3, g0_4, g0_5, g0_6, g0_7, g0_8, g0_9, n1, n2, g3_2, g3_3, g3_4, g3_5, g3_6, g3_7, g3_8, g3_9, n4, n5, n6, n7, n8, n9, g10_2, g10_3, g10_4, g10_5, n11, n12, n13, n14, g15_2, g15_3, g15_4, g15_5, n16, n17, n18, n19, g40_0, g40_1, g40_2, g44_0, g44_2, g44_3, g44_5, g44_6, g44_10, g51_3, g51_4, g51_5, g51_6, g51_7, g57_3, g57_4, g57_5, g57_6, g57_7, n120, n121, g122_0, g122_4, g122_5, g122_6, g122_7, g122_8, g122_18, g122_19, g122_20, g122_21, g122_24, g122_25, g122_28, g122_29, g122_31, g122_32, g122_33, g122_39, g122_40, g122_41, g122_45, g122_46, g122_47, g122_48, n123, n124, n125, n126, n127, n128, n129, n130, n131, n132, n133, n134, n135, n136, n137, n138, n139, n140, n141, n142, n143, n144, n145, n146]
      rfl
    · have x3 : o < 0 := eo.2.2.1
      omega
  obtain ⟨h2, b1, b2, b3, b4, b5⟩ := m_runL 18080 (S0 A) _ gd0.1 gd0.2 mr0
  obtain ⟨G, st⟩ := fk
  generalize finN 18080 (S0 A) = T at *
  have h80 := G.1.2.2.2.2.1
  have g3 := G.2.2.1
  have b1' : (F_X12_behindEnds (uI (uL (uI h1 0 10 (nI 0)) 122 36 (lN 0)) 122 37 (nI 0)) 122 (nI 0)).bind (fun r1 => L_X12_run_18 r1.1 122 (nI 0) r1.2) = some (h2, nI (tD T), nI (tP T)) := b1
  cases eb : F_X12_behindEnds (uI (uL (uI h1 0 10 (nI 0)) 122 36 (lN 0)) 122 37 (nI 0)) 122 (nI 0) with
  | none =>
    rw [eb] at b1'
    cases b1'
  | some r =>
  rw [eb, Option.bind_some] at b1'
  have E2 : ∀ d, d ≠ 0 → d ≠ 122 → d ≠ 123 → d ≠ 132 → d ≠ 133 → d ≠ 134 → d ≠ 3 → d ≠ 8 → d ≠ 9 → d ≠ 40 → d ≠ 41 → d ≠ 42 → d ≠ 43 → hI h2 d = hI h d := fun d y0 y1 y2 y3 y4 y5 x1 x2 x3 x4 x5 x6 x7 => by rw [b5.1 d y1 y2 y3 y4 y5, hI_uI_o y1, hI_uL, hI_uI_o y0, e1 d x1 x2 x3 x4 x5 x6 x7]
  have E40 : hI h2 40 = hI h1 40 := by rw [b5.1 40 (by decide) (by decide) (by decide) (by decide) (by decide), hI_uI_o (by decide), hI_uL, hI_uI_o (by decide)]
  have L40 : hL h2 40 = hL h1 40 := by rw [b5.2.2.2.1 40 (by decide), hL_uI, hL_uL_o (by decide), hL_uI]
  have E0 : hI h2 0 = hI (uI h1 0 10 (nI 0)) 0 := by rw [b5.1 0 (by decide) (by decide) (by decide) (by decide) (by decide), hI_uI_o (by decide), hI_uL]
  have E122 : ∀ k, k ≠ 26 → k ≠ 27 → k ≠ 37 → hI h2 122 k = hI h 122 k := fun k k1 k2 k3 => by rw [b5.2.1 k k1 k2 k3, hI_uI_s k3, hI_uL, hI_uI_o (by decide), e1 122 (by decide) (by decide) (by decide) (by decide) (by decide) (by decide) (by decide)]
  have E123 : ∀ k, 368 ≤ k → hI h2 123 k = hI h 123 k := fun k hk => by rw [b5.2.2.1 k hk, hI_uI_o (by decide), hI_uL, hI_uI_o (by decide), e1 123 (by decide) (by decide) (by decide) (by decide) (by decide) (by decide) (by decide)]
  have L2 : ∀ d, d ≠ 122 → d ≠ 40 → hL h2 d = hL h d := fun d x y => by rw [b5.2.2.2.1 d x, hL_uI, hL_uL_o x, hL_uI, l1 d y]
  have L122 : ∀ k, k ≠ 36 → hL h2 122 k = hL h 122 k := fun k hk => by rw [b5.2.2.2.2 k hk, hL_uI, hL_uL_s hk, hL_uI, l1 122 (by decide)]
  have fin : ∀ v : Int32, v = nI (if tP T < sN (oS (tA T)) then 1 else 0) → Inv (q + 1) (uI (uI h2 122 38 v) 122 1 (nI 0)) := by
    intro v hv
    have F : ∀ d, d ≠ 122 → hI (uI (uI h2 122 38 v) 122 1 (nI 0)) d = hI h2 d := fun d hd => by rw [hI_uI_o hd, hI_uI_o hd]
    have F2 : ∀ k, k ≠ 1 → k ≠ 38 → hI (uI (uI h2 122 38 v) 122 1 (nI 0)) 122 k = hI h2 122 k := fun k k1 k2 => by rw [hI_uI_s k1, hI_uI_s k2]
    have okT : HoOk (q + 1) (tA T) := HoOk_re G.1 (fun i hi => by have := G.2.1 i hi; omega)
    obtain ⟨i1, i2, i3, i4, i5, i6, i7, i8⟩ := i
    have EE : ∀ d, d = 2 ∨ d = 44 ∨ d = 50 ∨ d = 51 ∨ d = 52 ∨ d = 57 ∨ d = 58 ∨ (63 ≤ d ∧ d ≤ 121) ∨ (124 ≤ d ∧ d ≤ 127) ∨ d = 139 ∨ d = 141 ∨ d = 142 ∨ d = 146 → hI (uI (uI h2 122 38 v) 122 1 (nI 0)) d = hI h d ∧ hL (uI (uI h2 122 38 v) 122 1 (nI 0)) d = hL h d := fun d hd => ⟨by rw [F d (by omega), E2 d (by omega) (by omega) (by omega) (by omega) (by omega) (by omega) (by omega) (by omega) (by omega) (by omega) (by omega) (by omega) (by omega)], by rw [hL_uI, hL_uI, L2 d (by omega) (by omega)]⟩
    have E00 : ∀ k, k ≠ 10 → hI (uI (uI h2 122 38 v) 122 1 (nI 0)) 0 k = hI h 0 k := fun k hk => by rw [F 0 (by decide), E0, hI_uI_s hk, e1 0 (by decide) (by decide) (by decide) (by decide) (by decide) (by decide) (by decide)]
    have E22 : ∀ k, k ≠ 1 → k ≠ 38 → k ≠ 26 → k ≠ 27 → k ≠ 37 → hI (uI (uI h2 122 38 v) 122 1 (nI 0)) 122 k = hI h 122 k := fun k k1 k2 k3 k4 k5 => by rw [F2 k k1 k2, E122 k k3 k4 k5]
    have LL0 : hL (uI (uI h2 122 38 v) 122 1 (nI 0)) 0 = hL h 0 := by rw [hL_uI, hL_uI, L2 0 (by decide) (by decide)]
    have LL2 : ∀ k, k ≠ 36 → hL (uI (uI h2 122 38 v) 122 1 (nI 0)) 122 k = hL h 122 k := fun k hk => by rw [hL_uI, hL_uI, L122 k hk]
    refine ⟨Iho_set okT ?_ ?_ hm (by rw [E00 14 (by decide)]; exact m1) (by rw [E22 51 (by decide) (by decide) (by decide) (by decide) (by decide)]; exact m2) mk (fun d x y => (EE d (by omega)).1) (fun k x y => by rw [F 123 (by decide), E123 k (by omega)]), Itr_congr (fun d x y => EE d (by omega)) (EE 124 (by decide)).1 (EE 125 (by decide)).1 (EE 126 (by decide)).2 i2, Itp_congr (E00 13 (by decide)) (E22 9 (by decide) (by decide) (by decide) (by decide) (by decide)) (EE 2 (by decide)).1 (EE 127 (by decide)).1 i3, ⟨?_, ?_, ?_, ?_, ?_⟩, Ipl_congr (EE 44 (by decide)).1 (EE 50 (by decide)).1 (EE 139 (by decide)).1 (E22 34 (by decide) (by decide) (by decide) (by decide) (by decide)) (E22 35 (by decide) (by decide) (by decide) (by decide) (by decide)) i5, Or.inr ⟨?_, ?_, ?_, ?_, ?_⟩, Imi_congr (EE 51 (by decide)).1 (EE 52 (by decide)).1 (EE 141 (by decide)).1 (EE 142 (by decide)).1 (E22 42 (by decide) (by decide) (by decide) (by decide) (by decide)) (E22 43 (by decide) (by decide) (by decide) (by decide) (by decide)) i7, Ipa_congr (EE 57 (by decide)).1 (EE 58 (by decide)).1 (EE 146 (by decide)).1 (E22 49 (by decide) (by decide) (by decide) (by decide) (by decide)) (E22 50 (by decide) (by decide) (by decide) (by decide) (by decide)) i8⟩
    · exact RcH_congr (fun d x y => by rw [F d (by omega), b5.1 d (by omega) (by omega) (by omega) (by omega) (by omega), hI_uI_o (by omega), hI_uL, hI_uI_o (by omega)]) a2
    · exact RmH_congr (F 123 (by decide)) b2
    · rw [hI_uI_e, F 0 (by decide), E0, hI_uI_e]
    · rw [LL2 2 (by decide), LL0]; exact i4.2.1
    · rw [LL2 3 (by decide), LL0]; exact i4.2.2.1
    · rw [E22 15 (by decide) (by decide) (by decide) (by decide) (by decide), E00 15 (by decide)]; exact i4.2.2.2.1
    · rw [E22 16 (by decide) (by decide) (by decide) (by decide) (by decide), E00 16 (by decide)]; exact i4.2.2.2.2
    · rw [F 40 (by decide), E40]; exact t1
    · rw [F 40 (by decide), E40, a5]
      by_cases l : tP T < sN (oS (tA T))
      · rw [if_pos l]; exact Or.inr rfl
      · rw [if_neg l]; exact Or.inl rfl
    · rw [F 40 (by decide), E40, a5, hI_uI_s (by decide), hI_uI_e, hv]
    · rw [hL_uI, hL_uI, L40, a3, b3]
    · rw [F2 37 (by decide) (by decide), F 40 (by decide), E40, a4, b4]
  by_cases l : tP T < sN (oS (tA T))
  · refine ⟨uI h1 0 10 (nI 0), uI (uI h2 122 38 (nI 1)) 122 1 (nI 0), nI (tD T), ?_, ?_, fin _ (by rw [if_pos l])⟩
    · unfold F_X11_run F_X3_doSteps F_X11_answer L_X3_doSteps_35
      have a1' : iterW (fun s : Hp × Int32 × Int32 => B_X3_doSteps_35 s.1 40 3 15 s.2.1 s.2.2) (uI (uI (uI (uL (uI h 40 3 (nI 1)) 40 4 (lN 0)) 40 5 (nI 0)) 40 6 (nI 0)) 40 7 (nI 0), nI 0, nI 0) = some (h1, nI (tD T)) := a1
      rw [g0_6, g0_2, g3_9]
      rw [show iterW (fun s : Hp × Int32 × Int32 => B_X3_doSteps_35 s.1 40 3 15 s.2.1 s.2.2) (uI (uI (uI (uL (uI h 40 3 1) 40 4 0) 40 5 0) 40 6 0) 40 7 0, 0, 0) = _ from a1']
      rfl
    · unfold F_X12_run J_X12_run_51 F_X12_gives
      rw [show F_X12_behindEnds (uI (uL (uI h1 0 10 (nI 0)) 122 36 0) 122 37 0) 122 0 = some r from eb, Option.bind_some, show L_X12_run_18 r.1 122 0 r.2 = _ from b1', Option.bind_some]
      simp (disch := omega) only [↓m1_n, li_n, li_0, li_1, lt_y, lt_n, le_y, le_n, eq_n, nL, nLe, nEq, nEm, mEn, nLm, mLn, nLem, mLen, nI_add, nI_mul, nI_sub, nI_m, ib_nI, nx_nI, gd_y, bnd_e, bind_y, ↓reduceIte, hI_uI_o, hI_uI_s, hI_uI_e, hL_uI, hI_uL, hL_uL_o, hL_uL_s, hL_uL_e, and1_a, and1_b, Bool.not_true, Bool.not_false, Nat.zero_add, Nat.add_zero, Nat.add_sub_cancel, eq_self, ne_b, g0_0, g0_1, g0_2, g0_3, g0_4, g0_5, g0_6, g0_7, g0_8, g0_9, n1, n2, g3_2, g3_3, g3_4, g3_5, g3_6, g3_7, g3_8, g3_9, n4, n5, n6, n7, n8, n9, g10_2, g10_3, g10_4, g10_5, n11, n12, n13, n14, g15_2, g15_3, g15_4, g15_5, n16, n17, n18, n19, g40_0, g40_1, g40_2, g44_0, g44_2, g44_3, g44_5, g44_6, g44_10, g51_3, g51_4, g51_5, g51_6, g51_7, g57_3, g57_4, g57_5, g57_6, g57_7, n120, n121, g122_0, g122_4, g122_5, g122_6, g122_7, g122_8, g122_18, g122_19, g122_20, g122_21, g122_24, g122_25, g122_28, g122_29, g122_31, g122_32, g122_33, g122_39, g122_40, g122_41, g122_45, g122_46, g122_47, g122_48, n123, n124, n125, n126, n127, n128, n129, n130, n131, n132, n133, n134, n135, n136, n137, n138, n139, n140, n141, n142, n143, n144, n145, n146, mS0 b2]
  · refine ⟨uI h1 0 10 (nI 0), uI (uI h2 122 38 (nI 0)) 122 1 (nI 0), nI (tD T), ?_, ?_, fin _ (by rw [if_neg l])⟩
    · unfold F_X11_run F_X3_doSteps F_X11_answer L_X3_doSteps_35
      have a1' : iterW (fun s : Hp × Int32 × Int32 => B_X3_doSteps_35 s.1 40 3 15 s.2.1 s.2.2) (uI (uI (uI (uL (uI h 40 3 (nI 1)) 40 4 (lN 0)) 40 5 (nI 0)) 40 6 (nI 0)) 40 7 (nI 0), nI 0, nI 0) = some (h1, nI (tD T)) := a1
      rw [g0_6, g0_2, g3_9]
      rw [show iterW (fun s : Hp × Int32 × Int32 => B_X3_doSteps_35 s.1 40 3 15 s.2.1 s.2.2) (uI (uI (uI (uL (uI h 40 3 1) 40 4 0) 40 5 0) 40 6 0) 40 7 0, 0, 0) = _ from a1']
      rfl
    · unfold F_X12_run J_X12_run_51 F_X12_gives
      rw [show F_X12_behindEnds (uI (uL (uI h1 0 10 (nI 0)) 122 36 0) 122 37 0) 122 0 = some r from eb, Option.bind_some, show L_X12_run_18 r.1 122 0 r.2 = _ from b1', Option.bind_some]
      simp (disch := omega) only [↓m1_n, li_n, li_0, li_1, lt_y, lt_n, le_y, le_n, eq_n, nL, nLe, nEq, nEm, mEn, nLm, mLn, nLem, mLen, nI_add, nI_mul, nI_sub, nI_m, ib_nI, nx_nI, gd_y, bnd_e, bind_y, ↓reduceIte, hI_uI_o, hI_uI_s, hI_uI_e, hL_uI, hI_uL, hL_uL_o, hL_uL_s, hL_uL_e, and1_a, and1_b, Bool.not_true, Bool.not_false, Nat.zero_add, Nat.add_zero, Nat.add_sub_cancel, eq_self, ne_b, g0_0, g0_1, g0_2, g0_3, g0_4, g0_5, g0_6, g0_7, g0_8, g0_9, n1, n2, g3_2, g3_3, g3_4, g3_5, g3_6, g3_7, g3_8, g3_9, n4, n5, n6, n7, n8, n9, g10_2, g10_3, g10_4, g10_5, n11, n12, n13, n14, g15_2, g15_3, g15_4, g15_5, n16, n17, n18, n19, g40_0, g40_1, g40_2, g44_0, g44_2, g44_3, g44_5, g44_6, g44_10, g51_3, g51_4, g51_5, g51_6, g51_7, g57_3, g57_4, g57_5, g57_6, g57_7, n120, n121, g122_0, g122_4, g122_5, g122_6, g122_7, g122_8, g122_18, g122_19, g122_20, g122_21, g122_24, g122_25, g122_28, g122_29, g122_31, g122_32, g122_33, g122_39, g122_40, g122_41, g122_45, g122_46, g122_47, g122_48, n123, n124, n125, n126, n127, n128, n129, n130, n131, n132, n133, n134, n135, n136, n137, n138, n139, n140, n141, n142, n143, n144, n145, n146, mS0 b2]
