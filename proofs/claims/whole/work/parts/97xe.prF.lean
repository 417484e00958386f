/-! ===== program, the call ===== -/
theorem m_cp3 {h : Hp} : ∃ h', L_X12_program_149 h 122 (nI 436) = some (uI h' 122 1 (nI 0), hI h 122 23) ∧ (∀ d, d ≠ 123 → hI h' d = hI h d) ∧ hL h' = hL h ∧ (∀ k, 436 ≤ k → k < 800 → hI h' 123 k = hI h 123 (3200 + k)) ∧ ∀ k, k < 436 ∨ 800 ≤ k → hI h' 123 k = hI h 123 k := by
  have key : ∃ z, L_X12_program_149 h 122 (nI 436) = some z ∧ ∃ h', z = (uI h' 122 1 (nI 0), hI h 122 23) ∧ (∀ d, d ≠ 123 → hI h' d = hI h d) ∧ hL h' = hL h ∧ (∀ k, 436 ≤ k → k < 800 → hI h' 123 k = hI h 123 (3200 + k)) ∧ ∀ k, k < 436 ∨ 800 ≤ k → hI h' 123 k = hI h 123 k := by
    refine iterW_inv (fun j s => s.2 = nI (436 + j) ∧ (∀ d, d ≠ 123 → hI s.1 d = hI h d) ∧ hL s.1 = hL h ∧ (∀ k, 436 ≤ k → k < 436 + j → hI s.1 123 k = hI h 123 (3200 + k)) ∧ ∀ k, k < 436 ∨ 436 + j ≤ k → hI s.1 123 k = hI h 123 k) _ 364 (fun j s hj p => ?_) (fun s p => ?_) ⟨rfl, fun _ _ => rfl, rfl, fun k a b => by omega, fun _ _ => rfl⟩
    · obtain ⟨p1, p2, p3, p4, p5⟩ := p
      refine ⟨(uI s.1 123 (436 + j) (hI h 123 (3200 + (436 + j))), nI (436 + j + 1)), ?_, rfl, fun d hd => by rw [hI_uI_o hd]; exact p2 d hd, p3, fun k a b => ?_, fun k hk => by rw [hI_uI_s (by omega)]; exact p5 k (by omega)⟩
      · show B_X12_program_149 _ _ _ = _
        unfold B_X12_program_149
        rw [p1]
        simp (disch := omega) only [↓m1_n, li_n, li_0, li_1, lt_y, lt_n, le_y, le_n, eq_n, nL, nLe, nEq, nEm, mEn, nLm, mLn, nLem, mLen, nI_add, nI_mul, nI_sub, nI_m, ib_nI, nx_nI, gd_y, bnd_e, bind_y, ↓reduceIte, hI_uI_o, hI_uI_s, hI_uI_e, hL_uI, hI_uL, hL_uL_o, hL_uL_s, hL_uL_e, and1_a, and1_b, Bool.not_true, Bool.not_false, Nat.zero_add, Nat.add_zero, Nat.add_sub_cancel, eq_self, ne_b, g0_0, g0_1, g0_2, g0_3, g0_4, g0_5, g0_6, g0_7, g0_8, g0_9, n1, n2, g3_2, g3_3, g3_4, g3_5, g3_6, g3_7, g3_8, g3_9, n4, n5, n6, n7, n8, n9, g10_2, g10_3, g10_4, g10_5, n11, n12, n13, n14, g15_2, g15_3, g15_4, g15_5, n16, n17, n18, n19, g40_0, g40_1, g40_2, g44_0, g44_2, g44_3, g44_5, g44_6, g44_10, g51_3, g51_4, g51_5, g51_6, g51_7, g57_3, g57_4, g57_5, g57_6, g57_7, n120, n121, g122_0, g122_4, g122_5, g122_6, g122_7, g122_8, g122_18, g122_19, g122_20, g122_21, g122_24, g122_25, g122_28, g122_29, g122_31, g122_32, g122_33, g122_39, g122_40, g122_41, g122_45, g122_46, g122_47, g122_48, n123, n124, n125, n126, n127, n128, n129, n130, n131, n132, n133, n134, n135, n136, n137, n138, n139, n140, n141, n142, n143, n144, n145, n146, n45, n46, n47, n48, n49, n50, decide_false, Bool.false_eq_true, n20, g21_0, g21_1, g21_2, g21_3, n23, g24_2, g24_3, g24_4, g24_5, n25, n26, n27, n28, n29, n30, g31_0, g31_1, g31_2, n33, g34_2, g34_3, g34_4, g34_5, n35, n36, n37, n38, n39, adC_o, adC_s, adC_L, adM_o, adM_s, adM_L, p5 (3200 + (436 + j)) (by omega)]
      · by_cases x : k = 436 + j
        · rw [x, hI_uI_e]
        · rw [hI_uI_s x]; exact p4 k a (by omega)
    · obtain ⟨p1, p2⟩ := p
      refine ⟨_, ?_, s.1, rfl, p2⟩
      show B_X12_program_149 _ _ _ = _
      unfold B_X12_program_149 F_X12_gives
      rw [p1]
      simp (disch := omega) only [↓m1_n, li_n, li_0, li_1, lt_y, lt_n, le_y, le_n, eq_n, nL, nLe, nEq, nEm, mEn, nLm, mLn, nLem, mLen, nI_add, nI_mul, nI_sub, nI_m, ib_nI, nx_nI, gd_y, bnd_e, bind_y, ↓reduceIte, hI_uI_o, hI_uI_s, hI_uI_e, hL_uI, hI_uL, hL_uL_o, hL_uL_s, hL_uL_e, and1_a, and1_b, Bool.not_true, Bool.not_false, Nat.zero_add, Nat.add_zero, Nat.add_sub_cancel, eq_self, ne_b, g0_0, g0_1, g0_2, g0_3, g0_4, g0_5, g0_6, g0_7, g0_8, g0_9, n1, n2, g3_2, g3_3, g3_4, g3_5, g3_6, g3_7, g3_8, g3_9, n4, n5, n6, n7, n8, n9, g10_2, g10_3, g10_4, g10_5, n11, n12, n13, n14, g15_2, g15_3, g15_4, g15_5, n16, n17, n18, n19, g40_0, g40_1, g40_2, g44_0, g44_2, g44_3, g44_5, g44_6, g44_10, g51_3, g51_4, g51_5, g51_6, g51_7, g57_3, g57_4, g57_5, g57_6, g57_7, n120, n121, g122_0, g122_4, g122_5, g122_6, g122_7, g122_8, g122_18, g122_19, g122_20, g122_21, g122_24, g122_25, g122_28, g122_29, g122_31, g122_32, g122_33, g122_39, g122_40, g122_41, g122_45, g122_46, g122_47, g122_48, n123, n124, n125, n126, n127, n128, n129, n130, n131, n132, n133, n134, n135, n136, n137, n138, n139, n140, n141, n142, n143, n144, n145, n146, n45, n46, n47, n48, n49, n50, decide_false, Bool.false_eq_true, n20, g21_0, g21_1, g21_2, g21_3, n23, g24_2, g24_3, g24_4, g24_5, n25, n26, n27, n28, n29, n30, g31_0, g31_1, g31_2, n33, g34_2, g34_3, g34_4, g34_5, n35, n36, n37, n38, n39, adC_o, adC_s, adC_L, adM_o, adM_s, adM_L, p2.1 122 (by decide)]
  obtain ⟨z, k1, h', k2, k3⟩ := key
  exact ⟨h', by rw [k1, k2], k3⟩
def setS (A : Ho) (P : Sp) : Ho := (oN A, oH A, oC A, oK A, oW A, oD A, oM A, oB A, P)
noncomputable def finP (e4 : Hp) : Option (Hp × Int32) := if (hI e4 122 17) = 0 then if (hI e4 122 22) ≤ 0 then J_X12_program_109 e4 122 else (F_X12_fails e4 122 ((2 : Int32))).bind (fun r5 => J_X12_program_109 r5.1 122) else J_X12_program_109 e4 122
theorem fin_p {hc hm : Hp} {f : Nat → Nat} {n : Nat} (d : FltB 32 hc hm ∨ ∃ p P D T O, PS hc hm f n p P D T O) : ∃ hc' hm' x, J_X8_parse_69 hc 31 = some (hc', x) ∧ finP hm = J_X12_program_109 hm' 122 ∧ FcB hc hc' ∧ FmB hm hm' ∧ ((x = nI 0 ∧ FltB 32 hc' hm') ∨ (x = nI 1 ∧ ∃ p P T O, PS hc' hm' f n p P 0 T O)) := by
  rcases d with ⟨k, s, z1, z2, z3, z4, z5, z6⟩ | ⟨p, P, D, T, O, s⟩
  · have z3' : ¬ hI hc 32 5 = 0 := by rw [z3]; exact fun e => absurd ((nI_eq (a := k) (b := 0) (by omega) (by decide)).mp e) (by omega)
    have z5' : ¬ hI hm 122 17 = 0 := by rw [z5]; exact fun e => absurd ((nI_eq (a := k) (b := 0) (by omega) (by decide)).mp e) (by omega)
    refine ⟨hc, hm, nI 0, ?_, ?_, FcB.rf, FmB.rf, Or.inl ⟨rfl, k, s, z1, z2, z3, z4, z5, z6⟩⟩
    · unfold J_X8_parse_69 F_X7_misplaced F_X7_tell
      rw [g31_0]
      by_cases a : hI hc 31 3 ≤ 0
      · rw [if_pos a, if_neg z3']; rfl
      · rw [if_neg a]
        by_cases b : hI hc 32 4 = 4
        · rw [if_pos b, Option.bind_some, if_neg z3', Option.bind_some]
          dsimp only
          rw [if_neg z3']; rfl
        · rw [if_neg b, Option.bind_some, if_neg z3', Option.bind_some]
          dsimp only
          rw [if_neg z3']; rfl
    · unfold finP
      rw [if_neg z5']
  · obtain ⟨rd, f5, f6, rm, g17, g16, pc, pm, ok⟩ := id s
    have c3 := pc.2.2.1
    have m22 := pm.2.2.1
    have b3 := ok.1.2.2
    unfold J_X8_parse_69 finP
    cases D with
    | zero =>
      refine ⟨hc, hm, nI 1, ?_, ?_, FcB.rf, FmB.rf, Or.inr ⟨rfl, p, P, T, O, s⟩⟩
      · simp (disch := omega) only [↓m1_n, li_n, li_0, li_1, lt_y, lt_n, le_y, le_n, eq_n, nL, nLe, nEq, nEm, mEn, nLm, mLn, nLem, mLen, nI_add, nI_mul, nI_sub, nI_m, ib_nI, nx_nI, gd_y, bnd_e, bind_y, ↓reduceIte, hI_uI_o, hI_uI_s, hI_uI_e, hL_uI, hI_uL, hL_uL_o, hL_uL_s, hL_uL_e, and1_a, and1_b, Bool.not_true, Bool.not_false, Nat.zero_add, Nat.add_zero, Nat.add_sub_cancel, eq_self, ne_b, g0_0, g0_1, g0_2, g0_3, g0_4, g0_5, g0_6, g0_7, g0_8, g0_9, n1, n2, g3_2, g3_3, g3_4, g3_5, g3_6, g3_7, g3_8, g3_9, n4, n5, n6, n7, n8, n9, g10_2, g10_3, g10_4, g10_5, n11, n12, n13, n14, g15_2, g15_3, g15_4, g15_5, n16, n17, n18, n19, g40_0, g40_1, g40_2, g44_0, g44_2, g44_3, g44_5, g44_6, g44_10, g51_3, g51_4, g51_5, g51_6, g51_7, g57_3, g57_4, g57_5, g57_6, g57_7, n120, n121, g122_0, g122_4, g122_5, g122_6, g122_7, g122_8, g122_18, g122_19, g122_20, g122_21, g122_24, g122_25, g122_28, g122_29, g122_31, g122_32, g122_33, g122_39, g122_40, g122_41, g122_45, g122_46, g122_47, g122_48, n123, n124, n125, n126, n127, n128, n129, n130, n131, n132, n133, n134, n135, n136, n137, n138, n139, n140, n141, n142, n143, n144, n145, n146, n45, n46, n47, n48, n49, n50, decide_false, Bool.false_eq_true, n20, g21_0, g21_1, g21_2, g21_3, n23, g24_2, g24_3, g24_4, g24_5, n25, n26, n27, n28, n29, n30, g31_0, g31_1, g31_2, n33, g34_2, g34_3, g34_4, g34_5, n35, n36, n37, n38, n39, adC_o, adC_s, adC_L, adM_o, adM_s, adM_L, c3, f5]
      · simp (disch := omega) only [↓m1_n, li_n, li_0, li_1, lt_y, lt_n, le_y, le_n, eq_n, nL, nLe, nEq, nEm, mEn, nLm, mLn, nLem, mLen, nI_add, nI_mul, nI_sub, nI_m, ib_nI, nx_nI, gd_y, bnd_e, bind_y, ↓reduceIte, hI_uI_o, hI_uI_s, hI_uI_e, hL_uI, hI_uL, hL_uL_o, hL_uL_s, hL_uL_e, and1_a, and1_b, Bool.not_true, Bool.not_false, Nat.zero_add, Nat.add_zero, Nat.add_sub_cancel, eq_self, ne_b, g0_0, g0_1, g0_2, g0_3, g0_4, g0_5, g0_6, g0_7, g0_8, g0_9, n1, n2, g3_2, g3_3, g3_4, g3_5, g3_6, g3_7, g3_8, g3_9, n4, n5, n6, n7, n8, n9, g10_2, g10_3, g10_4, g10_5, n11, n12, n13, n14, g15_2, g15_3, g15_4, g15_5, n16, n17, n18, n19, g40_0, g40_1, g40_2, g44_0, g44_2, g44_3, g44_5, g44_6, g44_10, g51_3, g51_4, g51_5, g51_6, g51_7, g57_3, g57_4, g57_5, g57_6, g57_7, n120, n121, g122_0, g122_4, g122_5, g122_6, g122_7, g122_8, g122_18, g122_19, g122_20, g122_21, g122_24, g122_25, g122_28, g122_29, g122_31, g122_32, g122_33, g122_39, g122_40, g122_41, g122_45, g122_46, g122_47, g122_48, n123, n124, n125, n126, n127, n128, n129, n130, n131, n132, n133, n134, n135, n136, n137, n138, n139, n140, n141, n142, n143, n144, n145, n146, n45, n46, n47, n48, n49, n50, decide_false, Bool.false_eq_true, n20, g21_0, g21_1, g21_2, g21_3, n23, g24_2, g24_3, g24_4, g24_5, n25, n26, n27, n28, n29, n30, g31_0, g31_1, g31_2, n33, g34_2, g34_3, g34_4, g34_5, n35, n36, n37, n38, n39, adC_o, adC_s, adC_L, adM_o, adM_s, adM_L, g17, m22]
    | succ D =>
      have mk := mis_b (f := f) (n := n) (p := p)
      refine ⟨flC hc 32 (misK f n p) (tS f n p), flM hm (misK f n p) (tS f n p), nI 0, ?_, ?_, FcB.fl (by decide), FmB.fl, Or.inl ⟨rfl, FltB_fl mk.1 mk.2⟩⟩
      · have e5 : hI (flC hc 32 (misK f n p) (tS f n p)) 32 5 = nI (misK f n p) := by unfold flC; rw [hI_uI_s (by decide), hI_uI_e]
        simp (disch := omega) only [↓m1_n, li_n, li_0, li_1, lt_y, lt_n, le_y, le_n, eq_n, nL, nLe, nEq, nEm, mEn, nLm, mLn, nLem, mLen, nI_add, nI_mul, nI_sub, nI_m, ib_nI, nx_nI, gd_y, bnd_e, bind_y, ↓reduceIte, hI_uI_o, hI_uI_s, hI_uI_e, hL_uI, hI_uL, hL_uL_o, hL_uL_s, hL_uL_e, and1_a, and1_b, Bool.not_true, Bool.not_false, Nat.zero_add, Nat.add_zero, Nat.add_sub_cancel, eq_self, ne_b, g0_0, g0_1, g0_2, g0_3, g0_4, g0_5, g0_6, g0_7, g0_8, g0_9, n1, n2, g3_2, g3_3, g3_4, g3_5, g3_6, g3_7, g3_8, g3_9, n4, n5, n6, n7, n8, n9, g10_2, g10_3, g10_4, g10_5, n11, n12, n13, n14, g15_2, g15_3, g15_4, g15_5, n16, n17, n18, n19, g40_0, g40_1, g40_2, g44_0, g44_2, g44_3, g44_5, g44_6, g44_10, g51_3, g51_4, g51_5, g51_6, g51_7, g57_3, g57_4, g57_5, g57_6, g57_7, n120, n121, g122_0, g122_4, g122_5, g122_6, g122_7, g122_8, g122_18, g122_19, g122_20, g122_21, g122_24, g122_25, g122_28, g122_29, g122_31, g122_32, g122_33, g122_39, g122_40, g122_41, g122_45, g122_46, g122_47, g122_48, n123, n124, n125, n126, n127, n128, n129, n130, n131, n132, n133, n134, n135, n136, n137, n138, n139, n140, n141, n142, n143, n144, n145, n146, n45, n46, n47, n48, n49, n50, decide_false, Bool.false_eq_true, n20, g21_0, g21_1, g21_2, g21_3, n23, g24_2, g24_3, g24_4, g24_5, n25, n26, n27, n28, n29, n30, g31_0, g31_1, g31_2, n33, g34_2, g34_3, g34_4, g34_5, n35, n36, n37, n38, n39, adC_o, adC_s, adC_L, adM_o, adM_s, adM_L, c3, c_mis rd, c_tell rd f5, e5]
      · simp (disch := omega) only [↓m1_n, li_n, li_0, li_1, lt_y, lt_n, le_y, le_n, eq_n, nL, nLe, nEq, nEm, mEn, nLm, mLn, nLem, mLen, nI_add, nI_mul, nI_sub, nI_m, ib_nI, nx_nI, gd_y, bnd_e, bind_y, ↓reduceIte, hI_uI_o, hI_uI_s, hI_uI_e, hL_uI, hI_uL, hL_uL_o, hL_uL_s, hL_uL_e, and1_a, and1_b, Bool.not_true, Bool.not_false, Nat.zero_add, Nat.add_zero, Nat.add_sub_cancel, eq_self, ne_b, g0_0, g0_1, g0_2, g0_3, g0_4, g0_5, g0_6, g0_7, g0_8, g0_9, n1, n2, g3_2, g3_3, g3_4, g3_5, g3_6, g3_7, g3_8, g3_9, n4, n5, n6, n7, n8, n9, g10_2, g10_3, g10_4, g10_5, n11, n12, n13, n14, g15_2, g15_3, g15_4, g15_5, n16, n17, n18, n19, g40_0, g40_1, g40_2, g44_0, g44_2, g44_3, g44_5, g44_6, g44_10, g51_3, g51_4, g51_5, g51_6, g51_7, g57_3, g57_4, g57_5, g57_6, g57_7, n120, n121, g122_0, g122_4, g122_5, g122_6, g122_7, g122_8, g122_18, g122_19, g122_20, g122_21, g122_24, g122_25, g122_28, g122_29, g122_31, g122_32, g122_33, g122_39, g122_40, g122_41, g122_45, g122_46, g122_47, g122_48, n123, n124, n125, n126, n127, n128, n129, n130, n131, n132, n133, n134, n135, n136, n137, n138, n139, n140, n141, n142, n143, n144, n145, n146, n45, n46, n47, n48, n49, n50, decide_false, Bool.false_eq_true, n20, g21_0, g21_1, g21_2, g21_3, n23, g24_2, g24_3, g24_4, g24_5, n25, n26, n27, n28, n29, n30, g31_0, g31_1, g31_2, n33, g34_2, g34_3, g34_4, g34_5, n35, n36, n37, n38, n39, adC_o, adC_s, adC_L, adM_o, adM_s, adM_L, g17, m22, m_fail2 rm g17]
theorem op_program (q : Nat) (h : Hp) (x : Int32) (_ : q < 512) (i : Inv q h) : ∃ h1 h2 r, F_X11_program h 0 x = some (h1, r) ∧ F_X12_program h1 122 x = some (h2, r) ∧ Inv (q + 1) h2 := by
  obtain ⟨A, m, Mk, ok, rc, rm, hm, m1, m2, mk⟩ := id i.1
  obtain ⟨N, f, hN, e13, e9, tp⟩ := id i.2.2.1
  have nope : ∀ s : Int32, F_X11_program h 0 x = some (uI h 0 10 s, -1) → (∀ h', Up h h' → F_X12_program h' 122 x = some (uI h' 122 1 s, -1)) → ∃ h1 h2 r, F_X11_program h 0 x = some (h1, r) ∧ F_X12_program h1 122 x = some (h2, r) ∧ Inv (q + 1) h2 := fun s a b => op_2 (f := fun h => F_X11_program h 0 x) (g := fun h => F_X12_program h 122 x) (s, -1) i a b
  by_cases x0 : x < 0
  · refine nope 1 ?_ (fun h' u => ?_)
    · unfold F_X11_program
      rw [if_pos x0]; rfl
    · unfold F_X12_program
      rw [if_pos x0]; rfl
  obtain ⟨n, hn, rfl⟩ := nI_of x0
  by_cases l : n ≤ N
  rotate_left
  · refine nope 1 ?_ (fun h' u => ?_)
    · unfold F_X11_program F_X11_refuse
      simp (disch := omega) only [↓m1_n, li_n, li_0, li_1, lt_y, lt_n, le_y, le_n, eq_n, nL, nLe, nEq, nEm, mEn, nLm, mLn, nLem, mLen, nI_add, nI_mul, nI_sub, nI_m, ib_nI, nx_nI, gd_y, bnd_e, bind_y, ↓reduceIte, hI_uI_o, hI_uI_s, hI_uI_e, hL_uI, hI_uL, hL_uL_o, hL_uL_s, hL_uL_e, and1_a, and1_b, Bool.not_true, Bool.not_false, Nat.zero_add, Nat.add_zero, Nat.add_sub_cancel, eq_self, ne_b, g0_0, g0_1, g0_2, g0_3, g0_4, g0_5, g0_6, g0_7, g0_8, g0_9, n1, n2, g3_2, g3_3, g3_4, g3_5, g3_6, g3_7, g3_8, g3_9, n4, n5, n6, n7, n8, n9, g10_2, g10_3, g10_4, g10_5, n11, n12, n13, n14, g15_2, g15_3, g15_4, g15_5, n16, n17, n18, n19, g40_0, g40_1, g40_2, g44_0, g44_2, g44_3, g44_5, g44_6, g44_10, g51_3, g51_4, g51_5, g51_6, g51_7, g57_3, g57_4, g57_5, g57_6, g57_7, n120, n121, g122_0, g122_4, g122_5, g122_6, g122_7, g122_8, g122_18, g122_19, g122_20, g122_21, g122_24, g122_25, g122_28, g122_29, g122_31, g122_32, g122_33, g122_39, g122_40, g122_41, g122_45, g122_46, g122_47, g122_48, n123, n124, n125, n126, n127, n128, n129, n130, n131, n132, n133, n134, n135, n136, n137, n138, n139, n140, n141, n142, n143, n144, n145, n146, n45, n46, n47, n48, n49, n50, decide_false, Bool.false_eq_true, n20, g21_0, g21_1, g21_2, g21_3, n23, g24_2, g24_3, g24_4, g24_5, n25, n26, n27, n28, n29, n30, g31_0, g31_1, g31_2, n33, g34_2, g34_3, g34_4, g34_5, n35, n36, n37, n38, n39, adC_o, adC_s, adC_L, adM_o, adM_s, adM_L, e13]
    · have e9' : hI h' 122 9 = nI N := by rw [(u 122 (by decide)).1]; exact e9
      unfold F_X12_program F_X12_refuse
      simp (disch := omega) only [↓m1_n, li_n, li_0, li_1, lt_y, lt_n, le_y, le_n, eq_n, nL, nLe, nEq, nEm, mEn, nLm, mLn, nLem, mLen, nI_add, nI_mul, nI_sub, nI_m, ib_nI, nx_nI, gd_y, bnd_e, bind_y, ↓reduceIte, hI_uI_o, hI_uI_s, hI_uI_e, hL_uI, hI_uL, hL_uL_o, hL_uL_s, hL_uL_e, and1_a, and1_b, Bool.not_true, Bool.not_false, Nat.zero_add, Nat.add_zero, Nat.add_sub_cancel, eq_self, ne_b, g0_0, g0_1, g0_2, g0_3, g0_4, g0_5, g0_6, g0_7, g0_8, g0_9, n1, n2, g3_2, g3_3, g3_4, g3_5, g3_6, g3_7, g3_8, g3_9, n4, n5, n6, n7, n8, n9, g10_2, g10_3, g10_4, g10_5, n11, n12, n13, n14, g15_2, g15_3, g15_4, g15_5, n16, n17, n18, n19, g40_0, g40_1, g40_2, g44_0, g44_2, g44_3, g44_5, g44_6, g44_10, g51_3, g51_4, g51_5, g51_6, g51_7, g57_3, g57_4, g57_5, g57_6, g57_7, n120, n121, g122_0, g122_4, g122_5, g122_6, g122_7, g122_8, g122_18, g122_19, g122_20, g122_21, g122_24, g122_25, g122_28, g122_29, g122_31, g122_32, g122_33, g122_39, g122_40, g122_41, g122_45, g122_46, g122_47, g122_48, n123, n124, n125, n126, n127, n128, n129, n130, n131, n132, n133, n134, n135, n136, n137, n138, n139, n140, n141, n142, n143, n144, n145, n146, n45, n46, n47, n48, n49, n50, decide_false, Bool.false_eq_true, n20, g21_0, g21_1, g21_2, g21_3, n23, g24_2, g24_3, g24_4, g24_5, n25, n26, n27, n28, n29, n30, g31_0, g31_1, g31_2, n33, g34_2, g34_3, g34_4, g34_5, n35, n36, n37, n38, n39, adC_o, adC_s, adC_L, adM_o, adM_s, adM_L, e9']
  by_cases l3 : n ≤ 300
  rotate_left
  · refine nope 1 ?_ (fun h' u => ?_)
    · unfold F_X11_program F_X11_refuse
      simp (disch := omega) only [↓m1_n, li_n, li_0, li_1, lt_y, lt_n, le_y, le_n, eq_n, nL, nLe, nEq, nEm, mEn, nLm, mLn, nLem, mLen, nI_add, nI_mul, nI_sub, nI_m, ib_nI, nx_nI, gd_y, bnd_e, bind_y, ↓reduceIte, hI_uI_o, hI_uI_s, hI_uI_e, hL_uI, hI_uL, hL_uL_o, hL_uL_s, hL_uL_e, and1_a, and1_b, Bool.not_true, Bool.not_false, Nat.zero_add, Nat.add_zero, Nat.add_sub_cancel, eq_self, ne_b, g0_0, g0_1, g0_2, g0_3, g0_4, g0_5, g0_6, g0_7, g0_8, g0_9, n1, n2, g3_2, g3_3, g3_4, g3_5, g3_6, g3_7, g3_8, g3_9, n4, n5, n6, n7, n8, n9, g10_2, g10_3, g10_4, g10_5, n11, n12, n13, n14, g15_2, g15_3, g15_4, g15_5, n16, n17, n18, n19, g40_0, g40_1, g40_2, g44_0, g44_2, g44_3, g44_5, g44_6, g44_10, g51_3, g51_4, g51_5, g51_6, g51_7, g57_3, g57_4, g57_5, g57_6, g57_7, n120, n121, g122_0, g122_4, g122_5, g122_6, g122_7, g122_8, g122_18, g122_19, g122_20, g122_21, g122_24, g122_25, g122_28, g122_29, g122_31, g122_32, g122_33, g122_39, g122_40, g122_41, g122_45, g122_46, g122_47, g122_48, n123, n124, n125, n126, n127, n128, n129, n130, n131, n132, n133, n134, n135, n136, n137, n138, n139, n140, n141, n142, n143, n144, n145, n146, n45, n46, n47, n48, n49, n50, decide_false, Bool.false_eq_true, n20, g21_0, g21_1, g21_2, g21_3, n23, g24_2, g24_3, g24_4, g24_5, n25, n26, n27, n28, n29, n30, g31_0, g31_1, g31_2, n33, g34_2, g34_3, g34_4, g34_5, n35, n36, n37, n38, n39, adC_o, adC_s, adC_L, adM_o, adM_s, adM_L, e13]
    · have e9' : hI h' 122 9 = nI N := by rw [(u 122 (by decide)).1]; exact e9
      unfold F_X12_program F_X12_refuse
      simp (disch := omega) only [↓m1_n, li_n, li_0, li_1, lt_y, lt_n, le_y, le_n, eq_n, nL, nLe, nEq, nEm, mEn, nLm, mLn, nLem, mLen, nI_add, nI_mul, nI_sub, nI_m, ib_nI, nx_nI, gd_y, bnd_e, bind_y, ↓reduceIte, hI_uI_o, hI_uI_s, hI_uI_e, hL_uI, hI_uL, hL_uL_o, hL_uL_s, hL_uL_e, and1_a, and1_b, Bool.not_true, Bool.not_false, Nat.zero_add, Nat.add_zero, Nat.add_sub_cancel, eq_self, ne_b, g0_0, g0_1, g0_2, g0_3, g0_4, g0_5, g0_6, g0_7, g0_8, g0_9, n1, n2, g3_2, g3_3, g3_4, g3_5, g3_6, g3_7, g3_8, g3_9, n4, n5, n6, n7, n8, n9, g10_2, g10_3, g10_4, g10_5, n11, n12, n13, n14, g15_2, g15_3, g15_4, g15_5, n16, n17, n18, n19, g40_0, g40_1, g40_2, g44_0, g44_2, g44_3, g44_5, g44_6, g44_10, g51_3, g51_4, g51_5, g51_6, g51_7, g57_3, g57_4, g57_5, g57_6, g57_7, n120, n121, g122_0, g122_4, g122_5, g122_6, g122_7, g122_8, g122_18, g122_19, g122_20, g122_21, g122_24, g122_25, g122_28, g122_29, g122_31, g122_32, g122_33, g122_39, g122_40, g122_41, g122_45, g122_46, g122_47, g122_48, n123, n124, n125, n126, n127, n128, n129, n130, n131, n132, n133, n134, n135, n136, n137, n138, n139, n140, n141, n142, n143, n144, n145, n146, n45, n46, n47, n48, n49, n50, decide_false, Bool.false_eq_true, n20, g21_0, g21_1, g21_2, g21_3, n23, g24_2, g24_3, g24_4, g24_5, n25, n26, n27, n28, n29, n30, g31_0, g31_1, g31_2, n33, g34_2, g34_3, g34_4, g34_5, n35, n36, n37, n38, n39, adC_o, adC_s, adC_L, adM_o, adM_s, adM_L, e9']
  clear nope
  obtain ⟨hcb, hhcb⟩ : ∃ hcb, hcb = uI h 0 13 (nI 0) := ⟨_, rfl⟩
  have txb : Tx hcb f n := ⟨by omega, fun k hk => ⟨(tp k (by omega)).1, by rw [hhcb, hI_uI_o (by decide)]; exact (tp k (by omega)).2.1⟩⟩
  obtain ⟨b1, b2, b3⟩ := c_begin (c := 32) (by decide) txb
  obtain ⟨hc0, hhc0⟩ : ∃ hc0, hc0 = uI (uI (uI (adC (bgC hcb 32 n) 32 f n 0) 34 0 (nI 0)) 34 1 (nI 0)) 31 3 (nI 0) := ⟨_, rfl⟩
  have fc0 : FcB hcb hc0 := by
    rw [hhc0]
    refine FcB.trans (b := bgC hcb 32 n) ⟨fun d hd => bgC_o (by omega), fun _ _ _ => rfl⟩ ?_
    exact (((FcB.ad (by decide)).trans (FcB.u (by decide))).trans (FcB.u (by decide))).trans (FcB.u (by decide))
  have PA : F_X8_parse hcb 31 2 (nI n) = (L_X8_parse_23 hc0 31 (nI 0)).bind (fun e3 => J_X8_parse_69 e3 31) := by
    unfold F_X8_parse F_X9_makeEmpty
    rw [g31_0, g31_1, b1, Option.bind_some, Option.bind_some, hhc0]
    rfl
  have st : ∀ H, Up h H → ∃ hm0, PS hc0 hm0 f n 0 (0, fun _ => 0, fun _ => 0, fun _ => 0, fun _ => 0) 0 0 (fun _ => 0) ∧ F_X12_program H 122 (nI n) = (L_X12_program_62 hm0 122 (if tK f n 0 = 0 then nI 0 else nI 1)).bind finP ∧ (∀ d, d ≠ 122 → d ≠ 123 → d ≠ 128 → hI hm0 d = hI H d) ∧ (∀ k, k < 9 ∨ 25 < k → hI hm0 122 k = hI h 122 k) ∧ hI hm0 122 9 = nI 0 ∧ (∀ k, k < 3200 → hI hm0 123 k = hI h 123 k) ∧ hL hm0 = hL H := by
    intro H u
    obtain ⟨hb, d1, d2, d3, d4, d5, d6, d7⟩ := m_begin (h := H) (n := n) (f := f) (by omega) (fun k hk => ⟨(tp k (by omega)).1, by rw [(u 127 (by decide)).1]; exact (tp k (by omega)).2.2⟩)
    have e9' : hI H 122 9 = nI N := by rw [(u 122 (by decide)).1]; exact e9
    obtain ⟨hz, hhz⟩ : ∃ hz, hz = uI (uI (uI (adM hb f n 0) 123 3205 (nI 0)) 122 22 (nI 0)) 122 23 (nI 0) := ⟨_, rfl⟩
    have rb := d2.rd (q := 0) (Nat.zero_le n)
    have tz : RdM hz f n 0 := rb.cg (by rw [hhz, hI_uI_o (by decide), hI_uI_o (by decide), hI_uI_o (by decide)]) (fun j j1 j2 => by rw [hhz, hI_uI_s (by omega), hI_uI_s (by omega), hI_uI_o (by decide)])
    have z2 : ∀ k, k ≠ 22 → k ≠ 23 → hI hz 122 k = hI (adM hb f n 0) 122 k := fun k a b => by rw [hhz, hI_uI_s b, hI_uI_s a, hI_uI_o (by decide)]
    have kl := tK_le (f := f) (n := n) (p := 0)
    have mk0 := mk_1 kl
    have nz : ∀ i : Nat, ¬ i < 0 := Nat.not_lt_zero
    refine ⟨hz, ⟨?_, ?_, ?_, tz, ?_, ?_, ?_, ?_, PrOk.zero⟩, ?_, fun d x y z => ?_, fun k hk => ?_, ?_, fun k hk => ?_, ?_⟩
    · exact (b2.rd (q := 0) (Nat.zero_le n)).cg (by rw [hhc0, hI_uI_o (by decide), hI_uI_o (by decide), hI_uI_o (by decide)]) (by rw [hhc0]; rfl) (fun k _ _ => by rw [hhc0, hI_uI_o (by decide), hI_uI_o (by decide), hI_uI_o (by decide)])
    · rw [hhc0, hI_uI_o (by decide), hI_uI_o (by decide), hI_uI_o (by decide)]; exact b2.e5
    · rw [hhc0, hI_uI_o (by decide), hI_uI_o (by decide), hI_uI_o (by decide), adC_s (by decide) (by decide) (by decide)]; exact b3
    · rw [z2 17 (by decide) (by decide)]; exact d2.e7
    · rw [z2 16 (by decide) (by decide), adM_s (by decide) (by decide) (by decide) (by decide)]; exact d3
    · exact ⟨by rw [hhc0, hI_uI_o (by decide), hI_uI_s (by decide), hI_uI_e], by rw [hhc0, hI_uI_o (by decide), hI_uI_e]; rfl, by rw [hhc0, hI_uI_e], fun j hj => absurd hj (nz j), fun j hj => absurd hj (nz j)⟩
    · exact ⟨by rw [hhz, hI_uI_e], by rw [hhz, hI_uI_o (by decide), hI_uI_o (by decide), hI_uI_e]; rfl, by rw [hhz, hI_uI_s (by decide), hI_uI_e], fun j hj => absurd hj (nz j), fun j hj => absurd hj (nz j)⟩
    · unfold F_X12_program
      have e11 := tz.2.2.1
      have nn : ¬ nI n < (0 : Int32) := x0
      have n9 : ¬ nI N < nI n := fun e => absurd ((nI_ltI (by omega) hn).mp e) (by omega)
      have HZ : uI (uI (uI (adM hb f n 0) 123 (nx 3205) 0) 122 22 0) 122 23 0 = hz := hhz.symm
      by_cases y : tK f n 0 = 0
      · rw [y, show mkT 0 = 0 from rfl] at e11
        rw [if_pos y, if_neg nn, e9', if_neg n9, if_pos (show nI n ≤ 300 from (nI_leI (b := 300) hn (by decide)).mpr l3), d1, Option.bind_some, g122_0, n123, gd_on (by decide), HZ, e11, if_pos (show nI 0 = 0 from rfl)]
        rfl
      · have y' : ¬ nI (mkT (tK f n 0)) = 0 := fun e => y (mk0.2.2.2.2.1.mp ((nI_eq (by omega) (by decide)).mp e))
        rw [if_neg y, if_neg nn, e9', if_neg n9, if_pos (show nI n ≤ 300 from (nI_leI (b := 300) hn (by decide)).mpr l3), d1, Option.bind_some, g122_0, n123, gd_on (by decide), HZ, e11, if_neg y']
        rfl
    · rw [hhz, hI_uI_o x, hI_uI_o x, hI_uI_o y, adM_o x, d5 d x z]
    · rw [z2 k (by omega) (by omega), adM_s (by omega) (by omega) (by omega) (by omega), d6 k (by omega), (u 122 (by decide)).1]
    · rw [z2 9 (by decide) (by decide), adM_s (by decide) (by decide) (by decide) (by decide)]; exact d4
    · rw [hhz, hI_uI_o (by decide), hI_uI_o (by decide), hI_uI_s (by omega), adM_o (by decide), d5 123 (by decide) (by decide), (u 123 (by decide)).1]
    · rw [hhz]; exact d7
  obtain ⟨hmA, sA, -⟩ := st h Up.rf
  obtain ⟨hcL, hmQ, PL, -, fcL, -, dL⟩ := loop_p l3 n hc0 hmA 0 _ 0 0 _ 0 (by omega) (Nat.le_refl _) sA
  obtain ⟨hc1, hmR, xr, PF, -, fc1, -, dA⟩ := fin_p dL
  have fc : FcB hcb hc1 := (fc0.trans fcL).trans fc1
  have PA' : F_X8_parse hcb 31 2 (nI n) = some (hc1, xr) := by rw [PA, PL, Option.bind_some]; exact PF
  have EC : ∀ d, d < 21 ∨ 39 < d → d ≠ 0 → hI hc1 d = hI h d := fun d a b => by rw [fc.1 d a, hhcb, hI_uI_o b]
  have E0 : ∀ k, k ≠ 13 → hI hc1 0 k = hI h 0 k := fun k a => by rw [fc.1 0 (by decide), hhcb, hI_uI_s a]
  have E13 : hI hc1 0 13 = nI 0 := by rw [fc.1 0 (by decide), hhcb, hI_uI_e]
  have LC : ∀ d, d ≠ 29 → d ≠ 30 → hL hc1 d = hL h d := fun d a b => by rw [fc.2 d a b, hhcb, hL_uI]
  have ref : ∀ H, Up hc1 H → ∃ hm1, F_X12_program H 122 (nI n) = J_X12_program_109 hm1 122 ∧ (∀ d, d ≠ 122 → d ≠ 123 → d ≠ 128 → d ≠ 131 → hI hm1 d = hI H d) ∧ (∀ k, k < 9 ∨ 26 ≤ k → hI hm1 122 k = hI h 122 k) ∧ hI hm1 122 9 = nI 0 ∧ (∀ k, k < 3200 → hI hm1 123 k = hI h 123 k) ∧ (∀ d, d ≠ 129 → d ≠ 130 → hL hm1 d = hL H d) ∧ ((xr = nI 0 ∧ FltB 32 hc1 hm1) ∨ (xr = nI 1 ∧ ∃ p P T O, PS hc1 hm1 f n p P 0 T O)) := by
    intro H u
    have u' : Up h H := fun d hd => ⟨(u d hd).1.trans (EC d (by omega) (by omega)), (u d hd).2.trans (LC d (by omega) (by omega))⟩
    obtain ⟨hm0, s0, g1, g2, g3, g4, g5, g6⟩ := st H u'
    obtain ⟨hc2, hm2, PL2, ML, -, fm, dB⟩ := loop_p l3 n hc0 hm0 0 _ 0 0 _ 0 (by omega) (Nat.le_refl _) s0
    have ec : hc2 = hcL := by rw [PL] at PL2; exact (Option.some.inj PL2).symm
    subst ec
    obtain ⟨hc3, hm1, xr2, PF2, MF, -, fm2, dC⟩ := fin_p dB
    rw [PF] at PF2
    have e2 := Option.some.inj PF2
    have e3 : hc1 = hc3 := congrArg Prod.fst e2
    have e4 : xr = xr2 := congrArg Prod.snd e2
    rw [← e3, ← e4] at dC
    have fm := fm.trans fm2
    exact ⟨hm1, by rw [g1, ML, Option.bind_some, MF], fun d a b c e => by rw [fm.1 d a b c e, g2 d a b c], fun k hk => by rw [fm.2.1 k (by omega), g3 k (by omega)], by rw [fm.2.1 9 (by decide)]; exact g4, fun k hk => by rw [fm.2.2.1 k hk, g5 k hk], fun d a b => by rw [fm.2.2.2 d a b, g6], dC⟩
  rcases dA with ⟨rfl, k, s, z1, z2, z3, z4, -, -⟩ | ⟨rfl, pA, PP, TA, OA, sB⟩
  · -- a fault
    obtain ⟨hf, hhf⟩ : ∃ hf, hf = uI (uI (uI hc1 0 15 (nI k)) 0 16 (nI s)) 0 10 (nI 9) := ⟨_, rfl⟩
    have uf : Up hc1 hf := fun d hd => ⟨by rw [hhf, hI_uI_o (by omega), hI_uI_o (by omega), hI_uI_o (by omega)], by rw [hhf]; rfl⟩
    obtain ⟨hm1, y1, y2, y3, y4, y5, y6, y7⟩ := ref hf uf
    rcases y7 with ⟨-, k', s', w1, w2, w3, w4, w5, w6⟩ | ⟨e, -⟩
    · have ek : k' = k := by rw [z3] at w3; exact ((nI_eq (by omega) (by omega)).mp w3).symm
      subst ek
      have es : hI hm1 122 16 = nI s := by rw [w6, ← w4, z4]
      refine ⟨hf, uI (uI hm1 122 15 (nI k')) 122 1 (nI 9), mN, ?_, ?_, ?_⟩
      · unfold F_X11_program F_X11_keepFault F_X11_refuse
        rw [hhf]
        simp (disch := omega) only [↓m1_n, li_n, li_0, li_1, lt_y, lt_n, le_y, le_n, eq_n, nL, nLe, nEq, nEm, mEn, nLm, mLn, nLem, mLen, nI_add, nI_mul, nI_sub, nI_m, ib_nI, nx_nI, gd_y, bnd_e, bind_y, ↓reduceIte, hI_uI_o, hI_uI_s, hI_uI_e, hL_uI, hI_uL, hL_uL_o, hL_uL_s, hL_uL_e, and1_a, and1_b, Bool.not_true, Bool.not_false, Nat.zero_add, Nat.add_zero, Nat.add_sub_cancel, eq_self, ne_b, g0_0, g0_1, g0_2, g0_3, g0_4, g0_5, g0_6, g0_7, g0_8, g0_9, n1, n2, g3_2, g3_3, g3_4, g3_5, g3_6, g3_7, g3_8, g3_9, n4, n5, n6, n7, n8, n9, g10_2, g10_3, g10_4, g10_5, n11, n12, n13, n14, g15_2, g15_3, g15_4, g15_5, n16, n17, n18, n19, g40_0, g40_1, g40_2, g44_0, g44_2, g44_3, g44_5, g44_6, g44_10, g51_3, g51_4, g51_5, g51_6, g51_7, g57_3, g57_4, g57_5, g57_6, g57_7, n120, n121, g122_0, g122_4, g122_5, g122_6, g122_7, g122_8, g122_18, g122_19, g122_20, g122_21, g122_24, g122_25, g122_28, g122_29, g122_31, g122_32, g122_33, g122_39, g122_40, g122_41, g122_45, g122_46, g122_47, g122_48, n123, n124, n125, n126, n127, n128, n129, n130, n131, n132, n133, n134, n135, n136, n137, n138, n139, n140, n141, n142, n143, n144, n145, n146, n45, n46, n47, n48, n49, n50, decide_false, Bool.false_eq_true, n20, g21_0, g21_1, g21_2, g21_3, n23, g24_2, g24_3, g24_4, g24_5, n25, n26, n27, n28, n29, n30, g31_0, g31_1, g31_2, n33, g34_2, g34_3, g34_4, g34_5, n35, n36, n37, n38, n39, adC_o, adC_s, adC_L, adM_o, adM_s, adM_L, e13, ← hhcb, PA', z3, z4]
      · rw [y1]
        unfold J_X12_program_109 F_X12_refuse
        simp (disch := omega) only [↓m1_n, li_n, li_0, li_1, lt_y, lt_n, le_y, le_n, eq_n, nL, nLe, nEq, nEm, mEn, nLm, mLn, nLem, mLen, nI_add, nI_mul, nI_sub, nI_m, ib_nI, nx_nI, gd_y, bnd_e, bind_y, ↓reduceIte, hI_uI_o, hI_uI_s, hI_uI_e, hL_uI, hI_uL, hL_uL_o, hL_uL_s, hL_uL_e, and1_a, and1_b, Bool.not_true, Bool.not_false, Nat.zero_add, Nat.add_zero, Nat.add_sub_cancel, eq_self, ne_b, g0_0, g0_1, g0_2, g0_3, g0_4, g0_5, g0_6, g0_7, g0_8, g0_9, n1, n2, g3_2, g3_3, g3_4, g3_5, g3_6, g3_7, g3_8, g3_9, n4, n5, n6, n7, n8, n9, g10_2, g10_3, g10_4, g10_5, n11, n12, n13, n14, g15_2, g15_3, g15_4, g15_5, n16, n17, n18, n19, g40_0, g40_1, g40_2, g44_0, g44_2, g44_3, g44_5, g44_6, g44_10, g51_3, g51_4, g51_5, g51_6, g51_7, g57_3, g57_4, g57_5, g57_6, g57_7, n120, n121, g122_0, g122_4, g122_5, g122_6, g122_7, g122_8, g122_18, g122_19, g122_20, g122_21, g122_24, g122_25, g122_28, g122_29, g122_31, g122_32, g122_33, g122_39, g122_40, g122_41, g122_45, g122_46, g122_47, g122_48, n123, n124, n125, n126, n127, n128, n129, n130, n131, n132, n133, n134, n135, n136, n137, n138, n139, n140, n141, n142, n143, n144, n145, n146, n45, n46, n47, n48, n49, n50, decide_false, Bool.false_eq_true, n20, g21_0, g21_1, g21_2, g21_3, n23, g24_2, g24_3, g24_4, g24_5, n25, n26, n27, n28, n29, n30, g31_0, g31_1, g31_2, n33, g34_2, g34_3, g34_4, g34_5, n35, n36, n37, n38, n39, adC_o, adC_s, adC_L, adM_o, adM_s, adM_L, w5]
      · have q0 : ∀ d, d ≠ 122 → hI (uI (uI hm1 122 15 (nI k')) 122 1 (nI 9)) d = hI hm1 d := fun d a => by rw [hI_uI_o a, hI_uI_o a]
        have qc : ∀ d, d ≠ 0 → d ≠ 122 → d ≠ 123 → d ≠ 128 → d ≠ 131 → (d < 21 ∨ 39 < d) → hI (uI (uI hm1 122 15 (nI k')) 122 1 (nI 9)) d = hI h d := fun d a0 a1 a2 a3 a4 a5 => by
          rw [q0 d a1, y2 d a1 a2 a3 a4, hhf, hI_uI_o a0, hI_uI_o a0, hI_uI_o a0, EC d a5 a0]
        have qz : hI (uI (uI hm1 122 15 (nI k')) 122 1 (nI 9)) 0 = hI hf 0 := by rw [q0 0 (by decide), y2 0 (by decide) (by decide) (by decide) (by decide)]
        refine Inv_rd (fun d hd => qc d (by omega) (by omega) (by omega) (by omega) (by omega) (by omega)) (fun d a b c e => ?_) (fun k hk => ?_) ?_ ?_ ?_ ?_ ?_ ?_ i
        · rw [hL_uI, hL_uI, y6 d c e, hhf, hL_uI, hL_uI, hL_uI, LC d a b]
        · rw [hI_uI_s (by omega), hI_uI_s (by omega), y3 k (by omega)]
        · refine Iho_set (h := h) ok.mono (RcH_congr (fun d a b => qc d (by omega) (by omega) (by omega) (by omega) (by omega) (by omega)) rc) (RmH_range ok (fun k a b => by rw [q0 123 (by decide), y5 k (by omega)]) rm) hm ?_ ?_ mk (fun d a b => qc d (by omega) (by omega) (by omega) (by omega) (by omega) (by omega)) (fun k a b => by rw [q0 123 (by decide), y5 k b])
          · rw [qz, hhf, hI_uI_s (by decide), hI_uI_s (by decide), hI_uI_s (by decide), E0 14 (by decide)]; exact m1
          · rw [hI_uI_s (by decide), hI_uI_s (by decide), y3 51 (by decide)]; exact m2
        · rw [qz, hhf, hI_uI_s (by decide), hI_uI_s (by decide), hI_uI_s (by decide)]; exact E13
        · rw [hI_uI_s (by decide), hI_uI_s (by decide)]; exact y4
        · rw [qz, hI_uI_e, hhf, hI_uI_e]
        · rw [qz, hI_uI_s (by decide), hI_uI_e, hhf, hI_uI_s (by decide), hI_uI_s (by decide), hI_uI_e]
        · rw [qz, hI_uI_s (by decide), hI_uI_s (by decide), es, hhf, hI_uI_s (by decide), hI_uI_e]
    · exact absurd e (by decide)
  · -- a run
    have z5 := sB.2.1
    have z6 := sB.2.2.1
    obtain ⟨hk, hhk⟩ : ∃ hk, hk = uI (uI hc1 0 15 (nI 0)) 0 16 mN := ⟨_, rfl⟩
    obtain ⟨h4, a1, a2, a3, a4, a5, a6, a7, a8⟩ := c_copySteps (h := hk) (a := 15) (b := 34) Hs3.2.2 Ss34 (by decide)
    obtain ⟨hf, hhf⟩ : ∃ hf, hf = uI h4 0 10 (nI 0) := ⟨_, rfl⟩
    have kc : ∀ d, d ≠ 0 → hI hk d = hI hc1 d := fun d a => by rw [hhk, hI_uI_o a, hI_uI_o a]
    have fk : ∀ d, d ≠ 0 → (d < 15 ∨ 19 < d) → hI hf d = hI hc1 d := fun d a b => by rw [hhf, hI_uI_o a, a2 d (by omega), kc d a]
    have uf : Up hc1 hf := fun d hd => ⟨fk d (by omega) (by omega), by rw [hhf, hL_uI, a3, hhk]; rfl⟩
    obtain ⟨hm1, y1, y2, y3, y4, y5, y6, y7⟩ := ref hf uf
    rcases y7 with ⟨e, -⟩ | ⟨-, p', P', T', O', sC⟩
    · exact absurd e (by decide)
    · obtain ⟨rd, f5, f6, rdm, g17, g16, pc, pm, pok⟩ := sC
      have spk := pok.fin
      obtain ⟨h6, d1, d2, d3, d4, d5⟩ := m_cp3 (h := uI (uI hm1 122 15 (nI 0)) 123 5 (nI (sN P')))
      have r3' : hI h4 15 0 = nI T' := by
        rw [a4 0 (by decide), kc 34 (by decide)]
        exact pc.1
      refine ⟨hf, uI h6 122 1 (nI 0), nI T', ?_, ?_, ?_⟩
      · unfold F_X11_program F_X11_keepFault F_X11_answer
        simp (disch := omega) only [↓m1_n, li_n, li_0, li_1, lt_y, lt_n, le_y, le_n, eq_n, nL, nLe, nEq, nEm, mEn, nLm, mLn, nLem, mLen, nI_add, nI_mul, nI_sub, nI_m, ib_nI, nx_nI, gd_y, bnd_e, bind_y, ↓reduceIte, hI_uI_o, hI_uI_s, hI_uI_e, hL_uI, hI_uL, hL_uL_o, hL_uL_s, hL_uL_e, and1_a, and1_b, Bool.not_true, Bool.not_false, Nat.zero_add, Nat.add_zero, Nat.add_sub_cancel, eq_self, ne_b, g0_0, g0_1, g0_2, g0_3, g0_4, g0_5, g0_6, g0_7, g0_8, g0_9, n1, n2, g3_2, g3_3, g3_4, g3_5, g3_6, g3_7, g3_8, g3_9, n4, n5, n6, n7, n8, n9, g10_2, g10_3, g10_4, g10_5, n11, n12, n13, n14, g15_2, g15_3, g15_4, g15_5, n16, n17, n18, n19, g40_0, g40_1, g40_2, g44_0, g44_2, g44_3, g44_5, g44_6, g44_10, g51_3, g51_4, g51_5, g51_6, g51_7, g57_3, g57_4, g57_5, g57_6, g57_7, n120, n121, g122_0, g122_4, g122_5, g122_6, g122_7, g122_8, g122_18, g122_19, g122_20, g122_21, g122_24, g122_25, g122_28, g122_29, g122_31, g122_32, g122_33, g122_39, g122_40, g122_41, g122_45, g122_46, g122_47, g122_48, n123, n124, n125, n126, n127, n128, n129, n130, n131, n132, n133, n134, n135, n136, n137, n138, n139, n140, n141, n142, n143, n144, n145, n146, n45, n46, n47, n48, n49, n50, decide_false, Bool.false_eq_true, n20, g21_0, g21_1, g21_2, g21_3, n23, g24_2, g24_3, g24_4, g24_5, n25, n26, n27, n28, n29, n30, g31_0, g31_1, g31_2, n33, g34_2, g34_3, g34_4, g34_5, n35, n36, n37, n38, n39, adC_o, adC_s, adC_L, adM_o, adM_s, adM_L, e13, ← hhcb, PA', z5, z6, ← hhk, a1, r3', hhf]
      · rw [y1]
        unfold J_X12_program_109
        have e5 : hI (uI hm1 122 15 (nI 0)) 123 3205 = nI (sN P') := by rw [hI_uI_o (by decide)]; exact pm.2.1
        have d1' : L_X12_program_149 (uI (uI hm1 122 15 (nI 0)) 123 5 (nI (sN P'))) 122 (nI 436) = some (uI h6 122 1 (nI 0), nI T') := by
          rw [d1, hI_uI_o (by decide), hI_uI_s (by decide), pm.1]
        simp (disch := omega) only [↓m1_n, li_n, li_0, li_1, lt_y, lt_n, le_y, le_n, eq_n, nL, nLe, nEq, nEm, mEn, nLm, mLn, nLem, mLen, nI_add, nI_mul, nI_sub, nI_m, ib_nI, nx_nI, gd_y, bnd_e, bind_y, ↓reduceIte, hI_uI_o, hI_uI_s, hI_uI_e, hL_uI, hI_uL, hL_uL_o, hL_uL_s, hL_uL_e, and1_a, and1_b, Bool.not_true, Bool.not_false, Nat.zero_add, Nat.add_zero, Nat.add_sub_cancel, eq_self, ne_b, g0_0, g0_1, g0_2, g0_3, g0_4, g0_5, g0_6, g0_7, g0_8, g0_9, n1, n2, g3_2, g3_3, g3_4, g3_5, g3_6, g3_7, g3_8, g3_9, n4, n5, n6, n7, n8, n9, g10_2, g10_3, g10_4, g10_5, n11, n12, n13, n14, g15_2, g15_3, g15_4, g15_5, n16, n17, n18, n19, g40_0, g40_1, g40_2, g44_0, g44_2, g44_3, g44_5, g44_6, g44_10, g51_3, g51_4, g51_5, g51_6, g51_7, g57_3, g57_4, g57_5, g57_6, g57_7, n120, n121, g122_0, g122_4, g122_5, g122_6, g122_7, g122_8, g122_18, g122_19, g122_20, g122_21, g122_24, g122_25, g122_28, g122_29, g122_31, g122_32, g122_33, g122_39, g122_40, g122_41, g122_45, g122_46, g122_47, g122_48, n123, n124, n125, n126, n127, n128, n129, n130, n131, n132, n133, n134, n135, n136, n137, n138, n139, n140, n141, n142, n143, n144, n145, n146, n45, n46, n47, n48, n49, n50, decide_false, Bool.false_eq_true, n20, g21_0, g21_1, g21_2, g21_3, n23, g24_2, g24_3, g24_4, g24_5, n25, n26, n27, n28, n29, n30, g31_0, g31_1, g31_2, n33, g34_2, g34_3, g34_4, g34_5, n35, n36, n37, n38, n39, adC_o, adC_s, adC_L, adM_o, adM_s, adM_L, g17, e5, pm.2.1, d1']
      · have q0 : ∀ d, d ≠ 122 → d ≠ 123 → hI (uI h6 122 1 (nI 0)) d = hI hm1 d := fun d a b => by rw [hI_uI_o a, d2 d b, hI_uI_o b, hI_uI_o a]
        have q3 : hI (uI h6 122 1 (nI 0)) 123 = hI h6 123 := by rw [hI_uI_o (by decide)]
        have q2 : ∀ k, k ≠ 1 → k ≠ 15 → hI (uI h6 122 1 (nI 0)) 122 k = hI hm1 122 k := fun k a b => by rw [hI_uI_s a, d2 122 (by decide), hI_uI_o (by decide), hI_uI_s b]
        have qf : ∀ d, d ≠ 122 → d ≠ 123 → d ≠ 128 → d ≠ 131 → hI (uI h6 122 1 (nI 0)) d = hI hf d := fun d a b c e => by rw [q0 d a b, y2 d a b c e]
        have qc : ∀ d, d ≠ 0 → d ≠ 122 → d ≠ 123 → d ≠ 128 → d ≠ 131 → (d < 21 ∨ 39 < d) → (d < 15 ∨ 19 < d) → hI (uI h6 122 1 (nI 0)) d = hI h d := fun d a0 a1 a2 a3 a4 a5 a6 => by rw [qf d a1 a2 a3 a4, fk d a0 a6, EC d a5 a0]
        have qz : ∀ k, hI (uI h6 122 1 (nI 0)) 0 k = hI hf 0 k := fun k => by rw [qf 0 (by decide) (by decide) (by decide) (by decide)]
        have h40 : hI h4 0 = hI hk 0 := a2 0 (by decide)
        have low : ∀ k, k ≠ 5 → (k < 436 ∨ 800 ≤ k) → k < 3200 → hI h6 123 k = hI h 123 k := fun k a b c => by rw [d5 k b, hI_uI_s a, hI_uI_o (by decide), y5 k c]
        have okA : HoOk (q + 1) (setS A P') := by
          obtain ⟨o1, o2, o3, o4, o5⟩ := ok.mono
          exact ⟨o1, o2, o3, o4, spk⟩
        have rcS : RcS hc1 34 P' := by
          obtain ⟨-, t1, -, -, t4⟩ := pc
          refine ⟨t1, fun k hk => ?_⟩
          have z := t4 k hk
          exact ⟨z.1, z.2.1, fun h5 => z.2.2 h5 opn_0⟩
        have rc1 : RcH (uI h6 122 1 (nI 0)) 3 (setS A P') := by
          refine ⟨⟨?_, ?_, fun i hi => ?_⟩, ?_, ?_⟩
          · rw [qc 3 (by decide) (by decide) (by decide) (by decide) (by decide) (by decide) (by decide)]; exact rc.1.1
          · rw [qc 3 (by decide) (by decide) (by decide) (by decide) (by decide) (by decide) (by decide)]; exact rc.1.2.1
          · rw [qc (3 + 1) (by decide) (by decide) (by decide) (by decide) (by decide) (by decide) (by decide), qc (3 + 2) (by decide) (by decide) (by decide) (by decide) (by decide) (by decide) (by decide), qc (3 + 3) (by decide) (by decide) (by decide) (by decide) (by decide) (by decide) (by decide), qc (3 + 4) (by decide) (by decide) (by decide) (by decide) (by decide) (by decide) (by decide), qc (3 + 5) (by decide) (by decide) (by decide) (by decide) (by decide) (by decide) (by decide), qc (3 + 6) (by decide) (by decide) (by decide) (by decide) (by decide) (by decide) (by decide)]
            exact rc.1.2.2 i hi
          · exact RcB_congr (fun d x y => qc d (by omega) (by omega) (by omega) (by omega) (by omega) (by omega) (by omega)) rc.2.1
          · have e4 : ∀ d, 15 ≤ d → d ≤ 19 → hI (uI h6 122 1 (nI 0)) d = hI h4 d := fun d x y => by rw [qf d (by omega) (by omega) (by omega) (by omega), hhf, hI_uI_o (by omega)]
            refine RcS_cp (h := hc1) (a := 3 + 12) (b := 34) spk (fun k hk => ?_) (fun k hk => ?_) (fun k hk => ?_) (fun k hk => ?_) (fun k hk => ?_) rcS
            · rw [e4 (3 + 12) (by decide) (by decide), a4 k hk, kc 34 (by decide)]
            · rw [e4 (3 + 12 + 1) (by decide) (by decide), a5 k hk, kc (34 + 1) (by decide)]
            · rw [e4 (3 + 12 + 2) (by decide) (by decide), a6 k hk, kc (34 + 2) (by decide)]
            · rw [e4 (3 + 12 + 3) (by decide) (by decide), a7 k hk, kc (34 + 3) (by decide)]
            · rw [e4 (3 + 12 + 4) (by decide) (by decide), a8 k hk, kc (34 + 4) (by decide)]
        have rm1 : RmH (uI h6 122 1 (nI 0)) 0 (setS A P') := by
          refine ⟨⟨?_, ?_, fun i hi => ?_⟩, ?_, ?_⟩
          · rw [q3, low 0 (by omega) (by omega) (by omega)]; exact rm.1.1
          · rw [q3, low _ (by omega) (by omega) (by omega)]; exact rm.1.2.1
          · have hi : i < oN A := hi
            have hA := ok.1
            have z := rm.1.2.2 i hi
            rw [q3]
            refine ⟨fun k hk => ?_, ?_, ?_, ?_, ?_⟩
            · rw [low _ (by omega) (by omega) (by omega)]; exact z.1 k hk
            · rw [low _ (by omega) (by omega) (by omega)]; exact z.2.1
            · rw [low _ (by omega) (by omega) (by omega)]; exact z.2.2.1
            · rw [low _ (by omega) (by omega) (by omega)]; exact z.2.2.2.1
            · rw [low _ (by omega) (by omega) (by omega)]; exact z.2.2.2.2
          · exact RmB_range (h := h) ok.2.2.2.1 (fun k a => by rw [q3, low k (by omega) (by omega) (by omega)]) rm.2.1
          · show RmS _ 0 P'
            unfold RmS
            rw [q3]
            have hi : ∀ k, 436 ≤ k → k < 800 → hI h6 123 k = hI hm1 123 (3200 + k) := fun k a b => by rw [d4 k a b, hI_uI_s (by omega), hI_uI_o (by decide)]
            have s80 := spk.1
            refine ⟨by rw [d5 _ (by omega), hI_uI_e], fun k hk => ?_⟩
            have z := pm.2.2.2.2 k hk
            rw [hi _ (by omega) (by omega), hi _ (by omega) (by omega), hi _ (by omega) (by omega), hi _ (by omega) (by omega), show 3200 + (0 + 436 + 4 * k) = 3636 + 4 * k by omega, show 3200 + (0 + 437 + 4 * k) = 3637 + 4 * k by omega, show 3200 + (0 + 438 + 4 * k) = 3638 + 4 * k by omega, show 3200 + (0 + 439 + 4 * k) = 3639 + 4 * k by omega]
            exact ⟨z.1, z.2.1, fun h5 => z.2.2 h5 opn_0⟩
        refine Inv_rd (fun d hd => qc d (by omega) (by omega) (by omega) (by omega) (by omega) (by omega) (by omega)) (fun d a b c e => ?_) (fun k hk => ?_) ?_ ?_ ?_ ?_ ?_ ?_ i
        · rw [hL_uI, d3, hL_uI, hL_uI, y6 d c e, hhf, hL_uI, a3, hhk, hL_uI, hL_uI, LC d a b]
        · rw [q2 k (by omega) (by omega), y3 k (by omega)]
        · refine Iho_set (h := h) okA rc1 rm1 hm ?_ ?_ mk (fun d a b => qc d (by omega) (by omega) (by omega) (by omega) (by omega) (by omega) (by omega)) (fun k a b => by rw [q3, low k (by omega) (by omega) b])
          · rw [qz, hhf, hI_uI_s (by decide), h40, hhk, hI_uI_s (by decide), hI_uI_s (by decide), E0 14 (by decide)]; exact m1
          · rw [q2 51 (by decide) (by decide), y3 51 (by decide)]; exact m2
        · rw [qz, hhf, hI_uI_s (by decide), h40, hhk, hI_uI_s (by decide), hI_uI_s (by decide)]; exact E13
        · rw [q2 9 (by decide) (by decide)]; exact y4
        · rw [qz, hI_uI_e, hhf, hI_uI_e]
        · rw [qz, hI_uI_s (by decide), d2 122 (by decide), hI_uI_o (by decide), hI_uI_e, hhf, hI_uI_s (by decide), h40, hhk, hI_uI_s (by decide), hI_uI_e]
        · rw [qz, q2 16 (by decide) (by decide), g16, hhf, hI_uI_s (by decide), h40, hhk, hI_uI_e]
