/-! ===== parts: the component's parting ===== -/
def resP (A : Ho) (a b : Nat) : Nat := if goodS A a b (oN A) then wtP A a b else 0
theorem resP_le {A : Ho} {a b : Nat} (hA : oN A ≤ 30) : resP A a b ≤ 1073741824 := by
  unfold resP
  split
  · exact wtP_le hA
  · omega
theorem c_part {h : Hp} {A : Ho} {q a b : Nat} (ok : HoOk q A) (rc : RcH h 3 A) (hab : a ≤ b) (hb : b < 8) (h6 : b < a + 6) : ∃ h', F_X5_part h 57 3 (nI a) (nI b) = some (h', nI (resP A a b)) ∧ hI h' 57 0 = nI 1 ∧ hI h' 57 1 = nI (oN A) ∧ hI h' 57 2 = nI (resP A a b) ∧ (resP A a b ≠ 0 → ∀ k, k < oN A → hI h' 58 (oD A k) = sdV A a b (k + 1)) ∧ (∀ d, (d < 57 ∨ 62 < d) → hI h' d = hI h d) ∧ hL h' = hL h := by
  have hA := ok.1
  have nc := cNn rc
  have dd : ∀ v w, v < oN A → w < oN A → oD A v = oD A w → v = w := ok.2.2.1
  have rc1 : RcH (uI (uI h 57 0 (nI 1)) 57 1 (nI (oN A))) 3 A := RcH_congr (fun d _ _ => by rw [hI_uI_o (by omega), hI_uI_o (by omega)]) rc
  obtain ⟨h1, a1, a2, a3, a4, a5⟩ := c_take ok rc1 hab hb h6 hI_uI_e
  have q0 : hI h1 57 0 = nI 1 := by rw [a4 57 (by decide) (by decide), hI_uI_s (by decide), hI_uI_e]
  have q1 : hI h1 57 1 = nI (oN A) := by rw [a4 57 (by decide) (by decide), hI_uI_e]
  have q2 : ∀ d, (d < 57 ∨ 62 < d) → hI h1 d = hI h d := fun d p => by rw [a4 d (by omega) (by omega), hI_uI_o (by omega), hI_uI_o (by omega)]
  have rl := resP_le (A := A) (a := a) (b := b) hA
  cases g : goodS A a b (oN A) with
  | false =>
    rw [g] at a1
    have e : resP A a b = 0 := by unfold resP; rw [g]; rfl
    rw [e]
    refine ⟨uI h1 57 2 (nI 0), ?_, by rw [hI_uI_s (by decide)]; exact q0, by rw [hI_uI_s (by decide)]; exact q1, hI_uI_e, fun e => absurd rfl e, fun d p => by rw [hI_uI_o (by omega), q2 d p], a5⟩
    unfold F_X5_part
    simp (disch := omega) only [↓m1_n, li_n, li_0, li_1, lt_y, lt_n, le_y, le_n, eq_n, nL, nLe, nEq, nEm, mEn, nLm, mLn, nLem, mLen, nI_add, nI_mul, nI_sub, nI_m, ib_nI, nx_nI, gd_y, bnd_e, bind_y, ↓reduceIte, hI_uI_o, hI_uI_s, hI_uI_e, hL_uI, hI_uL, hL_uL_o, hL_uL_s, hL_uL_e, and1_a, and1_b, Bool.not_true, Bool.not_false, Nat.zero_add, Nat.add_zero, Nat.add_sub_cancel, eq_self, ne_b, g0_0, g0_1, g0_2, g0_3, g0_4, g0_5, g0_6, g0_7, g0_8, g0_9, n1, n2, g3_2, g3_3, g3_4, g3_5, g3_6, g3_7, g3_8, g3_9, n4, n5, n6, n7, n8, n9, g10_2, g10_3, g10_4, g10_5, n11, n12, n13, n14, g15_2, g15_3, g15_4, g15_5, n16, n17, n18, n19, g40_0, g40_1, g40_2, g44_0, g44_2, g44_3, g44_5, g44_6, g44_10, g51_3, g51_4, g51_5, g51_6, g51_7, g57_3, g57_4, g57_5, g57_6, g57_7, n120, n121, g122_0, g122_4, g122_5, g122_6, g122_7, g122_8, g122_18, g122_19, g122_20, g122_21, g122_24, g122_25, g122_28, g122_29, g122_31, g122_32, g122_33, g122_39, g122_40, g122_41, g122_45, g122_46, g122_47, g122_48, n123, n124, n125, n126, n127, n128, n129, n130, n131, n132, n133, n134, n135, n136, n137, n138, n139, n140, n141, n142, n143, n144, n145, n146, nc, a1, bI_f]
  | true =>
    rw [g] at a1
    have e : resP A a b = wtP A a b := by unfold resP; rw [g]; rfl
    rw [e] at rl ⊢
    have cp := CP_of ok h6 g q1 a2 a3
    have cnt1 : ∃ h2, F_X5_countWays h1 57 = some (h2, nI (wtP A a b)) ∧ FrW h1 h2 := by
      by_cases z : oN A = 0
      · refine ⟨h1, ?_, FrW.rf⟩
        unfold F_X5_countWays wtP
        simp (disch := omega) only [↓m1_n, li_n, li_0, li_1, lt_y, lt_n, le_y, le_n, eq_n, nL, nLe, nEq, nEm, mEn, nLm, mLn, nLem, mLen, nI_add, nI_mul, nI_sub, nI_m, ib_nI, nx_nI, gd_y, bnd_e, bind_y, ↓reduceIte, hI_uI_o, hI_uI_s, hI_uI_e, hL_uI, hI_uL, hL_uL_o, hL_uL_s, hL_uL_e, and1_a, and1_b, Bool.not_true, Bool.not_false, Nat.zero_add, Nat.add_zero, Nat.add_sub_cancel, eq_self, ne_b, g0_0, g0_1, g0_2, g0_3, g0_4, g0_5, g0_6, g0_7, g0_8, g0_9, n1, n2, g3_2, g3_3, g3_4, g3_5, g3_6, g3_7, g3_8, g3_9, n4, n5, n6, n7, n8, n9, g10_2, g10_3, g10_4, g10_5, n11, n12, n13, n14, g15_2, g15_3, g15_4, g15_5, n16, n17, n18, n19, g40_0, g40_1, g40_2, g44_0, g44_2, g44_3, g44_5, g44_6, g44_10, g51_3, g51_4, g51_5, g51_6, g51_7, g57_3, g57_4, g57_5, g57_6, g57_7, n120, n121, g122_0, g122_4, g122_5, g122_6, g122_7, g122_8, g122_18, g122_19, g122_20, g122_21, g122_24, g122_25, g122_28, g122_29, g122_31, g122_32, g122_33, g122_39, g122_40, g122_41, g122_45, g122_46, g122_47, g122_48, n123, n124, n125, n126, n127, n128, n129, n130, n131, n132, n133, n134, n135, n136, n137, n138, n139, n140, n141, n142, n143, n144, n145, n146, q1, z]
      · obtain ⟨m, em⟩ : ∃ m, oN A = m + 1 := ⟨oN A - 1, by omega⟩
        have ew : wtP A a b = wt (a0P A) (a1P A) (ltP A a b) m := by unfold wtP; rw [if_neg z, em]; rfl
        rw [em] at cp
        obtain ⟨h2, b1, b2⟩ := c_count cp (by omega)
        rw [← ew] at b1
        exact ⟨h2, b1, b2⟩
    obtain ⟨h2, b1, b2⟩ := cnt1
    generalize hx : uI h2 57 2 (nI (wtP A a b)) = h3
    have x57 : ∀ k, k ≠ 2 → hI h3 57 k = hI h1 57 k := fun k hk => by rw [← hx, hI_uI_s hk, b2.1 57 (by decide) (by decide)]
    have x572 : hI h3 57 2 = nI (wtP A a b) := by rw [← hx, hI_uI_e]
    have xo : ∀ d, d ≠ 57 → d ≠ 61 → d ≠ 62 → hI h3 d = hI h1 d := fun d p r s => by rw [← hx, hI_uI_o p, b2.1 d r s]
    have xl : hL h3 = hL h1 := by rw [← hx, hL_uI, b2.2]
    by_cases w0 : wtP A a b = 0
    · refine ⟨h3, ?_, by rw [x57 0 (by decide)]; exact q0, by rw [x57 1 (by decide)]; exact q1, x572, fun e => absurd w0 e, fun d p => by rw [xo d (by omega) (by omega) (by omega), q2 d p], xl.trans a5⟩
      rw [w0] at x572 b1
      unfold F_X5_part
      rw [w0]
      rw [w0] at hx
      simp (disch := omega) only [↓m1_n, li_n, li_0, li_1, lt_y, lt_n, le_y, le_n, eq_n, nL, nLe, nEq, nEm, mEn, nLm, mLn, nLem, mLen, nI_add, nI_mul, nI_sub, nI_m, ib_nI, nx_nI, gd_y, bnd_e, bind_y, ↓reduceIte, hI_uI_o, hI_uI_s, hI_uI_e, hL_uI, hI_uL, hL_uL_o, hL_uL_s, hL_uL_e, and1_a, and1_b, Bool.not_true, Bool.not_false, Nat.zero_add, Nat.add_zero, Nat.add_sub_cancel, eq_self, ne_b, g0_0, g0_1, g0_2, g0_3, g0_4, g0_5, g0_6, g0_7, g0_8, g0_9, n1, n2, g3_2, g3_3, g3_4, g3_5, g3_6, g3_7, g3_8, g3_9, n4, n5, n6, n7, n8, n9, g10_2, g10_3, g10_4, g10_5, n11, n12, n13, n14, g15_2, g15_3, g15_4, g15_5, n16, n17, n18, n19, g40_0, g40_1, g40_2, g44_0, g44_2, g44_3, g44_5, g44_6, g44_10, g51_3, g51_4, g51_5, g51_6, g51_7, g57_3, g57_4, g57_5, g57_6, g57_7, n120, n121, g122_0, g122_4, g122_5, g122_6, g122_7, g122_8, g122_18, g122_19, g122_20, g122_21, g122_24, g122_25, g122_28, g122_29, g122_31, g122_32, g122_33, g122_39, g122_40, g122_41, g122_45, g122_46, g122_47, g122_48, n123, n124, n125, n126, n127, n128, n129, n130, n131, n132, n133, n134, n135, n136, n137, n138, n139, n140, n141, n142, n143, n144, n145, n146, nc, a1, bI_t, b1, hx, x572]
    · have cp3 : CP h3 (oN A) (a0P A) (a1P A) (ltP A a b) := by
        unfold CP at *
        rw [x57 1 (by decide), xo 59 (by decide) (by decide) (by decide), xo 60 (by decide) (by decide) (by decide)]
        exact cp
      have rc3 : RcH h3 3 A := RcH_congr (fun d _ _ => by rw [xo d (by omega) (by omega) (by omega), q2 d (by omega)]) rc
      have key := iterW_inv (f := fun s : Hp × Int32 => B_X5_part_49 s.1 57 3 s.2) (fun m s => s.2 = nI (m + 1) ∧ (∀ k, k < m → hI s.1 58 (oD A k) = sdV A a b (k + 1)) ∧ (∀ d, d ≠ 58 → d ≠ 61 → d ≠ 62 → hI s.1 d = hI h3 d) ∧ hL s.1 = hL h3) (fun r => r.2 = nI (wtP A a b) ∧ (∀ k, k < oN A → hI r.1 58 (oD A k) = sdV A a b (k + 1)) ∧ (∀ d, d ≠ 58 → d ≠ 61 → d ≠ 62 → hI r.1 d = hI h3 d) ∧ hL r.1 = hL h3) (oN A) (fun m s hm P => ?_) (fun s P => ?_) (s := (h3, nI 1)) ⟨rfl, fun k hk => absurd hk (Nat.not_lt_zero k), fun d _ _ _ => rfl, rfl⟩
      · obtain ⟨⟨h4, r2⟩, k1, k2, k3, k4, k5⟩ := key
        have k2 : r2 = _ := k2
        subst k2
        have k4 : ∀ d, d ≠ 58 → d ≠ 61 → d ≠ 62 → hI h4 d = hI h3 d := k4
        have k1 : L_X5_part_49 h3 57 3 (nI 1) = some (h4, nI (wtP A a b)) := k1
        refine ⟨h4, ?_, ?_, ?_, ?_, fun _ => k3, fun d p => by rw [k4 d (by omega) (by omega) (by omega), xo d (by omega) (by omega) (by omega), q2 d p], k5.trans (xl.trans a5)⟩
        · unfold F_X5_part
          simp (disch := omega) only [↓m1_n, li_n, li_0, li_1, lt_y, lt_n, le_y, le_n, eq_n, nL, nLe, nEq, nEm, mEn, nLm, mLn, nLem, mLen, nI_add, nI_mul, nI_sub, nI_m, ib_nI, nx_nI, gd_y, bnd_e, bind_y, ↓reduceIte, hI_uI_o, hI_uI_s, hI_uI_e, hL_uI, hI_uL, hL_uL_o, hL_uL_s, hL_uL_e, and1_a, and1_b, Bool.not_true, Bool.not_false, Nat.zero_add, Nat.add_zero, Nat.add_sub_cancel, eq_self, ne_b, g0_0, g0_1, g0_2, g0_3, g0_4, g0_5, g0_6, g0_7, g0_8, g0_9, n1, n2, g3_2, g3_3, g3_4, g3_5, g3_6, g3_7, g3_8, g3_9, n4, n5, n6, n7, n8, n9, g10_2, g10_3, g10_4, g10_5, n11, n12, n13, n14, g15_2, g15_3, g15_4, g15_5, n16, n17, n18, n19, g40_0, g40_1, g40_2, g44_0, g44_2, g44_3, g44_5, g44_6, g44_10, g51_3, g51_4, g51_5, g51_6, g51_7, g57_3, g57_4, g57_5, g57_6, g57_7, n120, n121, g122_0, g122_4, g122_5, g122_6, g122_7, g122_8, g122_18, g122_19, g122_20, g122_21, g122_24, g122_25, g122_28, g122_29, g122_31, g122_32, g122_33, g122_39, g122_40, g122_41, g122_45, g122_46, g122_47, g122_48, n123, n124, n125, n126, n127, n128, n129, n130, n131, n132, n133, n134, n135, n136, n137, n138, n139, n140, n141, n142, n143, n144, n145, n146, nc, a1, bI_t, b1, hx, x572, k1]
        · rw [k4 57 (by decide) (by decide) (by decide), x57 0 (by decide)]; exact q0
        · rw [k4 57 (by decide) (by decide) (by decide), x57 1 (by decide)]; exact q1
        · rw [k4 57 (by decide) (by decide) (by decide)]; exact x572
      · obtain ⟨hy, s2⟩ := s
        obtain ⟨e2, p1, p2, p3⟩ := P
        have e2 : s2 = nI (m + 1) := e2
        subst e2
        have p2 : ∀ d, d ≠ 58 → d ≠ 61 → d ≠ 62 → hI hy d = hI h3 d := p2
        have cpy : CP hy (oN A) (a0P A) (a1P A) (ltP A a b) := by
          unfold CP at *
          rw [p2 57 (by decide) (by decide) (by decide), p2 59 (by decide) (by decide) (by decide), p2 60 (by decide) (by decide) (by decide)]
          exact cp3
        have dy : hI hy 9 m = nI (oD A m) := by rw [p2 9 (by decide) (by decide) (by decide)]; exact cDe rc3 hm
        have dl := (ok.2.1 m hm).2.2.2.2
        obtain ⟨h5, s1, s2⟩ := c_side (c := m + 1) ok cpy (by rw [p2 60 (by decide) (by decide) (by decide), xo 60 (by decide) (by decide) (by decide)]; exact (a3 m hm).2) (by rw [p2 57 (by decide) (by decide) (by decide)]; exact x572) (by omega) (by omega)
        refine ⟨(uI h5 58 (oD A m) (sdV A a b (m + 1)), nI (m + 1 + 1)), ?_, rfl, fun k hk => ?_, fun d p r s => ?_, s2.2.trans p3⟩
        · show B_X5_part_49 hy 57 3 (nI (m + 1)) = _
          have ny := cpy.1
          unfold B_X5_part_49
          simp (disch := omega) only [↓m1_n, li_n, li_0, li_1, lt_y, lt_n, le_y, le_n, eq_n, nL, nLe, nEq, nEm, mEn, nLm, mLn, nLem, mLen, nI_add, nI_mul, nI_sub, nI_m, ib_nI, nx_nI, gd_y, bnd_e, bind_y, ↓reduceIte, hI_uI_o, hI_uI_s, hI_uI_e, hL_uI, hI_uL, hL_uL_o, hL_uL_s, hL_uL_e, and1_a, and1_b, Bool.not_true, Bool.not_false, Nat.zero_add, Nat.add_zero, Nat.add_sub_cancel, eq_self, ne_b, g0_0, g0_1, g0_2, g0_3, g0_4, g0_5, g0_6, g0_7, g0_8, g0_9, n1, n2, g3_2, g3_3, g3_4, g3_5, g3_6, g3_7, g3_8, g3_9, n4, n5, n6, n7, n8, n9, g10_2, g10_3, g10_4, g10_5, n11, n12, n13, n14, g15_2, g15_3, g15_4, g15_5, n16, n17, n18, n19, g40_0, g40_1, g40_2, g44_0, g44_2, g44_3, g44_5, g44_6, g44_10, g51_3, g51_4, g51_5, g51_6, g51_7, g57_3, g57_4, g57_5, g57_6, g57_7, n120, n121, g122_0, g122_4, g122_5, g122_6, g122_7, g122_8, g122_18, g122_19, g122_20, g122_21, g122_24, g122_25, g122_28, g122_29, g122_31, g122_32, g122_33, g122_39, g122_40, g122_41, g122_45, g122_46, g122_47, g122_48, n123, n124, n125, n126, n127, n128, n129, n130, n131, n132, n133, n134, n135, n136, n137, n138, n139, n140, n141, n142, n143, n144, n145, n146, n58, ny, dy, s1]
        · show hI (uI h5 58 (oD A m) (sdV A a b (m + 1))) 58 (oD A k) = _
          by_cases ek : k = m
          · subst ek
            exact hI_uI_e
          · rw [hI_uI_s (fun e => ek (dd k m (by omega) hm e)), s2.1 58 (by decide) (by decide)]
            exact p1 k (by omega)
        · show hI (uI h5 58 (oD A m) (sdV A a b (m + 1))) d = _
          rw [hI_uI_o p, s2.1 d r s, p2 d p r s]
      · obtain ⟨hy, s2⟩ := s
        obtain ⟨e2, P⟩ := P
        have e2 : s2 = nI (oN A + 1) := e2
        subst e2
        refine ⟨(hy, nI (wtP A a b)), ?_, rfl, P⟩
        have y1 : hI hy 57 1 = nI (oN A) := by rw [P.2.1 57 (by decide) (by decide) (by decide)]; exact cp3.1
        have y2 : hI hy 57 2 = nI (wtP A a b) := by rw [P.2.1 57 (by decide) (by decide) (by decide)]; exact x572
        show B_X5_part_49 hy 57 3 (nI (oN A + 1)) = _
        unfold B_X5_part_49
        simp (disch := omega) only [↓m1_n, li_n, li_0, li_1, lt_y, lt_n, le_y, le_n, eq_n, nL, nLe, nEq, nEm, mEn, nLm, mLn, nLem, mLen, nI_add, nI_mul, nI_sub, nI_m, ib_nI, nx_nI, gd_y, bnd_e, bind_y, ↓reduceIte, hI_uI_o, hI_uI_s, hI_uI_e, hL_uI, hI_uL, hL_uL_o, hL_uL_s, hL_uL_e, and1_a, and1_b, Bool.not_true, Bool.not_false, Nat.zero_add, Nat.add_zero, Nat.add_sub_cancel, eq_self, ne_b, g0_0, g0_1, g0_2, g0_3, g0_4, g0_5, g0_6, g0_7, g0_8, g0_9, n1, n2, g3_2, g3_3, g3_4, g3_5, g3_6, g3_7, g3_8, g3_9, n4, n5, n6, n7, n8, n9, g10_2, g10_3, g10_4, g10_5, n11, n12, n13, n14, g15_2, g15_3, g15_4, g15_5, n16, n17, n18, n19, g40_0, g40_1, g40_2, g44_0, g44_2, g44_3, g44_5, g44_6, g44_10, g51_3, g51_4, g51_5, g51_6, g51_7, g57_3, g57_4, g57_5, g57_6, g57_7, n120, n121, g122_0, g122_4, g122_5, g122_6, g122_7, g122_8, g122_18, g122_19, g122_20, g122_21, g122_24, g122_25, g122_28, g122_29, g122_31, g122_32, g122_33, g122_39, g122_40, g122_41, g122_45, g122_46, g122_47, g122_48, n123, n124, n125, n126, n127, n128, n129, n130, n131, n132, n133, n134, n135, n136, n137, n138, n139, n140, n141, n142, n143, n144, n145, n146, y1, y2]
