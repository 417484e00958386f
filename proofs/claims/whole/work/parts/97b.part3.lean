/-! ===== parts: the component's count ===== -/
theorem bI_q {b : Bool} : bI b = if b then nI 1 else nI 0 := rfl
theorem acc_e {a : Nat → Bool} {lt : Nat → Nat → Bool} {Z O : Nat → Nat} {c : Nat} : acc (a (c + 1)) lt O c c = stW lt a Z O c c := by
  unfold acc stW
  cases a (c + 1)
  · rfl
  · rw [if_pos rfl, if_pos rfl, if_neg (Nat.lt_irrefl c), if_pos rfl]
theorem stW_k {a : Nat → Bool} {lt : Nat → Nat → Bool} {Z O : Nat → Nat} {c k : Nat} (h : k < c) : stW lt a Z O c k = if a (c + 1) && lt c (c + 1) then Z k else 0 := by
  unfold stW
  rw [if_pos h]
  cases a (c + 1) <;> cases lt c (c + 1) <;> rfl
theorem c_addCard {h : Hp} {n c : Nat} {a0 a1 : Nat → Bool} {lt : Nat → Nat → Bool} {Z O : Nat → Nat} (cp : CP h n a0 a1 lt) (hc : c + 1 ≤ n) (hn : n ≤ 30) (c1 : 1 ≤ c) (r : RW h c Z O) : ∃ h', F_X5_addCard h 57 (nI (c + 1)) = some h' ∧ FrW h h' ∧ RW h' (c + 1) (stW lt a0 Z O c) (stW lt a1 O Z c) := by
  obtain ⟨h1, k1, k2, k3⟩ := c_add64 cp hc hn c1 (a0 (c + 1)) (a1 (c + 1)) (lt c (c + 1)) r
  refine ⟨uI (uI h1 61 c (nI (acc (a0 (c + 1)) lt O c c))) 62 c (nI (acc (a1 (c + 1)) lt Z c c)), ?_, k2.trans ⟨fun d p q => by rw [hI_uI_o q, hI_uI_o p], rfl⟩, fun k hk => ?_⟩
  · have f0 := (cp.2.1 (c + 1) (by omega) hc).1
    have f1 := (cp.2.1 (c + 1) (by omega) hc).2
    have f2 := cp.2.2 c (c + 1) (by omega) hc
    unfold F_X5_addCard J_X5_addCard_15 J_X5_addCard_30
    generalize acc (a0 (c + 1)) lt O c c = u0 at *
    generalize acc (a1 (c + 1)) lt Z c c = u1 at *
    generalize a0 (c + 1) = b0 at *
    generalize a1 (c + 1) = b1 at *
    generalize lt c (c + 1) = bl at *
    cases b0 <;> cases b1 <;> cases bl <;> simp only [bI_t, bI_f] at k1 <;> simp (disch := omega) only [↓m1_n, li_n, li_0, li_1, lt_y, lt_n, le_y, le_n, eq_n, nL, nLe, nEq, nEm, mEn, nLm, mLn, nLem, mLen, nI_add, nI_mul, nI_sub, nI_m, ib_nI, nx_nI, gd_y, bnd_e, bind_y, ↓reduceIte, hI_uI_o, hI_uI_s, hI_uI_e, hL_uI, hI_uL, hL_uL_o, hL_uL_s, hL_uL_e, and1_a, and1_b, Bool.not_true, Bool.not_false, Nat.zero_add, Nat.add_zero, Nat.add_sub_cancel, eq_self, ne_b, g0_0, g0_1, g0_2, g0_3, g0_4, g0_5, g0_6, g0_7, g0_8, g0_9, n1, n2, g3_2, g3_3, g3_4, g3_5, g3_6, g3_7, g3_8, g3_9, n4, n5, n6, n7, n8, n9, g10_2, g10_3, g10_4, g10_5, n11, n12, n13, n14, g15_2, g15_3, g15_4, g15_5, n16, n17, n18, n19, g40_0, g40_1, g40_2, g44_0, g44_2, g44_3, g44_5, g44_6, g44_10, g51_3, g51_4, g51_5, g51_6, g51_7, g57_3, g57_4, g57_5, g57_6, g57_7, n120, n121, g122_0, g122_4, g122_5, g122_6, g122_7, g122_8, g122_18, g122_19, g122_20, g122_21, g122_24, g122_25, g122_28, g122_29, g122_31, g122_32, g122_33, g122_39, g122_40, g122_41, g122_45, g122_46, g122_47, g122_48, n123, n124, n125, n126, n127, n128, n129, n130, n131, n132, n133, n134, n135, n136, n137, n138, n139, n140, n141, n142, n143, n144, n145, n146, n59, n60, n61, n62, f0, f1, f2, Bool.true_eq_false, k1]
  · by_cases ek : k = c
    · subst ek
      rw [hI_uI_o (by decide), hI_uI_e, hI_uI_e, acc_e (Z := Z), acc_e (Z := O)]
      exact ⟨rfl, rfl⟩
    · have kc : k < c := by omega
      have := k3 k kc
      rw [if_pos kc, if_pos kc] at this
      rw [hI_uI_o (by decide), hI_uI_s ek, hI_uI_s ek, hI_uI_o (by decide), stW_k kc, stW_k kc]
      exact this
theorem c_count {h : Hp} {m : Nat} {a0 a1 : Nat → Bool} {lt : Nat → Nat → Bool} (cp : CP h (m + 1) a0 a1 lt) (hm : m + 1 ≤ 30) : ∃ h', F_X5_countWays h 57 = some (h', nI (wt a0 a1 lt m)) ∧ FrW h h' := by
  have f0 := (cp.2.1 1 (by omega) (by omega)).1
  have f1 := (cp.2.1 1 (by omega) (by omega)).2
  have nn := cp.1
  generalize hx : uI (uI h 61 0 (bI (a0 1))) 62 0 (bI (a1 1)) = h1
  have fx : FrW h h1 := by rw [← hx]; exact ⟨fun d p q => by rw [hI_uI_o q, hI_uI_o p], rfl⟩
  have rx : RW h1 1 (ws a0 a1 lt 0).1 (ws a0 a1 lt 0).2 := by
    intro k hk
    have : k = 0 := by omega
    subst this
    rw [← hx, hI_uI_o (by decide), hI_uI_e, hI_uI_e]
    show bI (a0 1) = nI (if 0 = 0 ∧ a0 1 = true then 1 else 0) ∧ bI (a1 1) = nI (if 0 = 0 ∧ a1 1 = true then 1 else 0)
    cases a0 1 <;> cases a1 1 <;> exact ⟨rfl, rfl⟩
  have L1 : ∃ h', L_X5_countWays_52 h1 57 (nI 2) = some h' ∧ FrW h1 h' ∧ RW h' (m + 1) (ws a0 a1 lt m).1 (ws a0 a1 lt m).2 := by
    have key := iterW_inv (f := fun s : Hp × Int32 => B_X5_countWays_52 s.1 57 s.2) (fun j s => s.2 = nI (j + 2) ∧ FrW h1 s.1 ∧ RW s.1 (j + 1) (ws a0 a1 lt j).1 (ws a0 a1 lt j).2) (fun r => FrW h1 r ∧ RW r (m + 1) (ws a0 a1 lt m).1 (ws a0 a1 lt m).2) m (fun j s hj P => ?_) (fun s P => ?_) (s := (h1, nI 2)) ⟨rfl, FrW.rf, rx⟩
    · exact key
    · obtain ⟨hy, s2⟩ := s
      obtain ⟨e2, f, g⟩ := P
      have e2 : s2 = nI (j + 2) := e2
      subst e2
      have f : FrW h1 hy := f
      have g : RW hy (j + 1) (ws a0 a1 lt j).1 (ws a0 a1 lt j).2 := g
      have cy := (fx.trans f).cp cp
      obtain ⟨h2, k1, k2, k3⟩ := c_addCard (c := j + 1) cy (by omega) hm (by omega) g
      refine ⟨(h2, nI (j + 1 + 2)), ?_, rfl, f.trans k2, k3⟩
      have n2 := cy.1
      have k1 : F_X5_addCard hy 57 (nI (j + 2)) = some h2 := k1
      show B_X5_countWays_52 hy 57 (nI (j + 2)) = _
      unfold B_X5_countWays_52
      simp (disch := omega) only [↓m1_n, li_n, li_0, li_1, lt_y, lt_n, le_y, le_n, eq_n, nL, nLe, nEq, nEm, mEn, nLm, mLn, nLem, mLen, nI_add, nI_mul, nI_sub, nI_m, ib_nI, nx_nI, gd_y, bnd_e, bind_y, ↓reduceIte, hI_uI_o, hI_uI_s, hI_uI_e, hL_uI, hI_uL, hL_uL_o, hL_uL_s, hL_uL_e, and1_a, and1_b, Bool.not_true, Bool.not_false, Nat.zero_add, Nat.add_zero, Nat.add_sub_cancel, eq_self, ne_b, g0_0, g0_1, g0_2, g0_3, g0_4, g0_5, g0_6, g0_7, g0_8, g0_9, n1, n2, g3_2, g3_3, g3_4, g3_5, g3_6, g3_7, g3_8, g3_9, n4, n5, n6, n7, n8, n9, g10_2, g10_3, g10_4, g10_5, n11, n12, n13, n14, g15_2, g15_3, g15_4, g15_5, n16, n17, n18, n19, g40_0, g40_1, g40_2, g44_0, g44_2, g44_3, g44_5, g44_6, g44_10, g51_3, g51_4, g51_5, g51_6, g51_7, g57_3, g57_4, g57_5, g57_6, g57_7, n120, n121, g122_0, g122_4, g122_5, g122_6, g122_7, g122_8, g122_18, g122_19, g122_20, g122_21, g122_24, g122_25, g122_28, g122_29, g122_31, g122_32, g122_33, g122_39, g122_40, g122_41, g122_45, g122_46, g122_47, g122_48, n123, n124, n125, n126, n127, n128, n129, n130, n131, n132, n133, n134, n135, n136, n137, n138, n139, n140, n141, n142, n143, n144, n145, n146, n2, k1]
    · obtain ⟨hy, s2⟩ := s
      obtain ⟨e2, P⟩ := P
      have e2 : s2 = nI (m + 2) := e2
      subst e2
      have n2 := ((fx.trans P.1).cp cp).1
      have n2 : hI hy 57 1 = nI (m + 1) := n2
      refine ⟨hy, ?_, P⟩
      show B_X5_countWays_52 hy 57 (nI (m + 2)) = _
      unfold B_X5_countWays_52
      simp (disch := omega) only [↓m1_n, li_n, li_0, li_1, lt_y, lt_n, le_y, le_n, eq_n, nL, nLe, nEq, nEm, mEn, nLm, mLn, nLem, mLen, nI_add, nI_mul, nI_sub, nI_m, ib_nI, nx_nI, gd_y, bnd_e, bind_y, ↓reduceIte, hI_uI_o, hI_uI_s, hI_uI_e, hL_uI, hI_uL, hL_uL_o, hL_uL_s, hL_uL_e, and1_a, and1_b, Bool.not_true, Bool.not_false, Nat.zero_add, Nat.add_zero, Nat.add_sub_cancel, eq_self, ne_b, g0_0, g0_1, g0_2, g0_3, g0_4, g0_5, g0_6, g0_7, g0_8, g0_9, n1, n2, g3_2, g3_3, g3_4, g3_5, g3_6, g3_7, g3_8, g3_9, n4, n5, n6, n7, n8, n9, g10_2, g10_3, g10_4, g10_5, n11, n12, n13, n14, g15_2, g15_3, g15_4, g15_5, n16, n17, n18, n19, g40_0, g40_1, g40_2, g44_0, g44_2, g44_3, g44_5, g44_6, g44_10, g51_3, g51_4, g51_5, g51_6, g51_7, g57_3, g57_4, g57_5, g57_6, g57_7, n120, n121, g122_0, g122_4, g122_5, g122_6, g122_7, g122_8, g122_18, g122_19, g122_20, g122_21, g122_24, g122_25, g122_28, g122_29, g122_31, g122_32, g122_33, g122_39, g122_40, g122_41, g122_45, g122_46, g122_47, g122_48, n123, n124, n125, n126, n127, n128, n129, n130, n131, n132, n133, n134, n135, n136, n137, n138, n139, n140, n141, n142, n143, n144, n145, n146, n2]
  obtain ⟨h2, k1, k2, k3⟩ := L1
  have n2 := ((fx.trans k2).cp cp).1
  have L2 : L_X5_countWays_75 h2 57 (nI 0) (nI 0) = some (h2, nI (wt a0 a1 lt m)) := by
    refine iterW_for (f := fun s : Int32 × Int32 => B_X5_countWays_75 h2 57 s.1 s.2) (fun j => (nI (smN (fun y => (ws a0 a1 lt m).1 y + (ws a0 a1 lt m).2 y) j), nI j)) (m + 1) (fun j hj => ?_) ?_
    · show B_X5_countWays_75 h2 57 (nI (smN _ j)) (nI j) = _
      have g := k3 j hj
      unfold B_X5_countWays_75
      rw [smN]
      simp (disch := omega) only [↓m1_n, li_n, li_0, li_1, lt_y, lt_n, le_y, le_n, eq_n, nL, nLe, nEq, nEm, mEn, nLm, mLn, nLem, mLen, nI_add, nI_mul, nI_sub, nI_m, ib_nI, nx_nI, gd_y, bnd_e, bind_y, ↓reduceIte, hI_uI_o, hI_uI_s, hI_uI_e, hL_uI, hI_uL, hL_uL_o, hL_uL_s, hL_uL_e, and1_a, and1_b, Bool.not_true, Bool.not_false, Nat.zero_add, Nat.add_zero, Nat.add_sub_cancel, eq_self, ne_b, g0_0, g0_1, g0_2, g0_3, g0_4, g0_5, g0_6, g0_7, g0_8, g0_9, n1, n2, g3_2, g3_3, g3_4, g3_5, g3_6, g3_7, g3_8, g3_9, n4, n5, n6, n7, n8, n9, g10_2, g10_3, g10_4, g10_5, n11, n12, n13, n14, g15_2, g15_3, g15_4, g15_5, n16, n17, n18, n19, g40_0, g40_1, g40_2, g44_0, g44_2, g44_3, g44_5, g44_6, g44_10, g51_3, g51_4, g51_5, g51_6, g51_7, g57_3, g57_4, g57_5, g57_6, g57_7, n120, n121, g122_0, g122_4, g122_5, g122_6, g122_7, g122_8, g122_18, g122_19, g122_20, g122_21, g122_24, g122_25, g122_28, g122_29, g122_31, g122_32, g122_33, g122_39, g122_40, g122_41, g122_45, g122_46, g122_47, g122_48, n123, n124, n125, n126, n127, n128, n129, n130, n131, n132, n133, n134, n135, n136, n137, n138, n139, n140, n141, n142, n143, n144, n145, n146, n61, n62, n2, g.1, g.2]
    · show B_X5_countWays_75 h2 57 (nI (smN _ (m + 1))) (nI (m + 1)) = _
      unfold B_X5_countWays_75
      simp (disch := omega) only [↓m1_n, li_n, li_0, li_1, lt_y, lt_n, le_y, le_n, eq_n, nL, nLe, nEq, nEm, mEn, nLm, mLn, nLem, mLen, nI_add, nI_mul, nI_sub, nI_m, ib_nI, nx_nI, gd_y, bnd_e, bind_y, ↓reduceIte, hI_uI_o, hI_uI_s, hI_uI_e, hL_uI, hI_uL, hL_uL_o, hL_uL_s, hL_uL_e, and1_a, and1_b, Bool.not_true, Bool.not_false, Nat.zero_add, Nat.add_zero, Nat.add_sub_cancel, eq_self, ne_b, g0_0, g0_1, g0_2, g0_3, g0_4, g0_5, g0_6, g0_7, g0_8, g0_9, n1, n2, g3_2, g3_3, g3_4, g3_5, g3_6, g3_7, g3_8, g3_9, n4, n5, n6, n7, n8, n9, g10_2, g10_3, g10_4, g10_5, n11, n12, n13, n14, g15_2, g15_3, g15_4, g15_5, n16, n17, n18, n19, g40_0, g40_1, g40_2, g44_0, g44_2, g44_3, g44_5, g44_6, g44_10, g51_3, g51_4, g51_5, g51_6, g51_7, g57_3, g57_4, g57_5, g57_6, g57_7, n120, n121, g122_0, g122_4, g122_5, g122_6, g122_7, g122_8, g122_18, g122_19, g122_20, g122_21, g122_24, g122_25, g122_28, g122_29, g122_31, g122_32, g122_33, g122_39, g122_40, g122_41, g122_45, g122_46, g122_47, g122_48, n123, n124, n125, n126, n127, n128, n129, n130, n131, n132, n133, n134, n135, n136, n137, n138, n139, n140, n141, n142, n143, n144, n145, n146, n2]
      rfl
  refine ⟨h2, ?_, fx.trans k2⟩
  unfold F_X5_countWays J_X5_countWays_29
  rw [← hx] at k1
  generalize a0 1 = b0 at *
  generalize a1 1 = b1 at *
  cases b0 <;> cases b1 <;> simp only [bI_t, bI_f] at k1 <;> simp (disch := omega) only [↓m1_n, li_n, li_0, li_1, lt_y, lt_n, le_y, le_n, eq_n, nL, nLe, nEq, nEm, mEn, nLm, mLn, nLem, mLen, nI_add, nI_mul, nI_sub, nI_m, ib_nI, nx_nI, gd_y, bnd_e, bind_y, ↓reduceIte, hI_uI_o, hI_uI_s, hI_uI_e, hL_uI, hI_uL, hL_uL_o, hL_uL_s, hL_uL_e, and1_a, and1_b, Bool.not_true, Bool.not_false, Nat.zero_add, Nat.add_zero, Nat.add_sub_cancel, eq_self, ne_b, g0_0, g0_1, g0_2, g0_3, g0_4, g0_5, g0_6, g0_7, g0_8, g0_9, n1, n2, g3_2, g3_3, g3_4, g3_5, g3_6, g3_7, g3_8, g3_9, n4, n5, n6, n7, n8, n9, g10_2, g10_3, g10_4, g10_5, n11, n12, n13, n14, g15_2, g15_3, g15_4, g15_5, n16, n17, n18, n19, g40_0, g40_1, g40_2, g44_0, g44_2, g44_3, g44_5, g44_6, g44_10, g51_3, g51_4, g51_5, g51_6, g51_7, g57_3, g57_4, g57_5, g57_6, g57_7, n120, n121, g122_0, g122_4, g122_5, g122_6, g122_7, g122_8, g122_18, g122_19, g122_20, g122_21, g122_24, g122_25, g122_28, g122_29, g122_31, g122_32, g122_33, g122_39, g122_40, g122_41, g122_45, g122_46, g122_47, g122_48, n123, n124, n125, n126, n127, n128, n129, n130, n131, n132, n133, n134, n135, n136, n137, n138, n139, n140, n141, n142, n143, n144, n145, n146, n60, n61, n62, nn, f0, f1, Bool.true_eq_false, k1, L2]
