/-! ===== ordered ===== -/
def FrT (h h' : Hp) : Prop := (∀ d, d ≠ 44 → d ≠ 45 → d ≠ 46 → hI h' d = hI h d) ∧ (∀ k, k ≠ 1 → hI h' 44 k = hI h 44 k) ∧ hL h' = hL h
theorem FrT.trans {a b c : Hp} (x : FrT a b) (y : FrT b c) : FrT a c := ⟨fun d p q r => (y.1 d p q r).trans (x.1 d p q r), fun k p => (y.2.1 k p).trans (x.2.1 k p), y.2.2.trans x.2.2⟩
theorem FrT.rc {h h' : Hp} {A : Ho} (f : FrT h h') (r : RcH h 3 A) : RcH h' 3 A := RcH_congr (fun d a b => f.1 d (by omega) (by omega) (by omega)) r
theorem FrT.ua {h : Hp} {v : Int32} : FrT h (uI h 44 1 v) := ⟨fun d a _ _ => hI_uI_o a, fun k a => hI_uI_s a, rfl⟩
theorem FrT.ub {h : Hp} {k : Nat} {v : Int32} : FrT h (uI h 45 k v) := ⟨fun d _ a _ => hI_uI_o a, fun k a => by rw [hI_uI_o (by decide)], rfl⟩
theorem FrT.uc {h : Hp} {k : Nat} {v : Int32} : FrT h (uI h 46 k v) := ⟨fun d _ _ a => hI_uI_o a, fun k a => by rw [hI_uI_o (by decide)], rfl⟩
theorem c_takeKey {h : Hp} {A : Ho} {q j n : Nat} {g : Nat → Nat} (ok : HoOk q A) (rc : RcH h 3 A) (hj : j < 4) (hn : n ≤ 4) (hg : ∀ k, k < n → g k < 24 ∧ hL h (64 + 2 * j) k = lN (g k)) : ∃ h', F_X6_takeKey h 44 3 (64 + 2 * j) (nI n) = some h' ∧ FrT h h' ∧ hI h' 44 1 = nI n ∧ (∀ k, k < n → hI h' 45 k = nI (g k)) ∧ (∀ c, c < oN A → hI h' 46 c = nI (rnk A g n c)) := by
  have hA := ok.1
  have u0 : FrT h (uI h 44 1 (nI n)) := FrT.ua
  obtain ⟨h1, a1, a2, a3, a4⟩ : ∃ h1, L_X6_takeKey_12 (uI h 44 1 (nI n)) 44 3 (64 + 2 * j) (nI 0) = some h1 ∧ FrT h h1 ∧ hI h1 44 1 = nI n ∧ (∀ k, k < n → hI h1 45 k = nI (g k)) := by
    refine iterW_inv (fun i s => s.2 = nI i ∧ FrT h s.1 ∧ hI s.1 44 1 = nI n ∧ ∀ k, k < i → hI s.1 45 k = nI (g k)) _ n (fun i s hi p => ?_) (fun s p => ?_) ⟨rfl, u0, hI_uI_e, fun k hk => by omega⟩
    · obtain ⟨p1, p2, p3, p4⟩ := p
      refine ⟨(uI s.1 45 i (nI (g i)), nI (i + 1)), ?_, rfl, p2.trans FrT.ub, by rw [hI_uI_o (by decide)]; exact p3, fun k hk => ?_⟩
      · show B_X6_takeKey_12 _ _ _ _ _ = _
        unfold B_X6_takeKey_12
        rw [p1, p2.2.2]
        simp (disch := omega) only [↓m1_n, li_n, li_0, li_1, lt_y, lt_n, le_y, le_n, eq_n, nL, nLe, nEq, nEm, mEn, nLm, mLn, nLem, mLen, nI_add, nI_mul, nI_sub, nI_m, ib_nI, nx_nI, gd_y, bnd_e, bind_y, ↓reduceIte, hI_uI_o, hI_uI_s, hI_uI_e, hL_uI, hI_uL, hL_uL_o, hL_uL_s, hL_uL_e, and1_a, and1_b, Bool.not_true, Bool.not_false, Nat.zero_add, Nat.add_zero, Nat.add_sub_cancel, eq_self, ne_b, g0_0, g0_1, g0_2, g0_3, g0_4, g0_5, g0_6, g0_7, g0_8, g0_9, n1, n2, g3_2, g3_3, g3_4, g3_5, g3_6, g3_7, g3_8, g3_9, n4, n5, n6, n7, n8, n9, g10_2, g10_3, g10_4, g10_5, n11, n12, n13, n14, g15_2, g15_3, g15_4, g15_5, n16, n17, n18, n19, g40_0, g40_1, g40_2, g44_0, g44_2, g44_3, g44_5, g44_6, g44_10, g51_3, g51_4, g51_5, g51_6, g51_7, g57_3, g57_4, g57_5, g57_6, g57_7, n120, n121, g122_0, g122_4, g122_5, g122_6, g122_7, g122_8, g122_18, g122_19, g122_20, g122_21, g122_24, g122_25, g122_28, g122_29, g122_31, g122_32, g122_33, g122_39, g122_40, g122_41, g122_45, g122_46, g122_47, g122_48, n123, n124, n125, n126, n127, n128, n129, n130, n131, n132, n133, n134, n135, n136, n137, n138, n139, n140, n141, n142, n143, n144, n145, n146, li_l, cge, cle, cgt, clt, lNL, lNLe, lNEq, nI_l, lN_add, lN_i, p3, nT j hj, n45, (hg i hi).2]
      · by_cases c : k = i
        · subst c
          rw [hI_uI_e]
        · rw [hI_uI_s c]
          exact p4 k (by omega)
    · obtain ⟨p1, p2⟩ := p
      refine ⟨s.1, ?_, p2⟩
      show B_X6_takeKey_12 _ _ _ _ _ = _
      unfold B_X6_takeKey_12
      rw [p1]
      simp (disch := omega) only [↓m1_n, li_n, li_0, li_1, lt_y, lt_n, le_y, le_n, eq_n, nL, nLe, nEq, nEm, mEn, nLm, mLn, nLem, mLen, nI_add, nI_mul, nI_sub, nI_m, ib_nI, nx_nI, gd_y, bnd_e, bind_y, ↓reduceIte, hI_uI_o, hI_uI_s, hI_uI_e, hL_uI, hI_uL, hL_uL_o, hL_uL_s, hL_uL_e, and1_a, and1_b, Bool.not_true, Bool.not_false, Nat.zero_add, Nat.add_zero, Nat.add_sub_cancel, eq_self, ne_b, g0_0, g0_1, g0_2, g0_3, g0_4, g0_5, g0_6, g0_7, g0_8, g0_9, n1, n2, g3_2, g3_3, g3_4, g3_5, g3_6, g3_7, g3_8, g3_9, n4, n5, n6, n7, n8, n9, g10_2, g10_3, g10_4, g10_5, n11, n12, n13, n14, g15_2, g15_3, g15_4, g15_5, n16, n17, n18, n19, g40_0, g40_1, g40_2, g44_0, g44_2, g44_3, g44_5, g44_6, g44_10, g51_3, g51_4, g51_5, g51_6, g51_7, g57_3, g57_4, g57_5, g57_6, g57_7, n120, n121, g122_0, g122_4, g122_5, g122_6, g122_7, g122_8, g122_18, g122_19, g122_20, g122_21, g122_24, g122_25, g122_28, g122_29, g122_31, g122_32, g122_33, g122_39, g122_40, g122_41, g122_45, g122_46, g122_47, g122_48, n123, n124, n125, n126, n127, n128, n129, n130, n131, n132, n133, n134, n135, n136, n137, n138, n139, n140, n141, n142, n143, n144, n145, n146, p2.2.1]
  have inner : ∀ s, FrT h s → hI s 44 1 = nI n → (∀ k, k < n → hI s 45 k = nI (g k)) → ∀ c, c < oN A → L_X6_takeKey_57 s 44 3 (nI c) (nI 0) (nI 0) = some (nI (rnk A g n c)) := by
    intro s f e1 e2 c hc
    refine iterW_for (fun i => (nI (rnk A g i c), nI i)) n (fun i hi => ?_) ?_
    · show B_X6_takeKey_57 _ _ _ _ _ _ = _
      unfold B_X6_takeKey_57
      simp (disch := omega) only [↓m1_n, li_n, li_0, li_1, lt_y, lt_n, le_y, le_n, eq_n, nL, nLe, nEq, nEm, mEn, nLm, mLn, nLem, mLen, nI_add, nI_mul, nI_sub, nI_m, ib_nI, nx_nI, gd_y, bnd_e, bind_y, ↓reduceIte, hI_uI_o, hI_uI_s, hI_uI_e, hL_uI, hI_uL, hL_uL_o, hL_uL_s, hL_uL_e, and1_a, and1_b, Bool.not_true, Bool.not_false, Nat.zero_add, Nat.add_zero, Nat.add_sub_cancel, eq_self, ne_b, g0_0, g0_1, g0_2, g0_3, g0_4, g0_5, g0_6, g0_7, g0_8, g0_9, n1, n2, g3_2, g3_3, g3_4, g3_5, g3_6, g3_7, g3_8, g3_9, n4, n5, n6, n7, n8, n9, g10_2, g10_3, g10_4, g10_5, n11, n12, n13, n14, g15_2, g15_3, g15_4, g15_5, n16, n17, n18, n19, g40_0, g40_1, g40_2, g44_0, g44_2, g44_3, g44_5, g44_6, g44_10, g51_3, g51_4, g51_5, g51_6, g51_7, g57_3, g57_4, g57_5, g57_6, g57_7, n120, n121, g122_0, g122_4, g122_5, g122_6, g122_7, g122_8, g122_18, g122_19, g122_20, g122_21, g122_24, g122_25, g122_28, g122_29, g122_31, g122_32, g122_33, g122_39, g122_40, g122_41, g122_45, g122_46, g122_47, g122_48, n123, n124, n125, n126, n127, n128, n129, n130, n131, n132, n133, n134, n135, n136, n137, n138, n139, n140, n141, n142, n143, n144, n145, n146, e1, n45, e2 i hi, c_taken ok (f.rc rc) hc (hg i hi).1]
      rfl
    · show B_X6_takeKey_57 _ _ _ _ _ _ = _
      unfold B_X6_takeKey_57
      simp (disch := omega) only [↓m1_n, li_n, li_0, li_1, lt_y, lt_n, le_y, le_n, eq_n, nL, nLe, nEq, nEm, mEn, nLm, mLn, nLem, mLen, nI_add, nI_mul, nI_sub, nI_m, ib_nI, nx_nI, gd_y, bnd_e, bind_y, ↓reduceIte, hI_uI_o, hI_uI_s, hI_uI_e, hL_uI, hI_uL, hL_uL_o, hL_uL_s, hL_uL_e, and1_a, and1_b, Bool.not_true, Bool.not_false, Nat.zero_add, Nat.add_zero, Nat.add_sub_cancel, eq_self, ne_b, g0_0, g0_1, g0_2, g0_3, g0_4, g0_5, g0_6, g0_7, g0_8, g0_9, n1, n2, g3_2, g3_3, g3_4, g3_5, g3_6, g3_7, g3_8, g3_9, n4, n5, n6, n7, n8, n9, g10_2, g10_3, g10_4, g10_5, n11, n12, n13, n14, g15_2, g15_3, g15_4, g15_5, n16, n17, n18, n19, g40_0, g40_1, g40_2, g44_0, g44_2, g44_3, g44_5, g44_6, g44_10, g51_3, g51_4, g51_5, g51_6, g51_7, g57_3, g57_4, g57_5, g57_6, g57_7, n120, n121, g122_0, g122_4, g122_5, g122_6, g122_7, g122_8, g122_18, g122_19, g122_20, g122_21, g122_24, g122_25, g122_28, g122_29, g122_31, g122_32, g122_33, g122_39, g122_40, g122_41, g122_45, g122_46, g122_47, g122_48, n123, n124, n125, n126, n127, n128, n129, n130, n131, n132, n133, n134, n135, n136, n137, n138, n139, n140, n141, n142, n143, n144, n145, n146, e1]
  obtain ⟨h2, b1, b2, b3, b4, b5⟩ : ∃ h2, L_X6_takeKey_42 h1 44 3 (nI 0) = some h2 ∧ FrT h h2 ∧ hI h2 44 1 = nI n ∧ (∀ k, k < n → hI h2 45 k = nI (g k)) ∧ (∀ c, c < oN A → hI h2 46 c = nI (rnk A g n c)) := by
    refine iterW_inv (fun i s => s.2 = nI i ∧ FrT h s.1 ∧ hI s.1 44 1 = nI n ∧ (∀ k, k < n → hI s.1 45 k = nI (g k)) ∧ ∀ c, c < i → hI s.1 46 c = nI (rnk A g n c)) _ (oN A) (fun i s hi p => ?_) (fun s p => ?_) ⟨rfl, a2, a3, a4, fun k hk => by omega⟩
    · obtain ⟨p1, p2, p3, p4, p5⟩ := p
      refine ⟨(uI s.1 46 i (nI (rnk A g n i)), nI (i + 1)), ?_, rfl, p2.trans FrT.uc, by rw [hI_uI_o (by decide)]; exact p3, fun k hk => by rw [hI_uI_o (by decide)]; exact p4 k hk, fun k hk => ?_⟩
      · show B_X6_takeKey_42 _ _ _ _ = _
        unfold B_X6_takeKey_42
        rw [p1]
        simp (disch := omega) only [↓m1_n, li_n, li_0, li_1, lt_y, lt_n, le_y, le_n, eq_n, nL, nLe, nEq, nEm, mEn, nLm, mLn, nLem, mLen, nI_add, nI_mul, nI_sub, nI_m, ib_nI, nx_nI, gd_y, bnd_e, bind_y, ↓reduceIte, hI_uI_o, hI_uI_s, hI_uI_e, hL_uI, hI_uL, hL_uL_o, hL_uL_s, hL_uL_e, and1_a, and1_b, Bool.not_true, Bool.not_false, Nat.zero_add, Nat.add_zero, Nat.add_sub_cancel, eq_self, ne_b, g0_0, g0_1, g0_2, g0_3, g0_4, g0_5, g0_6, g0_7, g0_8, g0_9, n1, n2, g3_2, g3_3, g3_4, g3_5, g3_6, g3_7, g3_8, g3_9, n4, n5, n6, n7, n8, n9, g10_2, g10_3, g10_4, g10_5, n11, n12, n13, n14, g15_2, g15_3, g15_4, g15_5, n16, n17, n18, n19, g40_0, g40_1, g40_2, g44_0, g44_2, g44_3, g44_5, g44_6, g44_10, g51_3, g51_4, g51_5, g51_6, g51_7, g57_3, g57_4, g57_5, g57_6, g57_7, n120, n121, g122_0, g122_4, g122_5, g122_6, g122_7, g122_8, g122_18, g122_19, g122_20, g122_21, g122_24, g122_25, g122_28, g122_29, g122_31, g122_32, g122_33, g122_39, g122_40, g122_41, g122_45, g122_46, g122_47, g122_48, n123, n124, n125, n126, n127, n128, n129, n130, n131, n132, n133, n134, n135, n136, n137, n138, n139, n140, n141, n142, n143, n144, n145, n146, cNn (p2.rc rc), inner s.1 p2 p3 p4 i hi, n46]
      · by_cases c : k = i
        · subst c
          rw [hI_uI_e]
        · rw [hI_uI_s c]
          exact p5 k (by omega)
    · obtain ⟨p1, p2, p3⟩ := p
      refine ⟨s.1, ?_, p2, p3⟩
      show B_X6_takeKey_42 _ _ _ _ = _
      unfold B_X6_takeKey_42
      rw [p1]
      simp (disch := omega) only [↓m1_n, li_n, li_0, li_1, lt_y, lt_n, le_y, le_n, eq_n, nL, nLe, nEq, nEm, mEn, nLm, mLn, nLem, mLen, nI_add, nI_mul, nI_sub, nI_m, ib_nI, nx_nI, gd_y, bnd_e, bind_y, ↓reduceIte, hI_uI_o, hI_uI_s, hI_uI_e, hL_uI, hI_uL, hL_uL_o, hL_uL_s, hL_uL_e, and1_a, and1_b, Bool.not_true, Bool.not_false, Nat.zero_add, Nat.add_zero, Nat.add_sub_cancel, eq_self, ne_b, g0_0, g0_1, g0_2, g0_3, g0_4, g0_5, g0_6, g0_7, g0_8, g0_9, n1, n2, g3_2, g3_3, g3_4, g3_5, g3_6, g3_7, g3_8, g3_9, n4, n5, n6, n7, n8, n9, g10_2, g10_3, g10_4, g10_5, n11, n12, n13, n14, g15_2, g15_3, g15_4, g15_5, n16, n17, n18, n19, g40_0, g40_1, g40_2, g44_0, g44_2, g44_3, g44_5, g44_6, g44_10, g51_3, g51_4, g51_5, g51_6, g51_7, g57_3, g57_4, g57_5, g57_6, g57_7, n120, n121, g122_0, g122_4, g122_5, g122_6, g122_7, g122_8, g122_18, g122_19, g122_20, g122_21, g122_24, g122_25, g122_28, g122_29, g122_31, g122_32, g122_33, g122_39, g122_40, g122_41, g122_45, g122_46, g122_47, g122_48, n123, n124, n125, n126, n127, n128, n129, n130, n131, n132, n133, n134, n135, n136, n137, n138, n139, n140, n141, n142, n143, n144, n145, n146, cNn (p2.rc rc)]
  refine ⟨h2, ?_, b2, b3, b4, b5⟩
  unfold F_X6_takeKey
  simp (disch := omega) only [↓m1_n, li_n, li_0, li_1, lt_y, lt_n, le_y, le_n, eq_n, nL, nLe, nEq, nEm, mEn, nLm, mLn, nLem, mLen, nI_add, nI_mul, nI_sub, nI_m, ib_nI, nx_nI, gd_y, bnd_e, bind_y, ↓reduceIte, hI_uI_o, hI_uI_s, hI_uI_e, hL_uI, hI_uL, hL_uL_o, hL_uL_s, hL_uL_e, and1_a, and1_b, Bool.not_true, Bool.not_false, Nat.zero_add, Nat.add_zero, Nat.add_sub_cancel, eq_self, ne_b, g0_0, g0_1, g0_2, g0_3, g0_4, g0_5, g0_6, g0_7, g0_8, g0_9, n1, n2, g3_2, g3_3, g3_4, g3_5, g3_6, g3_7, g3_8, g3_9, n4, n5, n6, n7, n8, n9, g10_2, g10_3, g10_4, g10_5, n11, n12, n13, n14, g15_2, g15_3, g15_4, g15_5, n16, n17, n18, n19, g40_0, g40_1, g40_2, g44_0, g44_2, g44_3, g44_5, g44_6, g44_10, g51_3, g51_4, g51_5, g51_6, g51_7, g57_3, g57_4, g57_5, g57_6, g57_7, n120, n121, g122_0, g122_4, g122_5, g122_6, g122_7, g122_8, g122_18, g122_19, g122_20, g122_21, g122_24, g122_25, g122_28, g122_29, g122_31, g122_32, g122_33, g122_39, g122_40, g122_41, g122_45, g122_46, g122_47, g122_48, n123, n124, n125, n126, n127, n128, n129, n130, n131, n132, n133, n134, n135, n136, n137, n138, n139, n140, n141, n142, n143, n144, n145, n146, a1, b1]
/-- places where the order falls -/
def desB (rk : Nat → Nat) (D : Nat → Nat) (i : Nat) : Bool := decide (rk (D (i + 1)) < rk (D i))
theorem c_inOrder {h : Hp} {x m N : Nat} {rk D : Nat → Nat} (hx : LEN x = 30) (hm : m ≤ 30) (hN : N ≤ 30) (hD : ∀ k, k < m → hI h x k = nI (D k) ∧ D k < N) (hr : ∀ c, c < N → hI h 46 c = nI (rk c)) (hk : ∀ c, rk c < 65536) : F_X6_inOrder h 44 x (nI m) = some (if exB (desB rk D) (m - 1) then nI 0 else nI 1) := by
  rw [← fst1_exB]
  refine iterW_fst (fun j => nI (j + 1)) (desB rk D) (fun _ => nI 0) (nI 1) (m - 1) 0 (fun j _ hj => ?_) ?_
  · show B_X6_inOrder_2 _ _ _ _ _ = _
    unfold B_X6_inOrder_2
    have d1 := hD j (by omega)
    have d2 := hD (j + 1) (by omega)
    have k1 := hk (D j)
    have k2 := hk (D (j + 1))
    simp (disch := omega) only [↓m1_n, li_n, li_0, li_1, lt_y, lt_n, le_y, le_n, eq_n, nL, nLe, nEq, nEm, mEn, nLm, mLn, nLem, mLen, nI_add, nI_mul, nI_sub, nI_m, ib_nI, nx_nI, gd_y, bnd_e, bind_y, ↓reduceIte, hI_uI_o, hI_uI_s, hI_uI_e, hL_uI, hI_uL, hL_uL_o, hL_uL_s, hL_uL_e, and1_a, and1_b, Bool.not_true, Bool.not_false, Nat.zero_add, Nat.add_zero, Nat.add_sub_cancel, eq_self, ne_b, g0_0, g0_1, g0_2, g0_3, g0_4, g0_5, g0_6, g0_7, g0_8, g0_9, n1, n2, g3_2, g3_3, g3_4, g3_5, g3_6, g3_7, g3_8, g3_9, n4, n5, n6, n7, n8, n9, g10_2, g10_3, g10_4, g10_5, n11, n12, n13, n14, g15_2, g15_3, g15_4, g15_5, n16, n17, n18, n19, g40_0, g40_1, g40_2, g44_0, g44_2, g44_3, g44_5, g44_6, g44_10, g51_3, g51_4, g51_5, g51_6, g51_7, g57_3, g57_4, g57_5, g57_6, g57_7, n120, n121, g122_0, g122_4, g122_5, g122_6, g122_7, g122_8, g122_18, g122_19, g122_20, g122_21, g122_24, g122_25, g122_28, g122_29, g122_31, g122_32, g122_33, g122_39, g122_40, g122_41, g122_45, g122_46, g122_47, g122_48, n123, n124, n125, n126, n127, n128, n129, n130, n131, n132, n133, n134, n135, n136, n137, n138, n139, n140, n141, n142, n143, n144, n145, n146, hx, n46, d1.1, d2.1, hr (D j) d1.2, hr (D (j + 1)) d2.2]
    by_cases c : rk (D j) ≤ rk (D (j + 1))
    · rw [if_pos c, if_neg (by simp [desB]; omega)]
    · rw [if_neg c, if_pos (by simp [desB]; omega)]
  · show B_X6_inOrder_2 _ _ _ _ _ = _
    unfold B_X6_inOrder_2
    simp (disch := omega) only [↓m1_n, li_n, li_0, li_1, lt_y, lt_n, le_y, le_n, eq_n, nL, nLe, nEq, nEm, mEn, nLm, mLn, nLem, mLen, nI_add, nI_mul, nI_sub, nI_m, ib_nI, nx_nI, gd_y, bnd_e, bind_y, ↓reduceIte, hI_uI_o, hI_uI_s, hI_uI_e, hL_uI, hI_uL, hL_uL_o, hL_uL_s, hL_uL_e, and1_a, and1_b, Bool.not_true, Bool.not_false, Nat.zero_add, Nat.add_zero, Nat.add_sub_cancel, eq_self, ne_b, g0_0, g0_1, g0_2, g0_3, g0_4, g0_5, g0_6, g0_7, g0_8, g0_9, n1, n2, g3_2, g3_3, g3_4, g3_5, g3_6, g3_7, g3_8, g3_9, n4, n5, n6, n7, n8, n9, g10_2, g10_3, g10_4, g10_5, n11, n12, n13, n14, g15_2, g15_3, g15_4, g15_5, n16, n17, n18, n19, g40_0, g40_1, g40_2, g44_0, g44_2, g44_3, g44_5, g44_6, g44_10, g51_3, g51_4, g51_5, g51_6, g51_7, g57_3, g57_4, g57_5, g57_6, g57_7, n120, n121, g122_0, g122_4, g122_5, g122_6, g122_7, g122_8, g122_18, g122_19, g122_20, g122_21, g122_24, g122_25, g122_28, g122_29, g122_31, g122_32, g122_33, g122_39, g122_40, g122_41, g122_45, g122_46, g122_47, g122_48, n123, n124, n125, n126, n127, n128, n129, n130, n131, n132, n133, n134, n135, n136, n137, n138, n139, n140, n141, n142, n143, n144, n145, n146]
theorem m_isOrdered {h : Hp} {A : Ho} {q n : Nat} {g D : Nat → Nat} (ok : HoOk q A) (rm : RmH h 0 A) (hn : n ≤ 4) (hg : ∀ k, k < n → g k < 24) (k0 : hI h 122 30 = nI n) (kk : ∀ k, k < n → hI h 135 k = nI (g k % 8) ∧ hI h 136 k = nI (g k / 8)) (hD : ∀ k, k < oN A → hI h 134 k = nI (D k) ∧ D k < oN A) : F_X12_isOrdered h 122 = some (if exB (desB (rnk A g n) D) (oN A - 1) then nI 0 else nI 1) := by
  have hA := ok.1
  have IT : ∀ c k, c < oN A → k < n → F_X12_itemOf h 122 (nI c) (nI k) = some (nI (itm A c (g k))) := fun c k hc hk => m_itemOf ok rm hc (hg k hk) (by omega) (kk k hk).1 (kk k hk).2
  have inner : ∀ j, j + 1 < oN A → L_X12_isOrdered_14 h 122 (nI (j + 1)) (nI 0) = some (nI ((fst1 (fun k => decide (itm A (D (j + 1)) (g k) ≠ itm A (D j) (g k))) n 0).getD n)) := by
    intro j hj
    have key : L_X12_isOrdered_14 h 122 (nI (j + 1)) (nI 0) = some ((fst1 (fun k => decide (itm A (D (j + 1)) (g k) ≠ itm A (D j) (g k))) n 0).elim (nI n) nI) := by
      refine iterW_fst (fun k => nI k) _ nI (nI n) n 0 (fun k _ hk => ?_) ?_
      · show B_X12_isOrdered_14 _ _ _ _ = _
        unfold B_X12_isOrdered_14
        have l1 := itm_lt A (D (j + 1)) (g k)
        have l2 := itm_lt A (D j) (g k)
        simp (disch := omega) only [↓m1_n, li_n, li_0, li_1, lt_y, lt_n, le_y, le_n, eq_n, nL, nLe, nEq, nEm, mEn, nLm, mLn, nLem, mLen, nI_add, nI_mul, nI_sub, nI_m, ib_nI, nx_nI, gd_y, bnd_e, bind_y, ↓reduceIte, hI_uI_o, hI_uI_s, hI_uI_e, hL_uI, hI_uL, hL_uL_o, hL_uL_s, hL_uL_e, and1_a, and1_b, Bool.not_true, Bool.not_false, Nat.zero_add, Nat.add_zero, Nat.add_sub_cancel, eq_self, ne_b, g0_0, g0_1, g0_2, g0_3, g0_4, g0_5, g0_6, g0_7, g0_8, g0_9, n1, n2, g3_2, g3_3, g3_4, g3_5, g3_6, g3_7, g3_8, g3_9, n4, n5, n6, n7, n8, n9, g10_2, g10_3, g10_4, g10_5, n11, n12, n13, n14, g15_2, g15_3, g15_4, g15_5, n16, n17, n18, n19, g40_0, g40_1, g40_2, g44_0, g44_2, g44_3, g44_5, g44_6, g44_10, g51_3, g51_4, g51_5, g51_6, g51_7, g57_3, g57_4, g57_5, g57_6, g57_7, n120, n121, g122_0, g122_4, g122_5, g122_6, g122_7, g122_8, g122_18, g122_19, g122_20, g122_21, g122_24, g122_25, g122_28, g122_29, g122_31, g122_32, g122_33, g122_39, g122_40, g122_41, g122_45, g122_46, g122_47, g122_48, n123, n124, n125, n126, n127, n128, n129, n130, n131, n132, n133, n134, n135, n136, n137, n138, n139, n140, n141, n142, n143, n144, n145, n146, k0, (hD (j + 1) hj).1, (hD j (by omega)).1, IT (D (j + 1)) k (hD (j + 1) hj).2 (by omega), IT (D j) k (hD j (by omega)).2 (by omega)]
        by_cases c : itm A (D (j + 1)) (g k) = itm A (D j) (g k) <;> simp [c]
      · show B_X12_isOrdered_14 _ _ _ _ = _
        unfold B_X12_isOrdered_14
        simp (disch := omega) only [↓m1_n, li_n, li_0, li_1, lt_y, lt_n, le_y, le_n, eq_n, nL, nLe, nEq, nEm, mEn, nLm, mLn, nLem, mLen, nI_add, nI_mul, nI_sub, nI_m, ib_nI, nx_nI, gd_y, bnd_e, bind_y, ↓reduceIte, hI_uI_o, hI_uI_s, hI_uI_e, hL_uI, hI_uL, hL_uL_o, hL_uL_s, hL_uL_e, and1_a, and1_b, Bool.not_true, Bool.not_false, Nat.zero_add, Nat.add_zero, Nat.add_sub_cancel, eq_self, ne_b, g0_0, g0_1, g0_2, g0_3, g0_4, g0_5, g0_6, g0_7, g0_8, g0_9, n1, n2, g3_2, g3_3, g3_4, g3_5, g3_6, g3_7, g3_8, g3_9, n4, n5, n6, n7, n8, n9, g10_2, g10_3, g10_4, g10_5, n11, n12, n13, n14, g15_2, g15_3, g15_4, g15_5, n16, n17, n18, n19, g40_0, g40_1, g40_2, g44_0, g44_2, g44_3, g44_5, g44_6, g44_10, g51_3, g51_4, g51_5, g51_6, g51_7, g57_3, g57_4, g57_5, g57_6, g57_7, n120, n121, g122_0, g122_4, g122_5, g122_6, g122_7, g122_8, g122_18, g122_19, g122_20, g122_21, g122_24, g122_25, g122_28, g122_29, g122_31, g122_32, g122_33, g122_39, g122_40, g122_41, g122_45, g122_46, g122_47, g122_48, n123, n124, n125, n126, n127, n128, n129, n130, n131, n132, n133, n134, n135, n136, n137, n138, n139, n140, n141, n142, n143, n144, n145, n146, k0]
    rw [key]
    cases fst1 (fun k => decide (itm A (D (j + 1)) (g k) ≠ itm A (D j) (g k))) n 0 <;> rfl
  rw [← fst1_exB]
  refine iterW_fst (fun j => nI (j + 1)) (desB (rnk A g n) D) (fun _ => nI 0) (nI 1) (oN A - 1) 0 (fun j _ hj => ?_) ?_
  · show B_X12_isOrdered_2 _ _ _ = _
    unfold B_X12_isOrdered_2 J_X12_isOrdered_55
    have lx := hor_lx (fun k => itm_lt A (D (j + 1)) (g k)) (fun k => itm_lt A (D j) (g k)) n
    have I := inner j (by omega)
    cases e : fst1 (fun k => decide (itm A (D (j + 1)) (g k) ≠ itm A (D j) (g k))) n 0 with
    | none =>
      rw [e] at I
      have I' : L_X12_isOrdered_14 h 122 (nI (j + 1)) (nI 0) = some (nI n) := I
      have eq : rnk A g n (D (j + 1)) = rnk A g n (D j) := lx.1 e
      simp (disch := omega) only [↓m1_n, li_n, li_0, li_1, lt_y, lt_n, le_y, le_n, eq_n, nL, nLe, nEq, nEm, mEn, nLm, mLn, nLem, mLen, nI_add, nI_mul, nI_sub, nI_m, ib_nI, nx_nI, gd_y, bnd_e, bind_y, ↓reduceIte, hI_uI_o, hI_uI_s, hI_uI_e, hL_uI, hI_uL, hL_uL_o, hL_uL_s, hL_uL_e, and1_a, and1_b, Bool.not_true, Bool.not_false, Nat.zero_add, Nat.add_zero, Nat.add_sub_cancel, eq_self, ne_b, g0_0, g0_1, g0_2, g0_3, g0_4, g0_5, g0_6, g0_7, g0_8, g0_9, n1, n2, g3_2, g3_3, g3_4, g3_5, g3_6, g3_7, g3_8, g3_9, n4, n5, n6, n7, n8, n9, g10_2, g10_3, g10_4, g10_5, n11, n12, n13, n14, g15_2, g15_3, g15_4, g15_5, n16, n17, n18, n19, g40_0, g40_1, g40_2, g44_0, g44_2, g44_3, g44_5, g44_6, g44_10, g51_3, g51_4, g51_5, g51_6, g51_7, g57_3, g57_4, g57_5, g57_6, g57_7, n120, n121, g122_0, g122_4, g122_5, g122_6, g122_7, g122_8, g122_18, g122_19, g122_20, g122_21, g122_24, g122_25, g122_28, g122_29, g122_31, g122_32, g122_33, g122_39, g122_40, g122_41, g122_45, g122_46, g122_47, g122_48, n123, n124, n125, n126, n127, n128, n129, n130, n131, n132, n133, n134, n135, n136, n137, n138, n139, n140, n141, n142, n143, n144, n145, n146, mNc rm, I', k0]
      rw [if_neg (by simp [desB, eq])]
    | some k =>
      rw [e] at I
      have I' : L_X12_isOrdered_14 h 122 (nI (j + 1)) (nI 0) = some (nI k) := I
      have hk := fst1_lt _ _ _ e
      obtain ⟨z1, z2, z3⟩ := lx.2 k e
      have l1 := itm_lt A (D (j + 1)) (g k)
      have l2 := itm_lt A (D j) (g k)
      simp (disch := omega) only [↓m1_n, li_n, li_0, li_1, lt_y, lt_n, le_y, le_n, eq_n, nL, nLe, nEq, nEm, mEn, nLm, mLn, nLem, mLen, nI_add, nI_mul, nI_sub, nI_m, ib_nI, nx_nI, gd_y, bnd_e, bind_y, ↓reduceIte, hI_uI_o, hI_uI_s, hI_uI_e, hL_uI, hI_uL, hL_uL_o, hL_uL_s, hL_uL_e, and1_a, and1_b, Bool.not_true, Bool.not_false, Nat.zero_add, Nat.add_zero, Nat.add_sub_cancel, eq_self, ne_b, g0_0, g0_1, g0_2, g0_3, g0_4, g0_5, g0_6, g0_7, g0_8, g0_9, n1, n2, g3_2, g3_3, g3_4, g3_5, g3_6, g3_7, g3_8, g3_9, n4, n5, n6, n7, n8, n9, g10_2, g10_3, g10_4, g10_5, n11, n12, n13, n14, g15_2, g15_3, g15_4, g15_5, n16, n17, n18, n19, g40_0, g40_1, g40_2, g44_0, g44_2, g44_3, g44_5, g44_6, g44_10, g51_3, g51_4, g51_5, g51_6, g51_7, g57_3, g57_4, g57_5, g57_6, g57_7, n120, n121, g122_0, g122_4, g122_5, g122_6, g122_7, g122_8, g122_18, g122_19, g122_20, g122_21, g122_24, g122_25, g122_28, g122_29, g122_31, g122_32, g122_33, g122_39, g122_40, g122_41, g122_45, g122_46, g122_47, g122_48, n123, n124, n125, n126, n127, n128, n129, n130, n131, n132, n133, n134, n135, n136, n137, n138, n139, n140, n141, n142, n143, n144, n145, n146, mNc rm, I', k0, (hD (j + 1) (by omega)).1, (hD j (by omega)).1, IT (D (j + 1)) k (hD (j + 1) (by omega)).2 (by omega), IT (D j) k (hD j (by omega)).2 (by omega)]
      by_cases c : itm A (D j) (g k) ≤ itm A (D (j + 1)) (g k)
      · have : rnk A g n (D j) < rnk A g n (D (j + 1)) := z3 (by omega)
        rw [if_pos c, if_neg (by simp [desB]; omega)]
      · have : rnk A g n (D (j + 1)) < rnk A g n (D j) := z2 (by omega)
        rw [if_neg c, if_pos (by simp [desB]; omega)]
  · show B_X12_isOrdered_2 _ _ _ = _
    unfold B_X12_isOrdered_2
    simp (disch := omega) only [↓m1_n, li_n, li_0, li_1, lt_y, lt_n, le_y, le_n, eq_n, nL, nLe, nEq, nEm, mEn, nLm, mLn, nLem, mLen, nI_add, nI_mul, nI_sub, nI_m, ib_nI, nx_nI, gd_y, bnd_e, bind_y, ↓reduceIte, hI_uI_o, hI_uI_s, hI_uI_e, hL_uI, hI_uL, hL_uL_o, hL_uL_s, hL_uL_e, and1_a, and1_b, Bool.not_true, Bool.not_false, Nat.zero_add, Nat.add_zero, Nat.add_sub_cancel, eq_self, ne_b, g0_0, g0_1, g0_2, g0_3, g0_4, g0_5, g0_6, g0_7, g0_8, g0_9, n1, n2, g3_2, g3_3, g3_4, g3_5, g3_6, g3_7, g3_8, g3_9, n4, n5, n6, n7, n8, n9, g10_2, g10_3, g10_4, g10_5, n11, n12, n13, n14, g15_2, g15_3, g15_4, g15_5, n16, n17, n18, n19, g40_0, g40_1, g40_2, g44_0, g44_2, g44_3, g44_5, g44_6, g44_10, g51_3, g51_4, g51_5, g51_6, g51_7, g57_3, g57_4, g57_5, g57_6, g57_7, n120, n121, g122_0, g122_4, g122_5, g122_6, g122_7, g122_8, g122_18, g122_19, g122_20, g122_21, g122_24, g122_25, g122_28, g122_29, g122_31, g122_32, g122_33, g122_39, g122_40, g122_41, g122_45, g122_46, g122_47, g122_48, n123, n124, n125, n126, n127, n128, n129, n130, n131, n132, n133, n134, n135, n136, n137, n138, n139, n140, n141, n142, n143, n144, n145, n146, mNc rm]
theorem FrT.fx {h h' : Hp} (f : FrT h h') : Fx h h' := by
  have E : ∀ d, d ≠ 44 → d ≠ 45 → d ≠ 46 → hI h' d = hI h d := f.1
  refine ⟨fun d s1 _ _ _ s5 _ _ => ⟨E d s5 (by unfold Sc at s1; omega) (by unfold Sc at s1; omega), by rw [f.2.2]⟩, fun k _ _ => by rw [E 0 (by decide) (by decide) (by decide)], fun k _ => by rw [E 122 (by decide) (by decide) (by decide)], fun k _ => by rw [E 40 (by decide) (by decide) (by decide)], fun k k1 k2 => f.2.1 k (by omega), fun k _ => by rw [E 51 (by decide) (by decide) (by decide)], fun k _ => by rw [E 57 (by decide) (by decide) (by decide)], by rw [f.2.2], by rw [f.2.2], by rw [f.2.2]⟩
theorem FrK.fx {h h' : Hp} (f : FrK h h') : Fx h h' := by
  have E : ∀ d, d ≠ 135 → d ≠ 136 → d ≠ 122 → hI h' d = hI h d := f.1
  refine ⟨fun d s1 _ s3 _ _ _ _ => ⟨E d (by unfold Sc at s1; omega) (by unfold Sc at s1; omega) s3, by rw [f.2.2]⟩, fun k _ _ => by rw [E 0 (by decide) (by decide) (by decide)], fun k hk => f.2.1 k (by unfold Kv at hk; omega), fun k _ => by rw [E 40 (by decide) (by decide) (by decide)], fun k k1 k2 => by rw [E 44 (by decide) (by decide) (by decide)], fun k _ => by rw [E 51 (by decide) (by decide) (by decide)], fun k _ => by rw [E 57 (by decide) (by decide) (by decide)], by rw [f.2.2], by rw [f.2.2], by rw [f.2.2]⟩
theorem Fx_134 {h h' : Hp} (e : ∀ d, d ≠ 134 → hI h' d = hI h d) (l : hL h' = hL h) : Fx h h' := Fx_sc (fun d s => ⟨e d (by unfold Sc at s; omega), by rw [l]⟩)
theorem op_ordered (q : Nat) (h : Hp) (x y : Int32) (_ : q < 512) (i : Inv q h) : ∃ h1 h2 r, F_X11_ordered h 0 x y = some (h1, r) ∧ F_X12_ordered h1 122 x y = some (h2, r) ∧ Inv (q + 1) h2 := by
  obtain ⟨A, m, Mk, ok, rc, rm, hm, m1, m2, mk⟩ := id i.1
  have hA := ok.1
  rcases key_x i x y with ⟨s, s0, s1, e1, e2⟩ | ⟨j, n, g, hj, nn1, n4, rfl, rfl, hg, e1, e2⟩
  · obtain ⟨h2, x1, x2⟩ := e2 (uI h 0 10 s) (Up_uI (by decide))
    refine ⟨uI h 0 10 s, uI h2 122 1 s, -1, ?_, ?_, ?_⟩
    · unfold F_X11_ordered
      rw [e1, Option.bind_some, if_neg s0]
      rfl
    · unfold F_X12_ordered
      rw [x1, Option.bind_some]
      dsimp only
      rw [if_neg (Int32.not_le.mpr s1)]
      rfl
    · refine Inv_fx ((Fx_s.trans x2.fx).trans (Fx_m (by unfold Kv; omega))) ?_ i
      rw [hI_uI_e, hI_uI_o (by decide), x2.1 0 (by decide) (by decide) (by decide), hI_uI_e]
  · obtain ⟨h1, a1, a2, a3, a4, a5⟩ := c_takeKey ok rc hj n4 hg
    have IO := c_inOrder (h := h1) (x := 9) (m := oN A) (N := oN A) (rk := rnk A g n) (D := oD A) n9 hA hA (fun k hk => ⟨cDe (a2.rc rc) hk, (ok.2.1 k hk).2.2.2.2⟩) a5 (fun c => rnk_lt n4)
    have u : Up h (uI h1 0 10 (nI 0)) := fun d hd => ⟨by rw [hI_uI_o (by omega), a2.1 d (by omega) (by omega) (by omega)], by rw [hL_uI, a2.2.2]⟩
    obtain ⟨h2, x1, x2, x3, x4⟩ := e2 _ u
    have rm2 : RmH h2 0 A := RmH_congr (x2.1 123 (by decide) (by decide) (by decide)) (u.rm rm)
    obtain ⟨h3, b1, b2, b3, b4⟩ := m_takes ok rm2
    have rm3 : RmH h3 0 A := RmH_congr (b3 123 (by decide)) rm2
    have OR := m_isOrdered (h := h3) (g := g) (n := n) (D := oD A) ok rm3 n4 (fun k hk => (hg k hk).1) (by rw [b3 122 (by decide)]; exact x3) (fun k hk => by rw [b3 135 (by decide), b3 136 (by decide)]; exact x4 k hk) (fun k hk => ⟨b2 k hk, (ok.2.1 k hk).2.2.2.2⟩)
    refine ⟨uI h1 0 10 (nI 0), uI h3 122 1 (nI 0), if exB (desB (rnk A g n) (oD A)) (oN A - 1) then nI 0 else nI 1, ?_, ?_, ?_⟩
    · unfold F_X11_ordered F_X11_answer
      cases eb : exB (desB (rnk A g n) (oD A)) (oN A - 1) with
      | true =>
        rw [eb] at IO
        simp (disch := omega) only [↓m1_n, li_n, li_0, li_1, lt_y, lt_n, le_y, le_n, eq_n, nL, nLe, nEq, nEm, mEn, nLm, mLn, nLem, mLen, nI_add, nI_mul, nI_sub, nI_m, ib_nI, nx_nI, gd_y, bnd_e, bind_y, ↓reduceIte, hI_uI_o, hI_uI_s, hI_uI_e, hL_uI, hI_uL, hL_uL_o, hL_uL_s, hL_uL_e, and1_a, and1_b, Bool.not_true, Bool.not_false, Nat.zero_add, Nat.add_zero, Nat.add_sub_cancel, eq_self, ne_b, g0_0, g0_1, g0_2, g0_3, g0_4, g0_5, g0_6, g0_7, g0_8, g0_9, n1, n2, g3_2, g3_3, g3_4, g3_5, g3_6, g3_7, g3_8, g3_9, n4, n5, n6, n7, n8, n9, g10_2, g10_3, g10_4, g10_5, n11, n12, n13, n14, g15_2, g15_3, g15_4, g15_5, n16, n17, n18, n19, g40_0, g40_1, g40_2, g44_0, g44_2, g44_3, g44_5, g44_6, g44_10, g51_3, g51_4, g51_5, g51_6, g51_7, g57_3, g57_4, g57_5, g57_6, g57_7, n120, n121, g122_0, g122_4, g122_5, g122_6, g122_7, g122_8, g122_18, g122_19, g122_20, g122_21, g122_24, g122_25, g122_28, g122_29, g122_31, g122_32, g122_33, g122_39, g122_40, g122_41, g122_45, g122_46, g122_47, g122_48, n123, n124, n125, n126, n127, n128, n129, n130, n131, n132, n133, n134, n135, n136, n137, n138, n139, n140, n141, n142, n143, n144, n145, n146, e1, gT j hj, gT3 j hj, a1, cNn (a2.rc rc), IO]
      | false =>
        rw [eb] at IO
        simp (disch := omega) only [↓m1_n, li_n, li_0, li_1, lt_y, lt_n, le_y, le_n, eq_n, nL, nLe, nEq, nEm, mEn, nLm, mLn, nLem, mLen, nI_add, nI_mul, nI_sub, nI_m, ib_nI, nx_nI, gd_y, bnd_e, bind_y, ↓reduceIte, hI_uI_o, hI_uI_s, hI_uI_e, hL_uI, hI_uL, hL_uL_o, hL_uL_s, hL_uL_e, and1_a, and1_b, Bool.not_true, Bool.not_false, Nat.zero_add, Nat.add_zero, Nat.add_sub_cancel, eq_self, ne_b, g0_0, g0_1, g0_2, g0_3, g0_4, g0_5, g0_6, g0_7, g0_8, g0_9, n1, n2, g3_2, g3_3, g3_4, g3_5, g3_6, g3_7, g3_8, g3_9, n4, n5, n6, n7, n8, n9, g10_2, g10_3, g10_4, g10_5, n11, n12, n13, n14, g15_2, g15_3, g15_4, g15_5, n16, n17, n18, n19, g40_0, g40_1, g40_2, g44_0, g44_2, g44_3, g44_5, g44_6, g44_10, g51_3, g51_4, g51_5, g51_6, g51_7, g57_3, g57_4, g57_5, g57_6, g57_7, n120, n121, g122_0, g122_4, g122_5, g122_6, g122_7, g122_8, g122_18, g122_19, g122_20, g122_21, g122_24, g122_25, g122_28, g122_29, g122_31, g122_32, g122_33, g122_39, g122_40, g122_41, g122_45, g122_46, g122_47, g122_48, n123, n124, n125, n126, n127, n128, n129, n130, n131, n132, n133, n134, n135, n136, n137, n138, n139, n140, n141, n142, n143, n144, n145, n146, e1, gT j hj, gT3 j hj, a1, cNn (a2.rc rc), IO, Bool.false_eq_true]
    · unfold F_X12_ordered F_X12_gives
      cases eb : exB (desB (rnk A g n) (oD A)) (oN A - 1) with
      | true =>
        rw [eb] at OR
        simp (disch := omega) only [↓m1_n, li_n, li_0, li_1, lt_y, lt_n, le_y, le_n, eq_n, nL, nLe, nEq, nEm, mEn, nLm, mLn, nLem, mLen, nI_add, nI_mul, nI_sub, nI_m, ib_nI, nx_nI, gd_y, bnd_e, bind_y, ↓reduceIte, hI_uI_o, hI_uI_s, hI_uI_e, hL_uI, hI_uL, hL_uL_o, hL_uL_s, hL_uL_e, and1_a, and1_b, Bool.not_true, Bool.not_false, Nat.zero_add, Nat.add_zero, Nat.add_sub_cancel, eq_self, ne_b, g0_0, g0_1, g0_2, g0_3, g0_4, g0_5, g0_6, g0_7, g0_8, g0_9, n1, n2, g3_2, g3_3, g3_4, g3_5, g3_6, g3_7, g3_8, g3_9, n4, n5, n6, n7, n8, n9, g10_2, g10_3, g10_4, g10_5, n11, n12, n13, n14, g15_2, g15_3, g15_4, g15_5, n16, n17, n18, n19, g40_0, g40_1, g40_2, g44_0, g44_2, g44_3, g44_5, g44_6, g44_10, g51_3, g51_4, g51_5, g51_6, g51_7, g57_3, g57_4, g57_5, g57_6, g57_7, n120, n121, g122_0, g122_4, g122_5, g122_6, g122_7, g122_8, g122_18, g122_19, g122_20, g122_21, g122_24, g122_25, g122_28, g122_29, g122_31, g122_32, g122_33, g122_39, g122_40, g122_41, g122_45, g122_46, g122_47, g122_48, n123, n124, n125, n126, n127, n128, n129, n130, n131, n132, n133, n134, n135, n136, n137, n138, n139, n140, n141, n142, n143, n144, n145, n146, x1, b1, OR]
      | false =>
        rw [eb] at OR
        simp (disch := omega) only [↓m1_n, li_n, li_0, li_1, lt_y, lt_n, le_y, le_n, eq_n, nL, nLe, nEq, nEm, mEn, nLm, mLn, nLem, mLen, nI_add, nI_mul, nI_sub, nI_m, ib_nI, nx_nI, gd_y, bnd_e, bind_y, ↓reduceIte, hI_uI_o, hI_uI_s, hI_uI_e, hL_uI, hI_uL, hL_uL_o, hL_uL_s, hL_uL_e, and1_a, and1_b, Bool.not_true, Bool.not_false, Nat.zero_add, Nat.add_zero, Nat.add_sub_cancel, eq_self, ne_b, g0_0, g0_1, g0_2, g0_3, g0_4, g0_5, g0_6, g0_7, g0_8, g0_9, n1, n2, g3_2, g3_3, g3_4, g3_5, g3_6, g3_7, g3_8, g3_9, n4, n5, n6, n7, n8, n9, g10_2, g10_3, g10_4, g10_5, n11, n12, n13, n14, g15_2, g15_3, g15_4, g15_5, n16, n17, n18, n19, g40_0, g40_1, g40_2, g44_0, g44_2, g44_3, g44_5, g44_6, g44_10, g51_3, g51_4, g51_5, g51_6, g51_7, g57_3, g57_4, g57_5, g57_6, g57_7, n120, n121, g122_0, g122_4, g122_5, g122_6, g122_7, g122_8, g122_18, g122_19, g122_20, g122_21, g122_24, g122_25, g122_28, g122_29, g122_31, g122_32, g122_33, g122_39, g122_40, g122_41, g122_45, g122_46, g122_47, g122_48, n123, n124, n125, n126, n127, n128, n129, n130, n131, n132, n133, n134, n135, n136, n137, n138, n139, n140, n141, n142, n143, n144, n145, n146, x1, b1, OR, Bool.false_eq_true]
    · refine Inv_fx ((((a2.fx.trans Fx_s).trans x2.fx).trans (Fx_134 b3 b4)).trans (Fx_m (by unfold Kv; omega))) ?_ i
      rw [hI_uI_e, hI_uI_o (by decide), b3 0 (by decide), x2.1 0 (by decide) (by decide) (by decide), hI_uI_e]
