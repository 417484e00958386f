/-! ===== program: the state of both readers, a step ===== -/
def PcS (h : Hp) (P : Sp) (D T : Nat) (O : Nat → Nat) : Prop := hI h 34 0 = nI T ∧ hI h 34 1 = nI (sN P) ∧ hI h 31 3 = nI D ∧ (∀ j, j < D → hI h 39 j = nI (O j)) ∧ ∀ k, k < sN P → hI h 35 k = nI (sK P k) ∧ (sK P k ≠ 7 → hI h 36 k = nI (sA P k) ∧ hI h 37 k = nI (sB P k)) ∧ (5 ≤ sK P k → ¬ opn O D k → hI h 38 k = nI (sM P k))
def PmS (h : Hp) (P : Sp) (D T : Nat) (O : Nat → Nat) : Prop := hI h 122 23 = nI T ∧ hI h 123 3205 = nI (sN P) ∧ hI h 122 22 = nI D ∧ (∀ j, j < D → hI h 131 j = nI (O j)) ∧ ∀ k, k < sN P → hI h 123 (3636 + 4 * k) = nI (sK P k) ∧ (sK P k ≠ 7 → hI h 123 (3637 + 4 * k) = nI (sA P k) ∧ hI h 123 (3638 + 4 * k) = nI (sB P k)) ∧ (5 ≤ sK P k → ¬ opn O D k → hI h 123 (3639 + 4 * k) = nI (sM P k))
def PS (hc hm : Hp) (f : Nat → Nat) (n p : Nat) (P : Sp) (D T : Nat) (O : Nat → Nat) : Prop := Rd hc 32 f n p ∧ hI hc 32 5 = nI 0 ∧ hI hc 32 6 = mN ∧ RdM hm f n p ∧ hI hm 122 17 = nI 0 ∧ hI hm 122 16 = mN ∧ PcS hc P D T O ∧ PmS hm P D T O ∧ PrOk P D T O
def OutP (hc hm : Hp) (f : Nat → Nat) (n p : Nat) (hc' hm' : Hp) (r : Int32) : Prop := FcB hc hc' ∧ FmB hm hm' ∧ ((r = nI 0 ∧ FltB 32 hc' hm') ∨ (r = nI 1 ∧ ∃ p' P' D' T' O', p < p' ∧ PS hc' hm' f n p' P' D' T' O'))
theorem OutP.fault {hc hm hc' hm' : Hp} {f : Nat → Nat} {n p k s : Nat} (x : FcB hc hc') (y : FmB hm hm') (h0 : 0 < k) (h9 : k < 10) : OutP hc hm f n p (flC hc' 32 k s) (flM hm' k s) (nI 0) := ⟨x.trans (FcB.fl (by decide)), y.trans FmB.fl, Or.inl ⟨rfl, FltB_fl h0 h9⟩⟩
/-- what a step that opens writes -/
def opC (h : Hp) (o : Bool) (D N : Nat) : Hp := if o then uI (uI h 39 D (nI N)) 31 3 (nI (D + 1)) else h
def opM (h : Hp) (o : Bool) (D N : Nat) : Hp := if o then uI (uI h 131 D (nI N)) 122 22 (nI (D + 1)) else h
theorem FmB.w {h : Hp} {k : Nat} {v : Int32} : FmB h (uI h 131 k v) := ⟨fun d _ _ _ x => hI_uI_o x, fun k _ => by rw [hI_uI_o (by decide)], fun k _ => by rw [hI_uI_o (by decide)], fun _ _ _ => rfl⟩
theorem opM_f {h : Hp} {o : Bool} {D N : Nat} : FmB h (opM h o D N) := by
  unfold opM
  cases o with
  | true => exact FmB.w.trans (FmB.s (by decide))
  | false => exact FmB.rf
theorem opC_f {h : Hp} {o : Bool} {D N : Nat} : FcB h (opC h o D N) := by
  unfold opC
  cases o with
  | true => exact (FcB.u (by decide)).trans (FcB.u (by decide))
  | false => exact FcB.rf
theorem opM_o {h : Hp} {o : Bool} {D N d : Nat} (h1 : d ≠ 131) (h2 : d ≠ 122) : hI (opM h o D N) d = hI h d := by
  unfold opM
  cases o with
  | true => rw [if_pos rfl, hI_uI_o h2, hI_uI_o h1]
  | false => rfl
theorem opM_s {h : Hp} {o : Bool} {D N k : Nat} (h1 : k ≠ 22) : hI (opM h o D N) 122 k = hI h 122 k := by
  unfold opM
  cases o with
  | true => rw [if_pos rfl, hI_uI_s h1, hI_uI_o (by decide)]
  | false => rfl
theorem opC_o {h : Hp} {o : Bool} {D N d : Nat} (h1 : d ≠ 39) (h2 : d ≠ 31) : hI (opC h o D N) d = hI h d := by
  unfold opC
  cases o with
  | true => rw [if_pos rfl, hI_uI_o h2, hI_uI_o h1]
  | false => rfl
theorem opC_s {h : Hp} {o : Bool} {D N k : Nat} (h1 : k ≠ 3) : hI (opC h o D N) 31 k = hI h 31 k := by
  unfold opC
  cases o with
  | true => rw [if_pos rfl, hI_uI_s h1, hI_uI_o (by decide)]
  | false => rfl
theorem opC_L {h : Hp} {o : Bool} {D N : Nat} : hL (opC h o D N) = hL h := by unfold opC; cases o <;> rfl
theorem opC_T {h : Hp} {o : Bool} {D N : Nat} : hT (opC h o D N) = hT h := by unfold opC; cases o <;> rfl
theorem opM_L {h : Hp} {o : Bool} {D N : Nat} : hL (opM h o D N) = hL h := by unfold opM; cases o <;> rfl
def isO (k : Nat) : Bool := decide (k = 5 ∨ k = 6)
theorem j357 {h : Hp} {k N D : Nat} {x3 x4 : Int32} (hk : k ≤ 6) (hD : D ≤ 3) (e : hI h 122 22 = nI D) : J_X12_step_357 h 122 (nI k) (nI N) x3 x4 = J_X12_step_444 (opM h (isO k) D N) 122 x4 := by
  unfold J_X12_step_357 J_X12_step_368 J_X12_step_388 opM isO
  by_cases k5 : k = 5
  · subst k5
    simp (disch := omega) only [↓m1_n, li_n, li_0, li_1, lt_y, lt_n, le_y, le_n, eq_n, nL, nLe, nEq, nEm, mEn, nLm, mLn, nLem, mLen, nI_add, nI_mul, nI_sub, nI_m, ib_nI, nx_nI, gd_y, bnd_e, bind_y, ↓reduceIte, hI_uI_o, hI_uI_s, hI_uI_e, hL_uI, hI_uL, hL_uL_o, hL_uL_s, hL_uL_e, and1_a, and1_b, Bool.not_true, Bool.not_false, Nat.zero_add, Nat.add_zero, Nat.add_sub_cancel, eq_self, ne_b, g0_0, g0_1, g0_2, g0_3, g0_4, g0_5, g0_6, g0_7, g0_8, g0_9, n1, n2, g3_2, g3_3, g3_4, g3_5, g3_6, g3_7, g3_8, g3_9, n4, n5, n6, n7, n8, n9, g10_2, g10_3, g10_4, g10_5, n11, n12, n13, n14, g15_2, g15_3, g15_4, g15_5, n16, n17, n18, n19, g40_0, g40_1, g40_2, g44_0, g44_2, g44_3, g44_5, g44_6, g44_10, g51_3, g51_4, g51_5, g51_6, g51_7, g57_3, g57_4, g57_5, g57_6, g57_7, n120, n121, g122_0, g122_4, g122_5, g122_6, g122_7, g122_8, g122_18, g122_19, g122_20, g122_21, g122_24, g122_25, g122_28, g122_29, g122_31, g122_32, g122_33, g122_39, g122_40, g122_41, g122_45, g122_46, g122_47, g122_48, n123, n124, n125, n126, n127, n128, n129, n130, n131, n132, n133, n134, n135, n136, n137, n138, n139, n140, n141, n142, n143, n144, n145, n146, n45, n46, n47, n48, n49, n50, decide_false, Bool.false_eq_true, n20, g21_0, g21_1, g21_2, g21_3, n23, g24_2, g24_3, g24_4, g24_5, n25, n26, n27, n28, n29, n30, g31_0, g31_1, g31_2, n33, g34_2, g34_3, g34_4, g34_5, n35, n36, n37, n38, n39, adC_o, adC_s, adC_L, adM_o, adM_s, adM_L, e, true_or, decide_true]
  · by_cases k6 : k = 6
    · subst k6
      simp (disch := omega) only [↓m1_n, li_n, li_0, li_1, lt_y, lt_n, le_y, le_n, eq_n, nL, nLe, nEq, nEm, mEn, nLm, mLn, nLem, mLen, nI_add, nI_mul, nI_sub, nI_m, ib_nI, nx_nI, gd_y, bnd_e, bind_y, ↓reduceIte, hI_uI_o, hI_uI_s, hI_uI_e, hL_uI, hI_uL, hL_uL_o, hL_uL_s, hL_uL_e, and1_a, and1_b, Bool.not_true, Bool.not_false, Nat.zero_add, Nat.add_zero, Nat.add_sub_cancel, eq_self, ne_b, g0_0, g0_1, g0_2, g0_3, g0_4, g0_5, g0_6, g0_7, g0_8, g0_9, n1, n2, g3_2, g3_3, g3_4, g3_5, g3_6, g3_7, g3_8, g3_9, n4, n5, n6, n7, n8, n9, g10_2, g10_3, g10_4, g10_5, n11, n12, n13, n14, g15_2, g15_3, g15_4, g15_5, n16, n17, n18, n19, g40_0, g40_1, g40_2, g44_0, g44_2, g44_3, g44_5, g44_6, g44_10, g51_3, g51_4, g51_5, g51_6, g51_7, g57_3, g57_4, g57_5, g57_6, g57_7, n120, n121, g122_0, g122_4, g122_5, g122_6, g122_7, g122_8, g122_18, g122_19, g122_20, g122_21, g122_24, g122_25, g122_28, g122_29, g122_31, g122_32, g122_33, g122_39, g122_40, g122_41, g122_45, g122_46, g122_47, g122_48, n123, n124, n125, n126, n127, n128, n129, n130, n131, n132, n133, n134, n135, n136, n137, n138, n139, n140, n141, n142, n143, n144, n145, n146, n45, n46, n47, n48, n49, n50, decide_false, Bool.false_eq_true, n20, g21_0, g21_1, g21_2, g21_3, n23, g24_2, g24_3, g24_4, g24_5, n25, n26, n27, n28, n29, n30, g31_0, g31_1, g31_2, n33, g34_2, g34_3, g34_4, g34_5, n35, n36, n37, n38, n39, adC_o, adC_s, adC_L, adM_o, adM_s, adM_L, e, or_true, decide_true]
    · simp (disch := omega) only [↓m1_n, li_n, li_0, li_1, lt_y, lt_n, le_y, le_n, eq_n, nL, nLe, nEq, nEm, mEn, nLm, mLn, nLem, mLen, nI_add, nI_mul, nI_sub, nI_m, ib_nI, nx_nI, gd_y, bnd_e, bind_y, ↓reduceIte, hI_uI_o, hI_uI_s, hI_uI_e, hL_uI, hI_uL, hL_uL_o, hL_uL_s, hL_uL_e, and1_a, and1_b, Bool.not_true, Bool.not_false, Nat.zero_add, Nat.add_zero, Nat.add_sub_cancel, eq_self, ne_b, g0_0, g0_1, g0_2, g0_3, g0_4, g0_5, g0_6, g0_7, g0_8, g0_9, n1, n2, g3_2, g3_3, g3_4, g3_5, g3_6, g3_7, g3_8, g3_9, n4, n5, n6, n7, n8, n9, g10_2, g10_3, g10_4, g10_5, n11, n12, n13, n14, g15_2, g15_3, g15_4, g15_5, n16, n17, n18, n19, g40_0, g40_1, g40_2, g44_0, g44_2, g44_3, g44_5, g44_6, g44_10, g51_3, g51_4, g51_5, g51_6, g51_7, g57_3, g57_4, g57_5, g57_6, g57_7, n120, n121, g122_0, g122_4, g122_5, g122_6, g122_7, g122_8, g122_18, g122_19, g122_20, g122_21, g122_24, g122_25, g122_28, g122_29, g122_31, g122_32, g122_33, g122_39, g122_40, g122_41, g122_45, g122_46, g122_47, g122_48, n123, n124, n125, n126, n127, n128, n129, n130, n131, n132, n133, n134, n135, n136, n137, n138, n139, n140, n141, n142, n143, n144, n145, n146, n45, n46, n47, n48, n49, n50, decide_false, Bool.false_eq_true, n20, g21_0, g21_1, g21_2, g21_3, n23, g24_2, g24_3, g24_4, g24_5, n25, n26, n27, n28, n29, n30, g31_0, g31_1, g31_2, n33, g34_2, g34_3, g34_4, g34_5, n35, n36, n37, n38, n39, adC_o, adC_s, adC_L, adM_o, adM_s, adM_L, k5, k6, or_self]
theorem c_addS {h : Hp} {N T k : Nat} {a b : Int32} (hN : N < 80) (hT : T < 40) (e0 : hI h 34 0 = nI T) (e1 : hI h 34 1 = nI N) : F_X9_addStep h 34 (nI k) a b = some (uI (uI (uI (uI (uI (uI h 35 N (nI k)) 36 N a) 37 N b) 38 N (nI N)) 34 1 (nI (N + 1))) 34 0 (nI (T + 1))) := by
  unfold F_X9_addStep
  simp (disch := omega) only [↓m1_n, li_n, li_0, li_1, lt_y, lt_n, le_y, le_n, eq_n, nL, nLe, nEq, nEm, mEn, nLm, mLn, nLem, mLen, nI_add, nI_mul, nI_sub, nI_m, ib_nI, nx_nI, gd_y, bnd_e, bind_y, ↓reduceIte, hI_uI_o, hI_uI_s, hI_uI_e, hL_uI, hI_uL, hL_uL_o, hL_uL_s, hL_uL_e, and1_a, and1_b, Bool.not_true, Bool.not_false, Nat.zero_add, Nat.add_zero, Nat.add_sub_cancel, eq_self, ne_b, g0_0, g0_1, g0_2, g0_3, g0_4, g0_5, g0_6, g0_7, g0_8, g0_9, n1, n2, g3_2, g3_3, g3_4, g3_5, g3_6, g3_7, g3_8, g3_9, n4, n5, n6, n7, n8, n9, g10_2, g10_3, g10_4, g10_5, n11, n12, n13, n14, g15_2, g15_3, g15_4, g15_5, n16, n17, n18, n19, g40_0, g40_1, g40_2, g44_0, g44_2, g44_3, g44_5, g44_6, g44_10, g51_3, g51_4, g51_5, g51_6, g51_7, g57_3, g57_4, g57_5, g57_6, g57_7, n120, n121, g122_0, g122_4, g122_5, g122_6, g122_7, g122_8, g122_18, g122_19, g122_20, g122_21, g122_24, g122_25, g122_28, g122_29, g122_31, g122_32, g122_33, g122_39, g122_40, g122_41, g122_45, g122_46, g122_47, g122_48, n123, n124, n125, n126, n127, n128, n129, n130, n131, n132, n133, n134, n135, n136, n137, n138, n139, n140, n141, n142, n143, n144, n145, n146, n45, n46, n47, n48, n49, n50, decide_false, Bool.false_eq_true, n20, g21_0, g21_1, g21_2, g21_3, n23, g24_2, g24_3, g24_4, g24_5, n25, n26, n27, n28, n29, n30, g31_0, g31_1, g31_2, n33, g34_2, g34_3, g34_4, g34_5, n35, n36, n37, n38, n39, adC_o, adC_s, adC_L, adM_o, adM_s, adM_L, e0, e1]
theorem step_x {hc hm : Hp} {f : Nat → Nat} {n p k : Nat} {P : Sp} {D T : Nat} {O : Nat → Nat} (s : PS hc hm f n p P D T O) (k1 : tK f n p = 1) (hk : k ≤ 6) (KH : F_X8_kindHere hc 31 = some (nI k)) (RW : rnW f n p = nI k) : ∃ hc' hm' r, F_X8_readStep hc 31 = some hc' ∧ F_X12_step hm 122 = some (hm', r) ∧ OutP hc hm f n p hc' hm' r := by
  obtain ⟨rd, f5, f6, rm, g17, g16, pc, pm, ok⟩ := s
  have b := rd.rb f5
  have mb := rm.mb g17
  obtain ⟨c0, c1, c3, c39, cK⟩ := id pc
  obtain ⟨m23, m5, m22, m131, mK⟩ := id pm
  obtain ⟨b1, b2, b3⟩ := ok.1
  have hN : sN P ≤ 80 := by omega
  have A0 := rd.go.1
  have q0 := tE_b (f := f) rd.2.1
  obtain ⟨p1, hp1⟩ : ∃ p1, p1 = tE f n p := ⟨_, rfl⟩
  have l0 : p < p1 := by
    have := (tK_1 rd.2.1 k1).1
    have := tS_b (f := f) rd.2.1
    omega
  rw [← hp1] at A0 q0
  obtain ⟨r, hr⟩ : ∃ r, r = 3636 + 4 * sN P := ⟨_, rfl⟩
  -- both up to the step's own row
  have cl : F_X8_readStep hc 31 = if isO k then (if D < 3 then J_X8_readStep_65 hc 31 (nI k) (nI 1) else some (flC hc 32 5 (tS f n p))) else J_X8_readStep_65 hc 31 (nI k) (nI 0) := by
    unfold F_X8_readStep J_X8_readStep_37 J_X8_readStep_42 isO
    by_cases k5 : k = 5
    · subst k5
      by_cases d3 : D < 3
      · simp (disch := omega) only [↓m1_n, li_n, li_0, li_1, lt_y, lt_n, le_y, le_n, eq_n, nL, nLe, nEq, nEm, mEn, nLm, mLn, nLem, mLen, nI_add, nI_mul, nI_sub, nI_m, ib_nI, nx_nI, gd_y, bnd_e, bind_y, ↓reduceIte, hI_uI_o, hI_uI_s, hI_uI_e, hL_uI, hI_uL, hL_uL_o, hL_uL_s, hL_uL_e, and1_a, and1_b, Bool.not_true, Bool.not_false, Nat.zero_add, Nat.add_zero, Nat.add_sub_cancel, eq_self, ne_b, g0_0, g0_1, g0_2, g0_3, g0_4, g0_5, g0_6, g0_7, g0_8, g0_9, n1, n2, g3_2, g3_3, g3_4, g3_5, g3_6, g3_7, g3_8, g3_9, n4, n5, n6, n7, n8, n9, g10_2, g10_3, g10_4, g10_5, n11, n12, n13, n14, g15_2, g15_3, g15_4, g15_5, n16, n17, n18, n19, g40_0, g40_1, g40_2, g44_0, g44_2, g44_3, g44_5, g44_6, g44_10, g51_3, g51_4, g51_5, g51_6, g51_7, g57_3, g57_4, g57_5, g57_6, g57_7, n120, n121, g122_0, g122_4, g122_5, g122_6, g122_7, g122_8, g122_18, g122_19, g122_20, g122_21, g122_24, g122_25, g122_28, g122_29, g122_31, g122_32, g122_33, g122_39, g122_40, g122_41, g122_45, g122_46, g122_47, g122_48, n123, n124, n125, n126, n127, n128, n129, n130, n131, n132, n133, n134, n135, n136, n137, n138, n139, n140, n141, n142, n143, n144, n145, n146, n45, n46, n47, n48, n49, n50, decide_false, Bool.false_eq_true, n20, g21_0, g21_1, g21_2, g21_3, n23, g24_2, g24_3, g24_4, g24_5, n25, n26, n27, n28, n29, n30, g31_0, g31_1, g31_2, n33, g34_2, g34_3, g34_4, g34_5, n35, n36, n37, n38, n39, adC_o, adC_s, adC_L, adM_o, adM_s, adM_L, KH, c3, d3, true_or, decide_true]
      · simp (disch := omega) only [↓m1_n, li_n, li_0, li_1, lt_y, lt_n, le_y, le_n, eq_n, nL, nLe, nEq, nEm, mEn, nLm, mLn, nLem, mLen, nI_add, nI_mul, nI_sub, nI_m, ib_nI, nx_nI, gd_y, bnd_e, bind_y, ↓reduceIte, hI_uI_o, hI_uI_s, hI_uI_e, hL_uI, hI_uL, hL_uL_o, hL_uL_s, hL_uL_e, and1_a, and1_b, Bool.not_true, Bool.not_false, Nat.zero_add, Nat.add_zero, Nat.add_sub_cancel, eq_self, ne_b, g0_0, g0_1, g0_2, g0_3, g0_4, g0_5, g0_6, g0_7, g0_8, g0_9, n1, n2, g3_2, g3_3, g3_4, g3_5, g3_6, g3_7, g3_8, g3_9, n4, n5, n6, n7, n8, n9, g10_2, g10_3, g10_4, g10_5, n11, n12, n13, n14, g15_2, g15_3, g15_4, g15_5, n16, n17, n18, n19, g40_0, g40_1, g40_2, g44_0, g44_2, g44_3, g44_5, g44_6, g44_10, g51_3, g51_4, g51_5, g51_6, g51_7, g57_3, g57_4, g57_5, g57_6, g57_7, n120, n121, g122_0, g122_4, g122_5, g122_6, g122_7, g122_8, g122_18, g122_19, g122_20, g122_21, g122_24, g122_25, g122_28, g122_29, g122_31, g122_32, g122_33, g122_39, g122_40, g122_41, g122_45, g122_46, g122_47, g122_48, n123, n124, n125, n126, n127, n128, n129, n130, n131, n132, n133, n134, n135, n136, n137, n138, n139, n140, n141, n142, n143, n144, n145, n146, n45, n46, n47, n48, n49, n50, decide_false, Bool.false_eq_true, n20, g21_0, g21_1, g21_2, g21_3, n23, g24_2, g24_3, g24_4, g24_5, n25, n26, n27, n28, n29, n30, g31_0, g31_1, g31_2, n33, g34_2, g34_3, g34_4, g34_5, n35, n36, n37, n38, n39, adC_o, adC_s, adC_L, adM_o, adM_s, adM_L, KH, c3, d3, true_or, decide_true, c_tell (k := 5) rd f5]
    · by_cases k6 : k = 6
      · subst k6
        by_cases d3 : D < 3
        · simp (disch := omega) only [↓m1_n, li_n, li_0, li_1, lt_y, lt_n, le_y, le_n, eq_n, nL, nLe, nEq, nEm, mEn, nLm, mLn, nLem, mLen, nI_add, nI_mul, nI_sub, nI_m, ib_nI, nx_nI, gd_y, bnd_e, bind_y, ↓reduceIte, hI_uI_o, hI_uI_s, hI_uI_e, hL_uI, hI_uL, hL_uL_o, hL_uL_s, hL_uL_e, and1_a, and1_b, Bool.not_true, Bool.not_false, Nat.zero_add, Nat.add_zero, Nat.add_sub_cancel, eq_self, ne_b, g0_0, g0_1, g0_2, g0_3, g0_4, g0_5, g0_6, g0_7, g0_8, g0_9, n1, n2, g3_2, g3_3, g3_4, g3_5, g3_6, g3_7, g3_8, g3_9, n4, n5, n6, n7, n8, n9, g10_2, g10_3, g10_4, g10_5, n11, n12, n13, n14, g15_2, g15_3, g15_4, g15_5, n16, n17, n18, n19, g40_0, g40_1, g40_2, g44_0, g44_2, g44_3, g44_5, g44_6, g44_10, g51_3, g51_4, g51_5, g51_6, g51_7, g57_3, g57_4, g57_5, g57_6, g57_7, n120, n121, g122_0, g122_4, g122_5, g122_6, g122_7, g122_8, g122_18, g122_19, g122_20, g122_21, g122_24, g122_25, g122_28, g122_29, g122_31, g122_32, g122_33, g122_39, g122_40, g122_41, g122_45, g122_46, g122_47, g122_48, n123, n124, n125, n126, n127, n128, n129, n130, n131, n132, n133, n134, n135, n136, n137, n138, n139, n140, n141, n142, n143, n144, n145, n146, n45, n46, n47, n48, n49, n50, decide_false, Bool.false_eq_true, n20, g21_0, g21_1, g21_2, g21_3, n23, g24_2, g24_3, g24_4, g24_5, n25, n26, n27, n28, n29, n30, g31_0, g31_1, g31_2, n33, g34_2, g34_3, g34_4, g34_5, n35, n36, n37, n38, n39, adC_o, adC_s, adC_L, adM_o, adM_s, adM_L, KH, c3, d3, or_true, decide_true]
        · simp (disch := omega) only [↓m1_n, li_n, li_0, li_1, lt_y, lt_n, le_y, le_n, eq_n, nL, nLe, nEq, nEm, mEn, nLm, mLn, nLem, mLen, nI_add, nI_mul, nI_sub, nI_m, ib_nI, nx_nI, gd_y, bnd_e, bind_y, ↓reduceIte, hI_uI_o, hI_uI_s, hI_uI_e, hL_uI, hI_uL, hL_uL_o, hL_uL_s, hL_uL_e, and1_a, and1_b, Bool.not_true, Bool.not_false, Nat.zero_add, Nat.add_zero, Nat.add_sub_cancel, eq_self, ne_b, g0_0, g0_1, g0_2, g0_3, g0_4, g0_5, g0_6, g0_7, g0_8, g0_9, n1, n2, g3_2, g3_3, g3_4, g3_5, g3_6, g3_7, g3_8, g3_9, n4, n5, n6, n7, n8, n9, g10_2, g10_3, g10_4, g10_5, n11, n12, n13, n14, g15_2, g15_3, g15_4, g15_5, n16, n17, n18, n19, g40_0, g40_1, g40_2, g44_0, g44_2, g44_3, g44_5, g44_6, g44_10, g51_3, g51_4, g51_5, g51_6, g51_7, g57_3, g57_4, g57_5, g57_6, g57_7, n120, n121, g122_0, g122_4, g122_5, g122_6, g122_7, g122_8, g122_18, g122_19, g122_20, g122_21, g122_24, g122_25, g122_28, g122_29, g122_31, g122_32, g122_33, g122_39, g122_40, g122_41, g122_45, g122_46, g122_47, g122_48, n123, n124, n125, n126, n127, n128, n129, n130, n131, n132, n133, n134, n135, n136, n137, n138, n139, n140, n141, n142, n143, n144, n145, n146, n45, n46, n47, n48, n49, n50, decide_false, Bool.false_eq_true, n20, g21_0, g21_1, g21_2, g21_3, n23, g24_2, g24_3, g24_4, g24_5, n25, n26, n27, n28, n29, n30, g31_0, g31_1, g31_2, n33, g34_2, g34_3, g34_4, g34_5, n35, n36, n37, n38, n39, adC_o, adC_s, adC_L, adM_o, adM_s, adM_L, KH, c3, d3, or_true, decide_true, c_tell (k := 5) rd f5]
      · simp (disch := omega) only [↓m1_n, li_n, li_0, li_1, lt_y, lt_n, le_y, le_n, eq_n, nL, nLe, nEq, nEm, mEn, nLm, mLn, nLem, mLen, nI_add, nI_mul, nI_sub, nI_m, ib_nI, nx_nI, gd_y, bnd_e, bind_y, ↓reduceIte, hI_uI_o, hI_uI_s, hI_uI_e, hL_uI, hI_uL, hL_uL_o, hL_uL_s, hL_uL_e, and1_a, and1_b, Bool.not_true, Bool.not_false, Nat.zero_add, Nat.add_zero, Nat.add_sub_cancel, eq_self, ne_b, g0_0, g0_1, g0_2, g0_3, g0_4, g0_5, g0_6, g0_7, g0_8, g0_9, n1, n2, g3_2, g3_3, g3_4, g3_5, g3_6, g3_7, g3_8, g3_9, n4, n5, n6, n7, n8, n9, g10_2, g10_3, g10_4, g10_5, n11, n12, n13, n14, g15_2, g15_3, g15_4, g15_5, n16, n17, n18, n19, g40_0, g40_1, g40_2, g44_0, g44_2, g44_3, g44_5, g44_6, g44_10, g51_3, g51_4, g51_5, g51_6, g51_7, g57_3, g57_4, g57_5, g57_6, g57_7, n120, n121, g122_0, g122_4, g122_5, g122_6, g122_7, g122_8, g122_18, g122_19, g122_20, g122_21, g122_24, g122_25, g122_28, g122_29, g122_31, g122_32, g122_33, g122_39, g122_40, g122_41, g122_45, g122_46, g122_47, g122_48, n123, n124, n125, n126, n127, n128, n129, n130, n131, n132, n133, n134, n135, n136, n137, n138, n139, n140, n141, n142, n143, n144, n145, n146, n45, n46, n47, n48, n49, n50, decide_false, Bool.false_eq_true, n20, g21_0, g21_1, g21_2, g21_3, n23, g24_2, g24_3, g24_4, g24_5, n25, n26, n27, n28, n29, n30, g31_0, g31_1, g31_2, n33, g34_2, g34_3, g34_4, g34_5, n35, n36, n37, n38, n39, adC_o, adC_s, adC_L, adM_o, adM_s, adM_L, KH, k5, k6, or_self]
  have rf : F_X12_step hm 122 = if isO k then (if D < 3 then J_X12_step_80 hm 122 (nI k) (nI (sN P)) (nI r) else some (flM hm 5 (tS f n p), nI 0)) else J_X12_step_80 hm 122 (nI k) (nI (sN P)) (nI r) := by
    have RW' := m_rnW rm
    rw [RW] at RW'
    unfold F_X12_step J_X12_step_55 J_X12_step_66 isO
    rw [hr]
    by_cases k5 : k = 5
    · subst k5
      by_cases d3 : D < 3
      · simp (disch := omega) only [↓m1_n, li_n, li_0, li_1, lt_y, lt_n, le_y, le_n, eq_n, nL, nLe, nEq, nEm, mEn, nLm, mLn, nLem, mLen, nI_add, nI_mul, nI_sub, nI_m, ib_nI, nx_nI, gd_y, bnd_e, bind_y, ↓reduceIte, hI_uI_o, hI_uI_s, hI_uI_e, hL_uI, hI_uL, hL_uL_o, hL_uL_s, hL_uL_e, and1_a, and1_b, Bool.not_true, Bool.not_false, Nat.zero_add, Nat.add_zero, Nat.add_sub_cancel, eq_self, ne_b, g0_0, g0_1, g0_2, g0_3, g0_4, g0_5, g0_6, g0_7, g0_8, g0_9, n1, n2, g3_2, g3_3, g3_4, g3_5, g3_6, g3_7, g3_8, g3_9, n4, n5, n6, n7, n8, n9, g10_2, g10_3, g10_4, g10_5, n11, n12, n13, n14, g15_2, g15_3, g15_4, g15_5, n16, n17, n18, n19, g40_0, g40_1, g40_2, g44_0, g44_2, g44_3, g44_5, g44_6, g44_10, g51_3, g51_4, g51_5, g51_6, g51_7, g57_3, g57_4, g57_5, g57_6, g57_7, n120, n121, g122_0, g122_4, g122_5, g122_6, g122_7, g122_8, g122_18, g122_19, g122_20, g122_21, g122_24, g122_25, g122_28, g122_29, g122_31, g122_32, g122_33, g122_39, g122_40, g122_41, g122_45, g122_46, g122_47, g122_48, n123, n124, n125, n126, n127, n128, n129, n130, n131, n132, n133, n134, n135, n136, n137, n138, n139, n140, n141, n142, n143, n144, n145, n146, n45, n46, n47, n48, n49, n50, decide_false, Bool.false_eq_true, n20, g21_0, g21_1, g21_2, g21_3, n23, g24_2, g24_3, g24_4, g24_5, n25, n26, n27, n28, n29, n30, g31_0, g31_1, g31_2, n33, g34_2, g34_3, g34_4, g34_5, n35, n36, n37, n38, n39, adC_o, adC_s, adC_L, adM_o, adM_s, adM_L, RW', m5, m22, d3, true_or, decide_true]
      · have : D = 3 := by omega
        simp (disch := omega) only [↓m1_n, li_n, li_0, li_1, lt_y, lt_n, le_y, le_n, eq_n, nL, nLe, nEq, nEm, mEn, nLm, mLn, nLem, mLen, nI_add, nI_mul, nI_sub, nI_m, ib_nI, nx_nI, gd_y, bnd_e, bind_y, ↓reduceIte, hI_uI_o, hI_uI_s, hI_uI_e, hL_uI, hI_uL, hL_uL_o, hL_uL_s, hL_uL_e, and1_a, and1_b, Bool.not_true, Bool.not_false, Nat.zero_add, Nat.add_zero, Nat.add_sub_cancel, eq_self, ne_b, g0_0, g0_1, g0_2, g0_3, g0_4, g0_5, g0_6, g0_7, g0_8, g0_9, n1, n2, g3_2, g3_3, g3_4, g3_5, g3_6, g3_7, g3_8, g3_9, n4, n5, n6, n7, n8, n9, g10_2, g10_3, g10_4, g10_5, n11, n12, n13, n14, g15_2, g15_3, g15_4, g15_5, n16, n17, n18, n19, g40_0, g40_1, g40_2, g44_0, g44_2, g44_3, g44_5, g44_6, g44_10, g51_3, g51_4, g51_5, g51_6, g51_7, g57_3, g57_4, g57_5, g57_6, g57_7, n120, n121, g122_0, g122_4, g122_5, g122_6, g122_7, g122_8, g122_18, g122_19, g122_20, g122_21, g122_24, g122_25, g122_28, g122_29, g122_31, g122_32, g122_33, g122_39, g122_40, g122_41, g122_45, g122_46, g122_47, g122_48, n123, n124, n125, n126, n127, n128, n129, n130, n131, n132, n133, n134, n135, n136, n137, n138, n139, n140, n141, n142, n143, n144, n145, n146, n45, n46, n47, n48, n49, n50, decide_false, Bool.false_eq_true, n20, g21_0, g21_1, g21_2, g21_3, n23, g24_2, g24_3, g24_4, g24_5, n25, n26, n27, n28, n29, n30, g31_0, g31_1, g31_2, n33, g34_2, g34_3, g34_4, g34_5, n35, n36, n37, n38, n39, adC_o, adC_s, adC_L, adM_o, adM_s, adM_L, RW', m5, m22, this, true_or, decide_true, m_failK (k := 5) rm g17 (by omega)]
    · by_cases k6 : k = 6
      · subst k6
        by_cases d3 : D < 3
        · simp (disch := omega) only [↓m1_n, li_n, li_0, li_1, lt_y, lt_n, le_y, le_n, eq_n, nL, nLe, nEq, nEm, mEn, nLm, mLn, nLem, mLen, nI_add, nI_mul, nI_sub, nI_m, ib_nI, nx_nI, gd_y, bnd_e, bind_y, ↓reduceIte, hI_uI_o, hI_uI_s, hI_uI_e, hL_uI, hI_uL, hL_uL_o, hL_uL_s, hL_uL_e, and1_a, and1_b, Bool.not_true, Bool.not_false, Nat.zero_add, Nat.add_zero, Nat.add_sub_cancel, eq_self, ne_b, g0_0, g0_1, g0_2, g0_3, g0_4, g0_5, g0_6, g0_7, g0_8, g0_9, n1, n2, g3_2, g3_3, g3_4, g3_5, g3_6, g3_7, g3_8, g3_9, n4, n5, n6, n7, n8, n9, g10_2, g10_3, g10_4, g10_5, n11, n12, n13, n14, g15_2, g15_3, g15_4, g15_5, n16, n17, n18, n19, g40_0, g40_1, g40_2, g44_0, g44_2, g44_3, g44_5, g44_6, g44_10, g51_3, g51_4, g51_5, g51_6, g51_7, g57_3, g57_4, g57_5, g57_6, g57_7, n120, n121, g122_0, g122_4, g122_5, g122_6, g122_7, g122_8, g122_18, g122_19, g122_20, g122_21, g122_24, g122_25, g122_28, g122_29, g122_31, g122_32, g122_33, g122_39, g122_40, g122_41, g122_45, g122_46, g122_47, g122_48, n123, n124, n125, n126, n127, n128, n129, n130, n131, n132, n133, n134, n135, n136, n137, n138, n139, n140, n141, n142, n143, n144, n145, n146, n45, n46, n47, n48, n49, n50, decide_false, Bool.false_eq_true, n20, g21_0, g21_1, g21_2, g21_3, n23, g24_2, g24_3, g24_4, g24_5, n25, n26, n27, n28, n29, n30, g31_0, g31_1, g31_2, n33, g34_2, g34_3, g34_4, g34_5, n35, n36, n37, n38, n39, adC_o, adC_s, adC_L, adM_o, adM_s, adM_L, RW', m5, m22, d3, or_true, decide_true]
        · have : D = 3 := by omega
          simp (disch := omega) only [↓m1_n, li_n, li_0, li_1, lt_y, lt_n, le_y, le_n, eq_n, nL, nLe, nEq, nEm, mEn, nLm, mLn, nLem, mLen, nI_add, nI_mul, nI_sub, nI_m, ib_nI, nx_nI, gd_y, bnd_e, bind_y, ↓reduceIte, hI_uI_o, hI_uI_s, hI_uI_e, hL_uI, hI_uL, hL_uL_o, hL_uL_s, hL_uL_e, and1_a, and1_b, Bool.not_true, Bool.not_false, Nat.zero_add, Nat.add_zero, Nat.add_sub_cancel, eq_self, ne_b, g0_0, g0_1, g0_2, g0_3, g0_4, g0_5, g0_6, g0_7, g0_8, g0_9, n1, n2, g3_2, g3_3, g3_4, g3_5, g3_6, g3_7, g3_8, g3_9, n4, n5, n6, n7, n8, n9, g10_2, g10_3, g10_4, g10_5, n11, n12, n13, n14, g15_2, g15_3, g15_4, g15_5, n16, n17, n18, n19, g40_0, g40_1, g40_2, g44_0, g44_2, g44_3, g44_5, g44_6, g44_10, g51_3, g51_4, g51_5, g51_6, g51_7, g57_3, g57_4, g57_5, g57_6, g57_7, n120, n121, g122_0, g122_4, g122_5, g122_6, g122_7, g122_8, g122_18, g122_19, g122_20, g122_21, g122_24, g122_25, g122_28, g122_29, g122_31, g122_32, g122_33, g122_39, g122_40, g122_41, g122_45, g122_46, g122_47, g122_48, n123, n124, n125, n126, n127, n128, n129, n130, n131, n132, n133, n134, n135, n136, n137, n138, n139, n140, n141, n142, n143, n144, n145, n146, n45, n46, n47, n48, n49, n50, decide_false, Bool.false_eq_true, n20, g21_0, g21_1, g21_2, g21_3, n23, g24_2, g24_3, g24_4, g24_5, n25, n26, n27, n28, n29, n30, g31_0, g31_1, g31_2, n33, g34_2, g34_3, g34_4, g34_5, n35, n36, n37, n38, n39, adC_o, adC_s, adC_L, adM_o, adM_s, adM_L, RW', m5, m22, this, or_true, decide_true, m_failK (k := 5) rm g17 (by omega)]
      · simp (disch := omega) only [↓m1_n, li_n, li_0, li_1, lt_y, lt_n, le_y, le_n, eq_n, nL, nLe, nEq, nEm, mEn, nLm, mLn, nLem, mLen, nI_add, nI_mul, nI_sub, nI_m, ib_nI, nx_nI, gd_y, bnd_e, bind_y, ↓reduceIte, hI_uI_o, hI_uI_s, hI_uI_e, hL_uI, hI_uL, hL_uL_o, hL_uL_s, hL_uL_e, and1_a, and1_b, Bool.not_true, Bool.not_false, Nat.zero_add, Nat.add_zero, Nat.add_sub_cancel, eq_self, ne_b, g0_0, g0_1, g0_2, g0_3, g0_4, g0_5, g0_6, g0_7, g0_8, g0_9, n1, n2, g3_2, g3_3, g3_4, g3_5, g3_6, g3_7, g3_8, g3_9, n4, n5, n6, n7, n8, n9, g10_2, g10_3, g10_4, g10_5, n11, n12, n13, n14, g15_2, g15_3, g15_4, g15_5, n16, n17, n18, n19, g40_0, g40_1, g40_2, g44_0, g44_2, g44_3, g44_5, g44_6, g44_10, g51_3, g51_4, g51_5, g51_6, g51_7, g57_3, g57_4, g57_5, g57_6, g57_7, n120, n121, g122_0, g122_4, g122_5, g122_6, g122_7, g122_8, g122_18, g122_19, g122_20, g122_21, g122_24, g122_25, g122_28, g122_29, g122_31, g122_32, g122_33, g122_39, g122_40, g122_41, g122_45, g122_46, g122_47, g122_48, n123, n124, n125, n126, n127, n128, n129, n130, n131, n132, n133, n134, n135, n136, n137, n138, n139, n140, n141, n142, n143, n144, n145, n146, n45, n46, n47, n48, n49, n50, decide_false, Bool.false_eq_true, n20, g21_0, g21_1, g21_2, g21_3, n23, g24_2, g24_3, g24_4, g24_5, n25, n26, n27, n28, n29, n30, g31_0, g31_1, g31_2, n33, g34_2, g34_3, g34_4, g34_5, n35, n36, n37, n38, n39, adC_o, adC_s, adC_L, adM_o, adM_s, adM_L, RW', m5, k5, k6, or_self]
  by_cases d3 : isO k = true ∧ ¬ D < 3
  · refine ⟨_, _, _, ?_, ?_, OutP.fault (k := 5) (s := tS f n p) FcB.rf FmB.rf (by decide) (by decide)⟩
    · rw [cl, if_pos d3.1, if_neg d3.2]
    · rw [rf, if_pos d3.1, if_neg d3.2]
  have cl2 : F_X8_readStep hc 31 = J_X8_readStep_65 hc 31 (nI k) (if isO k then nI 1 else nI 0) := by
    rw [cl]
    cases x : isO k with
    | true => rw [if_pos rfl, if_pos (Decidable.of_not_not (fun y => d3 ⟨x, y⟩)), if_pos rfl]
    | false => rfl
  have rf2 : F_X12_step hm 122 = J_X12_step_80 hm 122 (nI k) (nI (sN P)) (nI r) := by
    rw [rf]
    cases x : isO k with
    | true => rw [if_pos rfl, if_pos (Decidable.of_not_not (fun y => d3 ⟨x, y⟩))]
    | false => rfl
  rw [cl2, rf2]
  unfold J_X8_readStep_65 J_X12_step_80 J_X12_step_102
  by_cases t40 : T = 40
  · refine ⟨_, _, _, ?_, ?_, OutP.fault (k := 6) (s := tS f n p) FcB.rf FmB.rf (by decide) (by decide)⟩
    · simp (disch := omega) only [↓m1_n, li_n, li_0, li_1, lt_y, lt_n, le_y, le_n, eq_n, nL, nLe, nEq, nEm, mEn, nLm, mLn, nLem, mLen, nI_add, nI_mul, nI_sub, nI_m, ib_nI, nx_nI, gd_y, bnd_e, bind_y, ↓reduceIte, hI_uI_o, hI_uI_s, hI_uI_e, hL_uI, hI_uL, hL_uL_o, hL_uL_s, hL_uL_e, and1_a, and1_b, Bool.not_true, Bool.not_false, Nat.zero_add, Nat.add_zero, Nat.add_sub_cancel, eq_self, ne_b, g0_0, g0_1, g0_2, g0_3, g0_4, g0_5, g0_6, g0_7, g0_8, g0_9, n1, n2, g3_2, g3_3, g3_4, g3_5, g3_6, g3_7, g3_8, g3_9, n4, n5, n6, n7, n8, n9, g10_2, g10_3, g10_4, g10_5, n11, n12, n13, n14, g15_2, g15_3, g15_4, g15_5, n16, n17, n18, n19, g40_0, g40_1, g40_2, g44_0, g44_2, g44_3, g44_5, g44_6, g44_10, g51_3, g51_4, g51_5, g51_6, g51_7, g57_3, g57_4, g57_5, g57_6, g57_7, n120, n121, g122_0, g122_4, g122_5, g122_6, g122_7, g122_8, g122_18, g122_19, g122_20, g122_21, g122_24, g122_25, g122_28, g122_29, g122_31, g122_32, g122_33, g122_39, g122_40, g122_41, g122_45, g122_46, g122_47, g122_48, n123, n124, n125, n126, n127, n128, n129, n130, n131, n132, n133, n134, n135, n136, n137, n138, n139, n140, n141, n142, n143, n144, n145, n146, n45, n46, n47, n48, n49, n50, decide_false, Bool.false_eq_true, n20, g21_0, g21_1, g21_2, g21_3, n23, g24_2, g24_3, g24_4, g24_5, n25, n26, n27, n28, n29, n30, g31_0, g31_1, g31_2, n33, g34_2, g34_3, g34_4, g34_5, n35, n36, n37, n38, n39, adC_o, adC_s, adC_L, adM_o, adM_s, adM_L, c0, t40, c_tell (k := 6) rd f5]
    · simp (disch := omega) only [↓m1_n, li_n, li_0, li_1, lt_y, lt_n, le_y, le_n, eq_n, nL, nLe, nEq, nEm, mEn, nLm, mLn, nLem, mLen, nI_add, nI_mul, nI_sub, nI_m, ib_nI, nx_nI, gd_y, bnd_e, bind_y, ↓reduceIte, hI_uI_o, hI_uI_s, hI_uI_e, hL_uI, hI_uL, hL_uL_o, hL_uL_s, hL_uL_e, and1_a, and1_b, Bool.not_true, Bool.not_false, Nat.zero_add, Nat.add_zero, Nat.add_sub_cancel, eq_self, ne_b, g0_0, g0_1, g0_2, g0_3, g0_4, g0_5, g0_6, g0_7, g0_8, g0_9, n1, n2, g3_2, g3_3, g3_4, g3_5, g3_6, g3_7, g3_8, g3_9, n4, n5, n6, n7, n8, n9, g10_2, g10_3, g10_4, g10_5, n11, n12, n13, n14, g15_2, g15_3, g15_4, g15_5, n16, n17, n18, n19, g40_0, g40_1, g40_2, g44_0, g44_2, g44_3, g44_5, g44_6, g44_10, g51_3, g51_4, g51_5, g51_6, g51_7, g57_3, g57_4, g57_5, g57_6, g57_7, n120, n121, g122_0, g122_4, g122_5, g122_6, g122_7, g122_8, g122_18, g122_19, g122_20, g122_21, g122_24, g122_25, g122_28, g122_29, g122_31, g122_32, g122_33, g122_39, g122_40, g122_41, g122_45, g122_46, g122_47, g122_48, n123, n124, n125, n126, n127, n128, n129, n130, n131, n132, n133, n134, n135, n136, n137, n138, n139, n140, n141, n142, n143, n144, n145, n146, n45, n46, n47, n48, n49, n50, decide_false, Bool.false_eq_true, n20, g21_0, g21_1, g21_2, g21_3, n23, g24_2, g24_3, g24_4, g24_5, n25, n26, n27, n28, n29, n30, g31_0, g31_1, g31_2, n33, g34_2, g34_3, g34_4, g34_5, n35, n36, n37, n38, n39, adC_o, adC_s, adC_L, adM_o, adM_s, adM_L, m23, t40, m_failK (k := 6) rm g17 (by omega)]
  have T40 : T < 40 := by omega
  have N80 : sN P < 80 := by omega
  obtain ⟨hcb, hhcb⟩ : ∃ hcb, hcb = uI (uI hc 31 4 (nI 0)) 31 5 (nI 0) := ⟨_, rfl⟩
  have bb : Rb hcb 32 f n := by rw [hhcb]; exact (b.uI (by decide) (by decide)).uI (by decide) (by decide)
  have HC : uI (uI (adC hc 32 f n p1) 31 4 (nI 0)) 31 5 (nI 0) = adC hcb 32 f n p1 := by rw [uI_adC (by decide), uI_adC (by decide), hhcb]
  obtain ⟨hmb, hhmb⟩ : ∃ hmb, hmb = uI (uI (uI (uI (uI (uI hm 122 23 (nI (T + 1))) 123 r (nI k)) 123 (r + 1) (nI 0)) 123 (r + 2) (nI 0)) 123 (r + 3) (nI 0)) 123 3205 (nI (sN P + 1)) := ⟨_, rfl⟩
  have rmb : RdM hmb f n p := rm.cg (by rw [hhmb, hI_uI_o (by decide), hI_uI_o (by decide), hI_uI_o (by decide), hI_uI_o (by decide), hI_uI_o (by decide), hI_uI_o (by decide)]) (fun j j1 j2 => by rw [hhmb, hI_uI_o (by decide), hI_uI_o (by decide), hI_uI_o (by decide), hI_uI_o (by decide), hI_uI_o (by decide), hI_uI_s (by omega)])
  have e17 : hI hmb 122 17 = nI 0 := by rw [hhmb, hI_uI_o (by decide), hI_uI_o (by decide), hI_uI_o (by decide), hI_uI_o (by decide), hI_uI_o (by decide), hI_uI_s (by decide)]; exact g17
  have mbb := rmb.mb e17
  have AH : F_X12_ahead hmb 122 = some (adM hmb f n p1) := by rw [hp1]; exact rmb.go.1
  have fmb : FmB hm hmb := by
    rw [hhmb]
    exact (((((FmB.s (by decide)).trans (FmB.u (by omega))).trans (FmB.u (by omega))).trans (FmB.u (by omega))).trans (FmB.u (by omega))).trans (FmB.u (by omega))
  have e22 : hI hmb 122 22 = nI D := by rw [hhmb, hI_uI_o (by decide), hI_uI_o (by decide), hI_uI_o (by decide), hI_uI_o (by decide), hI_uI_o (by decide), hI_uI_s (by decide)]; exact m22
  have J118 : J_X12_step_118 hm 122 (nI k) (nI (sN P)) (nI r) 122 (nI T) (nI 1) = refN (adM hmb f n p1) (nI k) (nI (sN P)) (nI r) := by
    unfold J_X12_step_118 refN
    simp (disch := omega) only [↓m1_n, li_n, li_0, li_1, lt_y, lt_n, le_y, le_n, eq_n, nL, nLe, nEq, nEm, mEn, nLm, mLn, nLem, mLen, nI_add, nI_mul, nI_sub, nI_m, ib_nI, nx_nI, gd_y, bnd_e, bind_y, ↓reduceIte, hI_uI_o, hI_uI_s, hI_uI_e, hL_uI, hI_uL, hL_uL_o, hL_uL_s, hL_uL_e, and1_a, and1_b, Bool.not_true, Bool.not_false, Nat.zero_add, Nat.add_zero, Nat.add_sub_cancel, eq_self, ne_b, g0_0, g0_1, g0_2, g0_3, g0_4, g0_5, g0_6, g0_7, g0_8, g0_9, n1, n2, g3_2, g3_3, g3_4, g3_5, g3_6, g3_7, g3_8, g3_9, n4, n5, n6, n7, n8, n9, g10_2, g10_3, g10_4, g10_5, n11, n12, n13, n14, g15_2, g15_3, g15_4, g15_5, n16, n17, n18, n19, g40_0, g40_1, g40_2, g44_0, g44_2, g44_3, g44_5, g44_6, g44_10, g51_3, g51_4, g51_5, g51_6, g51_7, g57_3, g57_4, g57_5, g57_6, g57_7, n120, n121, g122_0, g122_4, g122_5, g122_6, g122_7, g122_8, g122_18, g122_19, g122_20, g122_21, g122_24, g122_25, g122_28, g122_29, g122_31, g122_32, g122_33, g122_39, g122_40, g122_41, g122_45, g122_46, g122_47, g122_48, n123, n124, n125, n126, n127, n128, n129, n130, n131, n132, n133, n134, n135, n136, n137, n138, n139, n140, n141, n142, n143, n144, n145, n146, n45, n46, n47, n48, n49, n50, decide_false, Bool.false_eq_true, n20, g21_0, g21_1, g21_2, g21_3, n23, g24_2, g24_3, g24_4, g24_5, n25, n26, n27, n28, n29, n30, g31_0, g31_1, g31_2, n33, g34_2, g34_3, g34_4, g34_5, n35, n36, n37, n38, n39, adC_o, adC_s, adC_L, adM_o, adM_s, adM_L, m5, ← hhmb, AH]
  have REF : (if nI k = 7 then J_X12_step_118 hm 122 (nI k) (nI (sN P)) (nI r) 122 (hI hm 122 23) 0 else J_X12_step_118 hm 122 (nI k) (nI (sN P)) (nI r) 122 (hI hm 122 23) 1) = refN (adM hmb f n p1) (nI k) (nI (sN P)) (nI r) := by
    rw [if_neg (show ¬ nI k = 7 from fun e => by have := (nI_eq (b := 7) (by omega) (by decide)).mp e; omega), m23]
    exact J118
  have REF2 : (if nI k = 7 then (if nI k = 7 then J_X12_step_118 hm 122 (nI k) (nI (sN P)) (nI r) 122 (hI hm 122 23) 0 else J_X12_step_118 hm 122 (nI k) (nI (sN P)) (nI r) 122 (hI hm 122 23) 1) else if hI hm 122 23 = 40 then (F_X12_fails hm 122 6).bind (fun r1 => some (r1.1, r1.2 &&& 1)) else (if nI k = 7 then J_X12_step_118 hm 122 (nI k) (nI (sN P)) (nI r) 122 (hI hm 122 23) 0 else J_X12_step_118 hm 122 (nI k) (nI (sN P)) (nI r) 122 (hI hm 122 23) 1)) = refN (adM hmb f n p1) (nI k) (nI (sN P)) (nI r) := by
    rw [if_neg (show ¬ nI k = 7 from fun e => by have := (nI_eq (b := 7) (by omega) (by decide)).mp e; omega), if_neg (show ¬ hI hm 122 23 = 40 from fun e => by rw [m23] at e; have := (nI_eq (b := 40) (by omega) (by decide)).mp e; omega)]
    exact REF
  rw [REF2]
  rcases num_x (hc := hcb) (hm := hmb) (q := p1) (r := r) (x2 := nI (sN P)) hk bb mbb q0.2.1 (by omega) (by rw [hhcb, hI_uI_s (by decide), hI_uI_e]) (by rw [hhcb, hI_uI_e]) (by rw [hhmb, hI_uI_s (by omega), hI_uI_s (by omega), hI_uI_s (by omega), hI_uI_e]) (by rw [hhmb, hI_uI_s (by omega), hI_uI_s (by omega), hI_uI_e]) with ⟨hx, hy, e, sx, u1, u2, u3, u4, u5, u6, u7⟩ | ⟨hx, hy, q', a, bb', u1, u2, u3, ua, ub, u4, u5, u6, u7, u8, u9, u10, u11, u12, u13, u14, u15, u16, u17⟩
  · rw [u4, j357 hk b3 (show hI (flM hy e sx) 122 22 = nI D by unfold flM; rw [hI_uI_s (by decide), hI_uI_s (by decide), u7]; exact e22)]
    refine ⟨flC hx 32 e sx, opM (flM hy e sx) (isO k) D (sN P), nI 0, ?_, ?_, ?_⟩
    · simp (disch := omega) only [↓m1_n, li_n, li_0, li_1, lt_y, lt_n, le_y, le_n, eq_n, nL, nLe, nEq, nEm, mEn, nLm, mLn, nLem, mLen, nI_add, nI_mul, nI_sub, nI_m, ib_nI, nx_nI, gd_y, bnd_e, bind_y, ↓reduceIte, hI_uI_o, hI_uI_s, hI_uI_e, hL_uI, hI_uL, hL_uL_o, hL_uL_s, hL_uL_e, and1_a, and1_b, Bool.not_true, Bool.not_false, Nat.zero_add, Nat.add_zero, Nat.add_sub_cancel, eq_self, ne_b, g0_0, g0_1, g0_2, g0_3, g0_4, g0_5, g0_6, g0_7, g0_8, g0_9, n1, n2, g3_2, g3_3, g3_4, g3_5, g3_6, g3_7, g3_8, g3_9, n4, n5, n6, n7, n8, n9, g10_2, g10_3, g10_4, g10_5, n11, n12, n13, n14, g15_2, g15_3, g15_4, g15_5, n16, n17, n18, n19, g40_0, g40_1, g40_2, g44_0, g44_2, g44_3, g44_5, g44_6, g44_10, g51_3, g51_4, g51_5, g51_6, g51_7, g57_3, g57_4, g57_5, g57_6, g57_7, n120, n121, g122_0, g122_4, g122_5, g122_6, g122_7, g122_8, g122_18, g122_19, g122_20, g122_21, g122_24, g122_25, g122_28, g122_29, g122_31, g122_32, g122_33, g122_39, g122_40, g122_41, g122_45, g122_46, g122_47, g122_48, n123, n124, n125, n126, n127, n128, n129, n130, n131, n132, n133, n134, n135, n136, n137, n138, n139, n140, n141, n142, n143, n144, n145, n146, n45, n46, n47, n48, n49, n50, decide_false, Bool.false_eq_true, n20, g21_0, g21_1, g21_2, g21_3, n23, g24_2, g24_3, g24_4, g24_5, n25, n26, n27, n28, n29, n30, g31_0, g31_1, g31_2, n33, g34_2, g34_3, g34_4, g34_5, n35, n36, n37, n38, n39, adC_o, adC_s, adC_L, adM_o, adM_s, adM_L, c0, A0, HC, u3]
    · unfold J_X12_step_444
      simp (disch := omega) only [↓m1_n, li_n, li_0, li_1, lt_y, lt_n, le_y, le_n, eq_n, nL, nLe, nEq, nEm, mEn, nLm, mLn, nLem, mLen, nI_add, nI_mul, nI_sub, nI_m, ib_nI, nx_nI, gd_y, bnd_e, bind_y, ↓reduceIte, hI_uI_o, hI_uI_s, hI_uI_e, hL_uI, hI_uL, hL_uL_o, hL_uL_s, hL_uL_e, and1_a, and1_b, Bool.not_true, Bool.not_false, Nat.zero_add, Nat.add_zero, Nat.add_sub_cancel, eq_self, ne_b, g0_0, g0_1, g0_2, g0_3, g0_4, g0_5, g0_6, g0_7, g0_8, g0_9, n1, n2, g3_2, g3_3, g3_4, g3_5, g3_6, g3_7, g3_8, g3_9, n4, n5, n6, n7, n8, n9, g10_2, g10_3, g10_4, g10_5, n11, n12, n13, n14, g15_2, g15_3, g15_4, g15_5, n16, n17, n18, n19, g40_0, g40_1, g40_2, g44_0, g44_2, g44_3, g44_5, g44_6, g44_10, g51_3, g51_4, g51_5, g51_6, g51_7, g57_3, g57_4, g57_5, g57_6, g57_7, n120, n121, g122_0, g122_4, g122_5, g122_6, g122_7, g122_8, g122_18, g122_19, g122_20, g122_21, g122_24, g122_25, g122_28, g122_29, g122_31, g122_32, g122_33, g122_39, g122_40, g122_41, g122_45, g122_46, g122_47, g122_48, n123, n124, n125, n126, n127, n128, n129, n130, n131, n132, n133, n134, n135, n136, n137, n138, n139, n140, n141, n142, n143, n144, n145, n146, n45, n46, n47, n48, n49, n50, decide_false, Bool.false_eq_true, n20, g21_0, g21_1, g21_2, g21_3, n23, g24_2, g24_3, g24_4, g24_5, n25, n26, n27, n28, n29, n30, g31_0, g31_1, g31_2, n33, g34_2, g34_3, g34_4, g34_5, n35, n36, n37, n38, n39, adC_o, adC_s, adC_L, adM_o, adM_s, adM_L]
    · refine ⟨(FcB.trans (b := hcb) (by rw [hhcb]; exact (FcB.u (by decide)).trans (FcB.u (by decide))) u5).trans (FcB.fl (by decide)), ((fmb.trans u6).trans FmB.fl).trans opM_f, Or.inl ⟨rfl, e, sx, u1, u2, ?_, ?_, ?_, ?_⟩⟩
      · unfold flC; rw [hI_uI_s (by decide), hI_uI_e]
      · unfold flC; rw [hI_uI_e]
      · rw [opM_s (by decide)]; unfold flM; rw [hI_uI_s (by decide), hI_uI_e]
      · rw [opM_s (by decide)]; unfold flM; rw [hI_uI_e]
  · have eD : hI (adM hy f n q') 122 22 = nI D := by rw [adM_s (by decide) (by decide) (by decide) (by decide), u16 122 (by decide)]; exact e22
    rw [u5, j357 hk b3 eD]
    have rH : RdM (opM (adM hy f n q') (isO k) D (sN P)) f n q' := (u12.rd u2).cg (opM_o (by decide) (by decide)) (fun j j1 j2 => opM_s (by omega))
    have eH : hI (opM (adM hy f n q') (isO k) D (sN P)) 122 17 = nI 0 := by rw [opM_s (by decide)]; exact u12.e7
    have S4 := m_sign rH eH
    have r4 := u6.rd (q := q') u2
    have fm2 : FmB hm hy := fmb.trans ⟨fun d _ x _ _ => u16 d x, fun j _ => by rw [u16 122 (by decide)], fun j hj => u15 j (by omega) (by omega), fun d _ _ => by rw [u17]⟩
    have fc2 : FcB hc hx := FcB.trans (b := hcb) (by rw [hhcb]; exact (FcB.u (by decide)).trans (FcB.u (by decide))) ⟨fun d hd => u9 d (by omega), fun d _ _ => by rw [u11]⟩
    have fm3 : FmB hm (opM (adM hy f n q') (isO k) D (sN P)) := (fm2.trans FmB.ad).trans opM_f
    by_cases k3 : tK f n q' = 3
    · rw [if_pos k3] at S4
      have q5 := tE_b (f := f) (p := q') u2
      have s5 := tS_b (f := f) (p := q') u2
      have C4 : F_X7_takeSign (adC hx 32 f n q') 32 = some (adC hx 32 f n (tE f n q'), nI 1) := by rw [c_sign r4 u6.e5, if_pos k3, adC_ad]
      obtain ⟨p5, hp5⟩ : ∃ p5, p5 = tE f n q' := ⟨_, rfl⟩
      rw [← hp5] at S4 C4 q5
      have hxd : ∀ d, d ≠ 31 → hI hx d = hI hc d := fun d hd => by rw [u9 d hd, hhcb, hI_uI_o hd, hI_uI_o hd]
      have hx3 : hI hx 31 3 = nI D := by rw [u10 3 (by decide) (by decide), hhcb, hI_uI_s (by decide), hI_uI_s (by decide)]; exact c3
      obtain ⟨hz, hhz⟩ : ∃ hz, hz = opC (adC hx 32 f n p5) (isO k) D (sN P) := ⟨_, rfl⟩
      have z34 : hI hz 34 = hI hc 34 := by rw [hhz, opC_o (by decide) (by decide), adC_o (by decide), hxd 34 (by decide)]
      have AS := c_addS (h := hz) (N := sN P) (T := T) (k := k) (a := nI a) (b := nI bb') N80 T40 (by rw [z34]; exact c0) (by rw [z34]; exact c1)
      obtain ⟨hw, hhw⟩ : ∃ hw, hw = uI (uI (uI (uI (uI (uI hz 35 (sN P) (nI k)) 36 (sN P) (nI a)) 37 (sN P) (nI bb')) 38 (sN P) (nI (sN P))) 34 1 (nI (sN P + 1))) 34 0 (nI (T + 1)) := ⟨_, rfl⟩
      rw [← hhw] at AS
      obtain ⟨hv, hhv⟩ : ∃ hv, hv = adM (opM (adM hy f n q') (isO k) D (sN P)) f n p5 := ⟨_, rfl⟩
      have x4 : hI (adC hx 32 f n p5) 31 4 = nI a := by rw [adC_o (by decide)]; exact u7
      have x5 : hI (adC hx 32 f n p5) 31 5 = nI bb' := by rw [adC_o (by decide)]; exact u8
      have x3 : hI (adC hx 32 f n p5) 31 3 = nI D := by rw [adC_o (by decide)]; exact hx3
      have x1 : hI (adC hx 32 f n p5) 34 1 = nI (sN P) := by rw [adC_o (by decide), hxd 34 (by decide)]; exact c1
      have wd : ∀ d, d ≠ 31 → d ≠ 32 → d ≠ 39 → (d < 34 ∨ 38 < d) → hI hw d = hI hc d := fun d a1 a2 a3 a4 => by
        rw [hhw, hI_uI_o (by omega), hI_uI_o (by omega), hI_uI_o (by omega), hI_uI_o (by omega), hI_uI_o (by omega), hI_uI_o (by omega), hhz, opC_o a3 a1, adC_o a2, hxd d a1]
      have w32 : hI hw 32 = hI (adC hx 32 f n p5) 32 := by rw [hhw, hI_uI_o (by decide), hI_uI_o (by decide), hI_uI_o (by decide), hI_uI_o (by decide), hI_uI_o (by decide), hI_uI_o (by decide), hhz, opC_o (by decide) (by decide)]
      have zr : ∀ d, d = 35 ∨ d = 36 ∨ d = 37 ∨ d = 38 → hI hz d = hI hc d := fun d hd => by rw [hhz, opC_o (by omega) (by omega), adC_o (by omega), hxd d (by omega)]
      have v3 : ∀ j, hI hv 123 j = hI hy 123 j := fun j => by rw [hhv, adM_o (by decide), opM_o (by decide) (by decide), adM_o (by decide)]
      have y3 : ∀ j, j ≠ r + 1 → j ≠ r + 2 → hI hv 123 j = hI hmb 123 j := fun j a1 a2 => by rw [v3, u15 j a1 a2]
      have mb3 : ∀ j, (j < r ∨ r + 3 < j) → j ≠ 3205 → hI hmb 123 j = hI hm 123 j := fun j a1 a2 => by rw [hhmb, hI_uI_s a2, hI_uI_s (by omega), hI_uI_s (by omega), hI_uI_s (by omega), hI_uI_s (by omega), hI_uI_o (by decide)]
      have old : ∀ j, 3636 ≤ j → j < r → hI hv 123 j = hI hm 123 j := fun j a1 a2 => by rw [y3 j (by omega) (by omega), mb3 j (by omega) (by omega)]
      refine ⟨hw, hv, nI 1, ?_, ?_, ?_⟩
      · cases xo : isO k with
        | true =>
          rw [xo] at hhz
          have Z : uI (uI (adC hx 32 f n p5) 39 D (nI (sN P))) 31 3 (nI (D + 1)) = hz := by rw [hhz]; rfl
          have d3' : D < 3 := Decidable.of_not_not (fun y => d3 ⟨xo, y⟩)
          have Z4 : hI hz 31 4 = nI a := by rw [hhz, opC_s (by decide)]; exact x4
          have Z5 : hI hz 31 5 = nI bb' := by rw [hhz, opC_s (by decide)]; exact x5
          simp (disch := omega) only [↓m1_n, li_n, li_0, li_1, lt_y, lt_n, le_y, le_n, eq_n, nL, nLe, nEq, nEm, mEn, nLm, mLn, nLem, mLen, nI_add, nI_mul, nI_sub, nI_m, ib_nI, nx_nI, gd_y, bnd_e, bind_y, ↓reduceIte, hI_uI_o, hI_uI_s, hI_uI_e, hL_uI, hI_uL, hL_uL_o, hL_uL_s, hL_uL_e, and1_a, and1_b, Bool.not_true, Bool.not_false, Nat.zero_add, Nat.add_zero, Nat.add_sub_cancel, eq_self, ne_b, g0_0, g0_1, g0_2, g0_3, g0_4, g0_5, g0_6, g0_7, g0_8, g0_9, n1, n2, g3_2, g3_3, g3_4, g3_5, g3_6, g3_7, g3_8, g3_9, n4, n5, n6, n7, n8, n9, g10_2, g10_3, g10_4, g10_5, n11, n12, n13, n14, g15_2, g15_3, g15_4, g15_5, n16, n17, n18, n19, g40_0, g40_1, g40_2, g44_0, g44_2, g44_3, g44_5, g44_6, g44_10, g51_3, g51_4, g51_5, g51_6, g51_7, g57_3, g57_4, g57_5, g57_6, g57_7, n120, n121, g122_0, g122_4, g122_5, g122_6, g122_7, g122_8, g122_18, g122_19, g122_20, g122_21, g122_24, g122_25, g122_28, g122_29, g122_31, g122_32, g122_33, g122_39, g122_40, g122_41, g122_45, g122_46, g122_47, g122_48, n123, n124, n125, n126, n127, n128, n129, n130, n131, n132, n133, n134, n135, n136, n137, n138, n139, n140, n141, n142, n143, n144, n145, n146, n45, n46, n47, n48, n49, n50, decide_false, Bool.false_eq_true, n20, g21_0, g21_1, g21_2, g21_3, n23, g24_2, g24_3, g24_4, g24_5, n25, n26, n27, n28, n29, n30, g31_0, g31_1, g31_2, n33, g34_2, g34_3, g34_4, g34_5, n35, n36, n37, n38, n39, adC_o, adC_s, adC_L, adM_o, adM_s, adM_L, c0, A0, HC, u4, C4, x3, x1, Z, Z4, Z5, u7, u8, AS]
        | false =>
          rw [xo] at hhz
          have Z : hz = adC hx 32 f n p5 := by rw [hhz]; rfl
          rw [Z] at AS
          simp (disch := omega) only [↓m1_n, li_n, li_0, li_1, lt_y, lt_n, le_y, le_n, eq_n, nL, nLe, nEq, nEm, mEn, nLm, mLn, nLem, mLen, nI_add, nI_mul, nI_sub, nI_m, ib_nI, nx_nI, gd_y, bnd_e, bind_y, ↓reduceIte, hI_uI_o, hI_uI_s, hI_uI_e, hL_uI, hI_uL, hL_uL_o, hL_uL_s, hL_uL_e, and1_a, and1_b, Bool.not_true, Bool.not_false, Nat.zero_add, Nat.add_zero, Nat.add_sub_cancel, eq_self, ne_b, g0_0, g0_1, g0_2, g0_3, g0_4, g0_5, g0_6, g0_7, g0_8, g0_9, n1, n2, g3_2, g3_3, g3_4, g3_5, g3_6, g3_7, g3_8, g3_9, n4, n5, n6, n7, n8, n9, g10_2, g10_3, g10_4, g10_5, n11, n12, n13, n14, g15_2, g15_3, g15_4, g15_5, n16, n17, n18, n19, g40_0, g40_1, g40_2, g44_0, g44_2, g44_3, g44_5, g44_6, g44_10, g51_3, g51_4, g51_5, g51_6, g51_7, g57_3, g57_4, g57_5, g57_6, g57_7, n120, n121, g122_0, g122_4, g122_5, g122_6, g122_7, g122_8, g122_18, g122_19, g122_20, g122_21, g122_24, g122_25, g122_28, g122_29, g122_31, g122_32, g122_33, g122_39, g122_40, g122_41, g122_45, g122_46, g122_47, g122_48, n123, n124, n125, n126, n127, n128, n129, n130, n131, n132, n133, n134, n135, n136, n137, n138, n139, n140, n141, n142, n143, n144, n145, n146, n45, n46, n47, n48, n49, n50, decide_false, Bool.false_eq_true, n20, g21_0, g21_1, g21_2, g21_3, n23, g24_2, g24_3, g24_4, g24_5, n25, n26, n27, n28, n29, n30, g31_0, g31_1, g31_2, n33, g34_2, g34_3, g34_4, g34_5, n35, n36, n37, n38, n39, adC_o, adC_s, adC_L, adM_o, adM_s, adM_L, c0, A0, HC, u4, C4, x4, x5, AS]
      · unfold J_X12_step_444
        rw [hhv]
        simp (disch := omega) only [↓m1_n, li_n, li_0, li_1, lt_y, lt_n, le_y, le_n, eq_n, nL, nLe, nEq, nEm, mEn, nLm, mLn, nLem, mLen, nI_add, nI_mul, nI_sub, nI_m, ib_nI, nx_nI, gd_y, bnd_e, bind_y, ↓reduceIte, hI_uI_o, hI_uI_s, hI_uI_e, hL_uI, hI_uL, hL_uL_o, hL_uL_s, hL_uL_e, and1_a, and1_b, Bool.not_true, Bool.not_false, Nat.zero_add, Nat.add_zero, Nat.add_sub_cancel, eq_self, ne_b, g0_0, g0_1, g0_2, g0_3, g0_4, g0_5, g0_6, g0_7, g0_8, g0_9, n1, n2, g3_2, g3_3, g3_4, g3_5, g3_6, g3_7, g3_8, g3_9, n4, n5, n6, n7, n8, n9, g10_2, g10_3, g10_4, g10_5, n11, n12, n13, n14, g15_2, g15_3, g15_4, g15_5, n16, n17, n18, n19, g40_0, g40_1, g40_2, g44_0, g44_2, g44_3, g44_5, g44_6, g44_10, g51_3, g51_4, g51_5, g51_6, g51_7, g57_3, g57_4, g57_5, g57_6, g57_7, n120, n121, g122_0, g122_4, g122_5, g122_6, g122_7, g122_8, g122_18, g122_19, g122_20, g122_21, g122_24, g122_25, g122_28, g122_29, g122_31, g122_32, g122_33, g122_39, g122_40, g122_41, g122_45, g122_46, g122_47, g122_48, n123, n124, n125, n126, n127, n128, n129, n130, n131, n132, n133, n134, n135, n136, n137, n138, n139, n140, n141, n142, n143, n144, n145, n146, n45, n46, n47, n48, n49, n50, decide_false, Bool.false_eq_true, n20, g21_0, g21_1, g21_2, g21_3, n23, g24_2, g24_3, g24_4, g24_5, n25, n26, n27, n28, n29, n30, g31_0, g31_1, g31_2, n33, g34_2, g34_3, g34_4, g34_5, n35, n36, n37, n38, n39, adC_o, adC_s, adC_L, adM_o, adM_s, adM_L, S4]
      · refine ⟨?_, by rw [hhv]; exact fm3.trans FmB.ad, Or.inr ⟨rfl, p5, spS P k a bb', if isO k then D + 1 else D, T + 1, if isO k then upN O D (sN P) else O, by omega, ?_, ?_, ?_, ?_, ?_, ?_, ?_, ?_, ?_⟩⟩
        · rw [hhw, hhz]
          exact (((((((fc2.trans (FcB.ad (by decide))).trans opC_f).trans (FcB.u (by decide))).trans (FcB.u (by decide))).trans (FcB.u (by decide))).trans (FcB.u (by decide))).trans (FcB.u (by decide))).trans (FcB.u (by decide))
        · exact (u6.rd (q := p5) q5.2.1).cg (by rw [wd 2 (by decide) (by decide) (by decide) (by decide), adC_o (by decide), hxd 2 (by decide)]) (by rw [hhw, hhz]; exact opC_T) (fun j _ _ => by rw [w32])
        · rw [w32]; exact u6.e5
        · rw [w32, adC_s (by decide) (by decide) (by decide), hxd 32 (by decide)]; exact f6
        · rw [hhv]; exact RdM_ad q5.2.1 rH.1
        · rw [hhv, adM_s (by decide) (by decide) (by decide) (by decide)]; exact eH
        · rw [hhv, adM_s (by decide) (by decide) (by decide) (by decide), opM_s (by decide), adM_s (by decide) (by decide) (by decide) (by decide), u16 122 (by decide), hhmb, hI_uI_o (by decide), hI_uI_o (by decide), hI_uI_o (by decide), hI_uI_o (by decide), hI_uI_o (by decide), hI_uI_s (by decide)]; exact g16
        · refine ⟨by rw [hhw, hI_uI_e], by rw [hhw, hI_uI_s (by decide), hI_uI_e]; rfl, ?_, fun j hj => ?_, fun j hj => ?_⟩
          · rw [hhw, hI_uI_o (by decide), hI_uI_o (by decide), hI_uI_o (by decide), hI_uI_o (by decide), hI_uI_o (by decide), hI_uI_o (by decide), hhz]
            unfold opC
            cases isO k with
            | true => rw [if_pos rfl, if_pos rfl, hI_uI_e]
            | false => exact x3
          · rw [hhw, hI_uI_o (by decide), hI_uI_o (by decide), hI_uI_o (by decide), hI_uI_o (by decide), hI_uI_o (by decide), hI_uI_o (by decide), hhz]
            unfold opC
            revert hj
            cases isO k with
            | true =>
              intro hj
              have hj : j < D + 1 := hj
              rw [if_pos rfl, if_pos rfl, hI_uI_o (by decide)]
              by_cases x : j = D
              · rw [x, hI_uI_e, upN_e]
              · rw [hI_uI_s x, upN_s x, adC_o (by decide), hxd 39 (by decide)]
                exact c39 j (by omega)
            | false =>
              intro hj
              have hj : j < D := hj
              show hI (adC hx 32 f n p5) 39 j = nI (O j)
              rw [adC_o (by decide), hxd 39 (by decide)]
              exact c39 j hj
          · have hj : j < sN P + 1 := hj
            by_cases x : j = sN P
            · subst x
              have e1 : sK (spS P k a bb') (sN P) = k := upN_e
              have e2 : sA (spS P k a bb') (sN P) = a := upN_e
              have e3 : sB (spS P k a bb') (sN P) = bb' := upN_e
              rw [e1, e2, e3]
              refine ⟨by rw [hhw, hI_uI_o (by decide), hI_uI_o (by decide), hI_uI_o (by decide), hI_uI_o (by decide), hI_uI_o (by decide), hI_uI_e], fun _ => ⟨by rw [hhw, hI_uI_o (by decide), hI_uI_o (by decide), hI_uI_o (by decide), hI_uI_o (by decide), hI_uI_e], by rw [hhw, hI_uI_o (by decide), hI_uI_o (by decide), hI_uI_o (by decide), hI_uI_e]⟩, fun h5 hn => ?_⟩
              exfalso
              have xo : isO k = true := decide_eq_true (by omega)
              rw [xo] at hn
              exact hn ⟨D, by show D < D + 1; omega, upN_e⟩
            · have e1 : sK (spS P k a bb') j = sK P j := upN_s x
              have e2 : sA (spS P k a bb') j = sA P j := upN_s x
              have e3 : sB (spS P k a bb') j = sB P j := upN_s x
              have z := cK j (by omega)
              rw [e1, e2, e3]
              have g35 : hI hw 35 j = hI hc 35 j := by rw [hhw, hI_uI_o (by decide), hI_uI_o (by decide), hI_uI_o (by decide), hI_uI_o (by decide), hI_uI_o (by decide), hI_uI_s x, zr 35 (by decide)]
              have g36 : hI hw 36 j = hI hc 36 j := by rw [hhw, hI_uI_o (by decide), hI_uI_o (by decide), hI_uI_o (by decide), hI_uI_o (by decide), hI_uI_s x, hI_uI_o (by decide), zr 36 (by decide)]
              have g37 : hI hw 37 j = hI hc 37 j := by rw [hhw, hI_uI_o (by decide), hI_uI_o (by decide), hI_uI_o (by decide), hI_uI_s x, hI_uI_o (by decide), hI_uI_o (by decide), zr 37 (by decide)]
              have g38 : hI hw 38 j = hI hc 38 j := by rw [hhw, hI_uI_o (by decide), hI_uI_o (by decide), hI_uI_s x, hI_uI_o (by decide), hI_uI_o (by decide), hI_uI_o (by decide), zr 38 (by decide)]
              rw [g35, g36, g37, g38]
              refine ⟨z.1, z.2.1, fun h5 hn => z.2.2 h5 (fun ⟨i, i1, i2⟩ => hn ?_)⟩
              cases isO k with
              | true => exact ⟨i, by show i < D + 1; omega, (upN_s (by omega)).trans i2⟩
              | false => exact ⟨i, i1, i2⟩
        · refine ⟨?_, ?_, ?_, fun j hj => ?_, fun j hj => ?_⟩
          · rw [hhv, adM_s (by decide) (by decide) (by decide) (by decide), opM_s (by decide), adM_s (by decide) (by decide) (by decide) (by decide), u16 122 (by decide), hhmb, hI_uI_o (by decide), hI_uI_o (by decide), hI_uI_o (by decide), hI_uI_o (by decide), hI_uI_o (by decide), hI_uI_e]
          · rw [y3 _ (by omega) (by omega), hhmb, hI_uI_e]; rfl
          · rw [hhv, adM_s (by decide) (by decide) (by decide) (by decide)]
            unfold opM
            cases isO k with
            | true => rw [if_pos rfl, if_pos rfl, hI_uI_e]
            | false => exact eD
          · rw [hhv, adM_o (by decide)]
            have o131 : hI (adM hy f n q') 131 = hI hm 131 := by rw [adM_o (by decide), u16 131 (by decide), hhmb, hI_uI_o (by decide), hI_uI_o (by decide), hI_uI_o (by decide), hI_uI_o (by decide), hI_uI_o (by decide), hI_uI_o (by decide)]
            unfold opM
            revert hj
            cases isO k with
            | true =>
              intro hj
              have hj : j < D + 1 := hj
              rw [if_pos rfl, if_pos rfl, hI_uI_o (by decide)]
              by_cases x : j = D
              · rw [x, hI_uI_e, upN_e]
              · rw [hI_uI_s x, upN_s x, o131]
                exact m131 j (by omega)
            | false =>
              intro hj
              have hj : j < D := hj
              show hI (adM hy f n q') 131 j = nI (O j)
              rw [o131]
              exact m131 j hj
          · have hj : j < sN P + 1 := hj
            by_cases x : j = sN P
            · subst x
              have e1 : sK (spS P k a bb') (sN P) = k := upN_e
              have e2 : sA (spS P k a bb') (sN P) = a := upN_e
              have e3 : sB (spS P k a bb') (sN P) = bb' := upN_e
              rw [e1, e2, e3, ← hr, show 3637 + 4 * sN P = r + 1 by omega, show 3638 + 4 * sN P = r + 2 by omega]
              refine ⟨by rw [y3 r (by omega) (by omega), hhmb, hI_uI_s (by omega), hI_uI_s (by omega), hI_uI_s (by omega), hI_uI_s (by omega), hI_uI_e], fun _ => ⟨by rw [v3]; exact u13, by rw [v3]; exact u14⟩, fun h5 hn => ?_⟩
              exfalso
              have xo : isO k = true := decide_eq_true (by omega)
              rw [xo] at hn
              exact hn ⟨D, by show D < D + 1; omega, upN_e⟩
            · have e1 : sK (spS P k a bb') j = sK P j := upN_s x
              have e2 : sA (spS P k a bb') j = sA P j := upN_s x
              have e3 : sB (spS P k a bb') j = sB P j := upN_s x
              have z := mK j (by omega)
              rw [e1, e2, e3, old _ (by omega) (by omega), old _ (by omega) (by omega), old _ (by omega) (by omega), old _ (by omega) (by omega)]
              refine ⟨z.1, z.2.1, fun h5 hn => z.2.2 h5 (fun ⟨i, i1, i2⟩ => hn ?_)⟩
              cases isO k with
              | true => exact ⟨i, by show i < D + 1; omega, (upN_s (by omega)).trans i2⟩
              | false => exact ⟨i, i1, i2⟩
        · cases xo : isO k with
          | true =>
            have d3' : D < 3 := Decidable.of_not_not (fun y => d3 ⟨xo, y⟩)
            exact ok.opens T40 d3' (of_decide_eq_true xo) u3
          | false =>
            have xn := of_decide_eq_false xo
            exact ok.step T40 hk (fun e => xn (Or.inl e)) (fun e => xn (Or.inr e)) u3
    · rw [if_neg k3] at S4
      refine ⟨_, _, _, ?_, ?_, OutP.fault (k := misK f n q') (s := tS f n q') (fc2.trans (FcB.ad (c := 32) (f := f) (n := n) (p := q') (by decide))) fm3 mis_b.1 mis_b.2⟩
      · simp (disch := omega) only [↓m1_n, li_n, li_0, li_1, lt_y, lt_n, le_y, le_n, eq_n, nL, nLe, nEq, nEm, mEn, nLm, mLn, nLem, mLen, nI_add, nI_mul, nI_sub, nI_m, ib_nI, nx_nI, gd_y, bnd_e, bind_y, ↓reduceIte, hI_uI_o, hI_uI_s, hI_uI_e, hL_uI, hI_uL, hL_uL_o, hL_uL_s, hL_uL_e, and1_a, and1_b, Bool.not_true, Bool.not_false, Nat.zero_add, Nat.add_zero, Nat.add_sub_cancel, eq_self, ne_b, g0_0, g0_1, g0_2, g0_3, g0_4, g0_5, g0_6, g0_7, g0_8, g0_9, n1, n2, g3_2, g3_3, g3_4, g3_5, g3_6, g3_7, g3_8, g3_9, n4, n5, n6, n7, n8, n9, g10_2, g10_3, g10_4, g10_5, n11, n12, n13, n14, g15_2, g15_3, g15_4, g15_5, n16, n17, n18, n19, g40_0, g40_1, g40_2, g44_0, g44_2, g44_3, g44_5, g44_6, g44_10, g51_3, g51_4, g51_5, g51_6, g51_7, g57_3, g57_4, g57_5, g57_6, g57_7, n120, n121, g122_0, g122_4, g122_5, g122_6, g122_7, g122_8, g122_18, g122_19, g122_20, g122_21, g122_24, g122_25, g122_28, g122_29, g122_31, g122_32, g122_33, g122_39, g122_40, g122_41, g122_45, g122_46, g122_47, g122_48, n123, n124, n125, n126, n127, n128, n129, n130, n131, n132, n133, n134, n135, n136, n137, n138, n139, n140, n141, n142, n143, n144, n145, n146, n45, n46, n47, n48, n49, n50, decide_false, Bool.false_eq_true, n20, g21_0, g21_1, g21_2, g21_3, n23, g24_2, g24_3, g24_4, g24_5, n25, n26, n27, n28, n29, n30, g31_0, g31_1, g31_2, n33, g34_2, g34_3, g34_4, g34_5, n35, n36, n37, n38, n39, adC_o, adC_s, adC_L, adM_o, adM_s, adM_L, c0, A0, HC, u4, c_sign r4 u6.e5, k3]
      · unfold J_X12_step_444
        simp (disch := omega) only [↓m1_n, li_n, li_0, li_1, lt_y, lt_n, le_y, le_n, eq_n, nL, nLe, nEq, nEm, mEn, nLm, mLn, nLem, mLen, nI_add, nI_mul, nI_sub, nI_m, ib_nI, nx_nI, gd_y, bnd_e, bind_y, ↓reduceIte, hI_uI_o, hI_uI_s, hI_uI_e, hL_uI, hI_uL, hL_uL_o, hL_uL_s, hL_uL_e, and1_a, and1_b, Bool.not_true, Bool.not_false, Nat.zero_add, Nat.add_zero, Nat.add_sub_cancel, eq_self, ne_b, g0_0, g0_1, g0_2, g0_3, g0_4, g0_5, g0_6, g0_7, g0_8, g0_9, n1, n2, g3_2, g3_3, g3_4, g3_5, g3_6, g3_7, g3_8, g3_9, n4, n5, n6, n7, n8, n9, g10_2, g10_3, g10_4, g10_5, n11, n12, n13, n14, g15_2, g15_3, g15_4, g15_5, n16, n17, n18, n19, g40_0, g40_1, g40_2, g44_0, g44_2, g44_3, g44_5, g44_6, g44_10, g51_3, g51_4, g51_5, g51_6, g51_7, g57_3, g57_4, g57_5, g57_6, g57_7, n120, n121, g122_0, g122_4, g122_5, g122_6, g122_7, g122_8, g122_18, g122_19, g122_20, g122_21, g122_24, g122_25, g122_28, g122_29, g122_31, g122_32, g122_33, g122_39, g122_40, g122_41, g122_45, g122_46, g122_47, g122_48, n123, n124, n125, n126, n127, n128, n129, n130, n131, n132, n133, n134, n135, n136, n137, n138, n139, n140, n141, n142, n143, n144, n145, n146, n45, n46, n47, n48, n49, n50, decide_false, Bool.false_eq_true, n20, g21_0, g21_1, g21_2, g21_3, n23, g24_2, g24_3, g24_4, g24_5, n25, n26, n27, n28, n29, n30, g31_0, g31_1, g31_2, n33, g34_2, g34_3, g34_4, g34_5, n35, n36, n37, n38, n39, adC_o, adC_s, adC_L, adM_o, adM_s, adM_L, S4]
