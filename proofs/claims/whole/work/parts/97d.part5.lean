/-! ===== parts: the component's answer ===== -/
def svP (A : Ho) (a b k : Nat) : Nat := (fld A (oD A (k - 1)) a b).getD 0
def ltP (A : Ho) (a b x c : Nat) : Bool := decide (x = 0 ∨ svP A a b x < svP A a b c)
def a0P (A : Ho) (c : Nat) : Bool := decide (oK A (oD A (c - 1)) ≠ nI 1)
def a1P (A : Ho) (c : Nat) : Bool := decide (oK A (oD A (c - 1)) ≠ nI 0)
def wtP (A : Ho) (a b : Nat) : Nat := if oN A = 0 then 1 else wt (a0P A) (a1P A) (ltP A a b) (oN A - 1)
def w0P (A : Ho) (a b c : Nat) : Nat := wt (a0P A) (shut (a1P A) c) (ltP A a b) (oN A - 1)
def w1P (A : Ho) (a b c : Nat) : Nat := wt (shut (a0P A) c) (a1P A) (ltP A a b) (oN A - 1)
def sdV (A : Ho) (a b c : Nat) : Int32 := if oK A (oD A (c - 1)) = mN then (if w0P A a b c = 0 then nI 1 else if w0P A a b c = wtP A a b then nI 0 else nI 2) else oK A (oD A (c - 1))
theorem wtP_le {A : Ho} {a b : Nat} (hA : oN A ≤ 30) : wtP A a b ≤ 1073741824 := by
  unfold wtP
  by_cases z : oN A = 0
  · rw [if_pos z]; omega
  · rw [if_neg z]
    refine Nat.le_trans (wt_le _ _ _ _) ?_
    exact Nat.pow_le_pow_right (n := 2) (by decide) (by omega : oN A - 1 + 1 ≤ 30)
theorem wtP_sp {A : Ho} {a b c : Nat} (h1 : 0 < c) (h2 : c ≤ oN A) : wtP A a b = w0P A a b c + w1P A a b c := by
  unfold wtP w0P w1P
  rw [if_neg (by omega)]
  exact wt_split _ _ _ h1 (by omega)
theorem good_sv {A : Ho} {a b n k : Nat} (g : goodS A a b n = true) (hk : k < n) : fld A (oD A k) a b = some (svP A a b (k + 1)) := by
  have : noS A a b k = false := by
    cases e : noS A a b k with
    | false => rfl
    | true =>
      have : exB (noS A a b) n = true := (exB_iff n).mpr ⟨k, hk, e⟩
      unfold goodS at g
      rw [this] at g
      exact absurd g Bool.false_ne_true
  unfold noS at this
  unfold svP
  rw [Nat.add_sub_cancel]
  cases e : fld A (oD A k) a b with
  | none => rw [e] at this; exact absurd this.symm Bool.false_ne_true
  | some w => rfl
theorem sv_lt {A : Ho} {a b n k : Nat} (h6 : b < a + 6) (g : goodS A a b n = true) (hk : k < n) : svP A a b (k + 1) < 1000000 := fld_lt h6 (good_sv g hk)
theorem CP_of {h : Hp} {A : Ho} {q a b : Nat} (ok : HoOk q A) (h6 : b < a + 6) (g : goodS A a b (oN A) = true) (nn : hI h 57 1 = nI (oN A)) (z : hI h 59 0 = mN) (s : ∀ k, k < oN A → hI h 59 (k + 1) = oI (fld A (oD A k) a b) ∧ hI h 60 (k + 1) = oK A (oD A k)) : CP h (oN A) (a0P A) (a1P A) (ltP A a b) := by
  have sv : ∀ c, 1 ≤ c → c ≤ oN A → hI h 59 c = nI (svP A a b c) ∧ svP A a b c < 1000000 := by
    intro c c1 c2
    obtain ⟨k, rfl⟩ : ∃ k, c = k + 1 := ⟨c - 1, by omega⟩
    rw [(s k (by omega)).1, good_sv g (by omega)]
    exact ⟨rfl, sv_lt h6 g (by omega)⟩
  refine ⟨nn, fun c c1 c2 => ?_, fun x c hx c2 => ?_⟩
  · obtain ⟨k, rfl⟩ : ∃ k, c = k + 1 := ⟨c - 1, by omega⟩
    rw [(s k (by omega)).2]
    unfold a0P a1P
    rw [Nat.add_sub_cancel]
    refine ⟨?_, ?_⟩
    · simp
    · simp
  · have c3 := sv c (by omega) c2
    by_cases x0 : x = 0
    · subst x0
      have : ltP A a b 0 c = true := decide_eq_true (Or.inl rfl)
      rw [z, c3.1, this]
      have c4 := c3.2
      generalize svP A a b c = v at *
      refine propext ⟨fun e => ?_, fun e => absurd e.symm Bool.false_ne_true⟩
      exact absurd e (by simp (disch := omega) only [↓m1_n, li_n, li_0, li_1, lt_y, lt_n, le_y, le_n, eq_n, nL, nLe, nEq, nEm, mEn, nLm, mLn, nLem, mLen, nI_add, nI_mul, nI_sub, nI_m, ib_nI, nx_nI, gd_y, bnd_e, bind_y, ↓reduceIte, hI_uI_o, hI_uI_s, hI_uI_e, hL_uI, hI_uL, hL_uL_o, hL_uL_s, hL_uL_e, and1_a, and1_b, Bool.not_true, Bool.not_false, Nat.zero_add, Nat.add_zero, Nat.add_sub_cancel, eq_self, ne_b, g0_0, g0_1, g0_2, g0_3, g0_4, g0_5, g0_6, g0_7, g0_8, g0_9, n1, n2, g3_2, g3_3, g3_4, g3_5, g3_6, g3_7, g3_8, g3_9, n4, n5, n6, n7, n8, n9, g10_2, g10_3, g10_4, g10_5, n11, n12, n13, n14, g15_2, g15_3, g15_4, g15_5, n16, n17, n18, n19, g40_0, g40_1, g40_2, g44_0, g44_2, g44_3, g44_5, g44_6, g44_10, g51_3, g51_4, g51_5, g51_6, g51_7, g57_3, g57_4, g57_5, g57_6, g57_7, n120, n121, g122_0, g122_4, g122_5, g122_6, g122_7, g122_8, g122_18, g122_19, g122_20, g122_21, g122_24, g122_25, g122_28, g122_29, g122_31, g122_32, g122_33, g122_39, g122_40, g122_41, g122_45, g122_46, g122_47, g122_48, n123, n124, n125, n126, n127, n128, n129, n130, n131, n132, n133, n134, n135, n136, n137, n138, n139, n140, n141, n142, n143, n144, n145, n146, not_false_eq_true])
    · have c5 := sv x (by omega) (by omega)
      have c4 := c3.2
      have c6 := c5.2
      rw [c3.1, c5.1]
      unfold ltP
      generalize svP A a b c = v at *
      generalize svP A a b x = u at *
      by_cases l : v ≤ u
      · rw [decide_eq_false (by omega)]
        exact propext ⟨fun _ => rfl, fun _ => (by simp (disch := omega) only [↓m1_n, li_n, li_0, li_1, lt_y, lt_n, le_y, le_n, eq_n, nL, nLe, nEq, nEm, mEn, nLm, mLn, nLem, mLen, nI_add, nI_mul, nI_sub, nI_m, ib_nI, nx_nI, gd_y, bnd_e, bind_y, ↓reduceIte, hI_uI_o, hI_uI_s, hI_uI_e, hL_uI, hI_uL, hL_uL_o, hL_uL_s, hL_uL_e, and1_a, and1_b, Bool.not_true, Bool.not_false, Nat.zero_add, Nat.add_zero, Nat.add_sub_cancel, eq_self, ne_b, g0_0, g0_1, g0_2, g0_3, g0_4, g0_5, g0_6, g0_7, g0_8, g0_9, n1, n2, g3_2, g3_3, g3_4, g3_5, g3_6, g3_7, g3_8, g3_9, n4, n5, n6, n7, n8, n9, g10_2, g10_3, g10_4, g10_5, n11, n12, n13, n14, g15_2, g15_3, g15_4, g15_5, n16, n17, n18, n19, g40_0, g40_1, g40_2, g44_0, g44_2, g44_3, g44_5, g44_6, g44_10, g51_3, g51_4, g51_5, g51_6, g51_7, g57_3, g57_4, g57_5, g57_6, g57_7, n120, n121, g122_0, g122_4, g122_5, g122_6, g122_7, g122_8, g122_18, g122_19, g122_20, g122_21, g122_24, g122_25, g122_28, g122_29, g122_31, g122_32, g122_33, g122_39, g122_40, g122_41, g122_45, g122_46, g122_47, g122_48, n123, n124, n125, n126, n127, n128, n129, n130, n131, n132, n133, n134, n135, n136, n137, n138, n139, n140, n141, n142, n143, n144, n145, n146])⟩
      · rw [decide_eq_true (Or.inr (by omega))]
        exact propext ⟨fun e => absurd e (by simp (disch := omega) only [↓m1_n, li_n, li_0, li_1, lt_y, lt_n, le_y, le_n, eq_n, nL, nLe, nEq, nEm, mEn, nLm, mLn, nLem, mLen, nI_add, nI_mul, nI_sub, nI_m, ib_nI, nx_nI, gd_y, bnd_e, bind_y, ↓reduceIte, hI_uI_o, hI_uI_s, hI_uI_e, hL_uI, hI_uL, hL_uL_o, hL_uL_s, hL_uL_e, and1_a, and1_b, Bool.not_true, Bool.not_false, Nat.zero_add, Nat.add_zero, Nat.add_sub_cancel, eq_self, ne_b, g0_0, g0_1, g0_2, g0_3, g0_4, g0_5, g0_6, g0_7, g0_8, g0_9, n1, n2, g3_2, g3_3, g3_4, g3_5, g3_6, g3_7, g3_8, g3_9, n4, n5, n6, n7, n8, n9, g10_2, g10_3, g10_4, g10_5, n11, n12, n13, n14, g15_2, g15_3, g15_4, g15_5, n16, n17, n18, n19, g40_0, g40_1, g40_2, g44_0, g44_2, g44_3, g44_5, g44_6, g44_10, g51_3, g51_4, g51_5, g51_6, g51_7, g57_3, g57_4, g57_5, g57_6, g57_7, n120, n121, g122_0, g122_4, g122_5, g122_6, g122_7, g122_8, g122_18, g122_19, g122_20, g122_21, g122_24, g122_25, g122_28, g122_29, g122_31, g122_32, g122_33, g122_39, g122_40, g122_41, g122_45, g122_46, g122_47, g122_48, n123, n124, n125, n126, n127, n128, n129, n130, n131, n132, n133, n134, n135, n136, n137, n138, n139, n140, n141, n142, n143, n144, n145, n146, not_false_eq_true]), fun e => absurd e.symm Bool.false_ne_true⟩
theorem c_side {h : Hp} {A : Ho} {q a b c : Nat} (ok : HoOk q A) (cp : CP h (oN A) (a0P A) (a1P A) (ltP A a b)) (k0 : hI h 60 c = oK A (oD A (c - 1))) (t0 : hI h 57 2 = nI (wtP A a b)) (c1 : 1 ≤ c) (c2 : c ≤ oN A) : ∃ h', F_X5_sideOf h 57 (nI c) = some (h', sdV A a b c) ∧ FrW h h' := by
  have hA := ok.1
  have K := (ok.2.1 (oD A (c - 1)) ((ok.2.1 (c - 1) (by omega)).2.2.2.2)).2.2.1
  by_cases km : oK A (oD A (c - 1)) = mN
  · rw [km] at k0
    have cp1 : CP (uI h 60 c (nI 0)) (oN A) (a0P A) (shut (a1P A) c) (ltP A a b) := by
      refine ⟨by rw [hI_uI_o (by decide)]; exact cp.1, fun d d1 d2 => ?_, fun x d p r => by rw [hI_uI_o (by decide)]; exact cp.2.2 x d p r⟩
      by_cases e : d = c
      · subst e
        rw [hI_uI_e, shut_e]
        have : a0P A d = true := by unfold a0P; rw [km]; rfl
        rw [this]
        refine ⟨?_, ?_⟩
        · exact propext ⟨fun e => absurd e (by decide), fun e => absurd e.symm Bool.false_ne_true⟩
        · exact propext ⟨fun _ => rfl, fun _ => rfl⟩
      · rw [hI_uI_s e, shut_o e]
        exact cp.2.1 d d1 d2
    obtain ⟨m, em⟩ : ∃ m, oN A = m + 1 := ⟨oN A - 1, by omega⟩
    have e0 : w0P A a b c = wt (a0P A) (shut (a1P A) c) (ltP A a b) m := by unfold w0P; rw [em]; rfl
    have sp := wtP_sp (A := A) (a := a) (b := b) c1 c2
    have wl := wtP_le (A := A) (a := a) (b := b) hA
    rw [em] at cp1
    obtain ⟨h1, f1, f2⟩ := c_count cp1 (by omega)
    rw [← e0] at f1
    refine ⟨uI h1 60 c mN, ?_, fun d p r => ?_, f2.2⟩
    · have t1 : hI h1 57 2 = nI (wtP A a b) := by rw [f2.1 57 (by decide) (by decide), hI_uI_o (by decide), t0]
      unfold sdV
      rw [if_pos km]
      unfold F_X5_sideOf
      generalize w0P A a b c = w0 at *
      generalize w1P A a b c = w1 at *
      generalize wtP A a b = w at *
      by_cases z0 : w0 = 0
      · simp (disch := omega) only [↓m1_n, li_n, li_0, li_1, lt_y, lt_n, le_y, le_n, eq_n, nL, nLe, nEq, nEm, mEn, nLm, mLn, nLem, mLen, nI_add, nI_mul, nI_sub, nI_m, ib_nI, nx_nI, gd_y, bnd_e, bind_y, ↓reduceIte, hI_uI_o, hI_uI_s, hI_uI_e, hL_uI, hI_uL, hL_uL_o, hL_uL_s, hL_uL_e, and1_a, and1_b, Bool.not_true, Bool.not_false, Nat.zero_add, Nat.add_zero, Nat.add_sub_cancel, eq_self, ne_b, g0_0, g0_1, g0_2, g0_3, g0_4, g0_5, g0_6, g0_7, g0_8, g0_9, n1, n2, g3_2, g3_3, g3_4, g3_5, g3_6, g3_7, g3_8, g3_9, n4, n5, n6, n7, n8, n9, g10_2, g10_3, g10_4, g10_5, n11, n12, n13, n14, g15_2, g15_3, g15_4, g15_5, n16, n17, n18, n19, g40_0, g40_1, g40_2, g44_0, g44_2, g44_3, g44_5, g44_6, g44_10, g51_3, g51_4, g51_5, g51_6, g51_7, g57_3, g57_4, g57_5, g57_6, g57_7, n120, n121, g122_0, g122_4, g122_5, g122_6, g122_7, g122_8, g122_18, g122_19, g122_20, g122_21, g122_24, g122_25, g122_28, g122_29, g122_31, g122_32, g122_33, g122_39, g122_40, g122_41, g122_45, g122_46, g122_47, g122_48, n123, n124, n125, n126, n127, n128, n129, n130, n131, n132, n133, n134, n135, n136, n137, n138, n139, n140, n141, n142, n143, n144, n145, n146, n60, k0, f1, t1, z0]
      · by_cases z1 : w0 = w
        · simp (disch := omega) only [↓m1_n, li_n, li_0, li_1, lt_y, lt_n, le_y, le_n, eq_n, nL, nLe, nEq, nEm, mEn, nLm, mLn, nLem, mLen, nI_add, nI_mul, nI_sub, nI_m, ib_nI, nx_nI, gd_y, bnd_e, bind_y, ↓reduceIte, hI_uI_o, hI_uI_s, hI_uI_e, hL_uI, hI_uL, hL_uL_o, hL_uL_s, hL_uL_e, and1_a, and1_b, Bool.not_true, Bool.not_false, Nat.zero_add, Nat.add_zero, Nat.add_sub_cancel, eq_self, ne_b, g0_0, g0_1, g0_2, g0_3, g0_4, g0_5, g0_6, g0_7, g0_8, g0_9, n1, n2, g3_2, g3_3, g3_4, g3_5, g3_6, g3_7, g3_8, g3_9, n4, n5, n6, n7, n8, n9, g10_2, g10_3, g10_4, g10_5, n11, n12, n13, n14, g15_2, g15_3, g15_4, g15_5, n16, n17, n18, n19, g40_0, g40_1, g40_2, g44_0, g44_2, g44_3, g44_5, g44_6, g44_10, g51_3, g51_4, g51_5, g51_6, g51_7, g57_3, g57_4, g57_5, g57_6, g57_7, n120, n121, g122_0, g122_4, g122_5, g122_6, g122_7, g122_8, g122_18, g122_19, g122_20, g122_21, g122_24, g122_25, g122_28, g122_29, g122_31, g122_32, g122_33, g122_39, g122_40, g122_41, g122_45, g122_46, g122_47, g122_48, n123, n124, n125, n126, n127, n128, n129, n130, n131, n132, n133, n134, n135, n136, n137, n138, n139, n140, n141, n142, n143, n144, n145, n146, n60, k0, f1, t1, z0, z1]
        · simp (disch := omega) only [↓m1_n, li_n, li_0, li_1, lt_y, lt_n, le_y, le_n, eq_n, nL, nLe, nEq, nEm, mEn, nLm, mLn, nLem, mLen, nI_add, nI_mul, nI_sub, nI_m, ib_nI, nx_nI, gd_y, bnd_e, bind_y, ↓reduceIte, hI_uI_o, hI_uI_s, hI_uI_e, hL_uI, hI_uL, hL_uL_o, hL_uL_s, hL_uL_e, and1_a, and1_b, Bool.not_true, Bool.not_false, Nat.zero_add, Nat.add_zero, Nat.add_sub_cancel, eq_self, ne_b, g0_0, g0_1, g0_2, g0_3, g0_4, g0_5, g0_6, g0_7, g0_8, g0_9, n1, n2, g3_2, g3_3, g3_4, g3_5, g3_6, g3_7, g3_8, g3_9, n4, n5, n6, n7, n8, n9, g10_2, g10_3, g10_4, g10_5, n11, n12, n13, n14, g15_2, g15_3, g15_4, g15_5, n16, n17, n18, n19, g40_0, g40_1, g40_2, g44_0, g44_2, g44_3, g44_5, g44_6, g44_10, g51_3, g51_4, g51_5, g51_6, g51_7, g57_3, g57_4, g57_5, g57_6, g57_7, n120, n121, g122_0, g122_4, g122_5, g122_6, g122_7, g122_8, g122_18, g122_19, g122_20, g122_21, g122_24, g122_25, g122_28, g122_29, g122_31, g122_32, g122_33, g122_39, g122_40, g122_41, g122_45, g122_46, g122_47, g122_48, n123, n124, n125, n126, n127, n128, n129, n130, n131, n132, n133, n134, n135, n136, n137, n138, n139, n140, n141, n142, n143, n144, n145, n146, n60, k0, f1, t1, z0, z1]
    · by_cases e : d = 60
      · subst e
        funext k
        by_cases ek : k = c
        · subst ek
          rw [hI_uI_e, k0]
        · rw [hI_uI_s ek, f2.1 60 (by decide) (by decide), hI_uI_s ek]
      · rw [hI_uI_o e, f2.1 d p r, hI_uI_o e]
  · refine ⟨h, ?_, FrW.rf⟩
    unfold sdV
    rw [if_neg km]
    unfold F_X5_sideOf
    simp (disch := omega) only [↓m1_n, li_n, li_0, li_1, lt_y, lt_n, le_y, le_n, eq_n, nL, nLe, nEq, nEm, mEn, nLm, mLn, nLem, mLen, nI_add, nI_mul, nI_sub, nI_m, ib_nI, nx_nI, gd_y, bnd_e, bind_y, ↓reduceIte, hI_uI_o, hI_uI_s, hI_uI_e, hL_uI, hI_uL, hL_uL_o, hL_uL_s, hL_uL_e, and1_a, and1_b, Bool.not_true, Bool.not_false, Nat.zero_add, Nat.add_zero, Nat.add_sub_cancel, eq_self, ne_b, g0_0, g0_1, g0_2, g0_3, g0_4, g0_5, g0_6, g0_7, g0_8, g0_9, n1, n2, g3_2, g3_3, g3_4, g3_5, g3_6, g3_7, g3_8, g3_9, n4, n5, n6, n7, n8, n9, g10_2, g10_3, g10_4, g10_5, n11, n12, n13, n14, g15_2, g15_3, g15_4, g15_5, n16, n17, n18, n19, g40_0, g40_1, g40_2, g44_0, g44_2, g44_3, g44_5, g44_6, g44_10, g51_3, g51_4, g51_5, g51_6, g51_7, g57_3, g57_4, g57_5, g57_6, g57_7, n120, n121, g122_0, g122_4, g122_5, g122_6, g122_7, g122_8, g122_18, g122_19, g122_20, g122_21, g122_24, g122_25, g122_28, g122_29, g122_31, g122_32, g122_33, g122_39, g122_40, g122_41, g122_45, g122_46, g122_47, g122_48, n123, n124, n125, n126, n127, n128, n129, n130, n131, n132, n133, n134, n135, n136, n137, n138, n139, n140, n141, n142, n143, n144, n145, n146, n60, k0, km]
