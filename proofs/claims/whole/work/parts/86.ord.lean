/-! ===== keys ===== -/
/-- what item v takes of card i -/
def itm (A : Ho) (i v : Nat) : Nat := if v / 8 = 0 then rdN (oH A i (v % 8)) else if rdN (oH A i (v % 8)) < 10 then (if v / 8 = 1 then rdN (oH A i (v % 8)) / 5 else rdN (oH A i (v % 8)) % 2) else 2
theorem itm_lt (A : Ho) (i v : Nat) : itm A i v < 16 := by
  have := rdN_le (oH A i (v % 8))
  unfold itm
  repeat' split
  all_goals omega
def hor (f : Nat → Nat) : Nat → Nat
  | 0 => 0
  | n + 1 => hor f n * 16 + f n
theorem hor_lt {f : Nat → Nat} (hf : ∀ k, f k < 16) : ∀ n, hor f n < 16 ^ n := by
  intro n
  induction n with
  | zero => exact Nat.zero_lt_one
  | succ n ih =>
    have := hf n
    rw [hor, Nat.pow_succ]
    omega
theorem hor_lx {f g : Nat → Nat} (hf : ∀ k, f k < 16) (hg : ∀ k, g k < 16) : ∀ n, (fst1 (fun j => decide (f j ≠ g j)) n 0 = none → hor f n = hor g n) ∧ ∀ k, fst1 (fun j => decide (f j ≠ g j)) n 0 = some k → f k ≠ g k ∧ (f k < g k → hor f n < hor g n) ∧ (g k < f k → hor g n < hor f n) := by
  intro n
  induction n with
  | zero => exact ⟨fun _ => rfl, fun k e => by cases e⟩
  | succ n ih =>
    rw [fst1_snoc, Nat.zero_add]
    have f1 := hf n
    have g1 := hg n
    cases e : fst1 (fun j => decide (f j ≠ g j)) n 0 with
    | none =>
      have h0 := ih.1 e
      by_cases c : f n = g n
      · simp only [Option.elim_none]
        rw [if_neg (by simp [c])]
        refine ⟨fun _ => by rw [hor, hor, h0, c], fun k e => by cases e⟩
      · simp only [Option.elim_none]
        rw [if_pos (by simp [c])]
        refine ⟨fun e => (by cases e), fun k e => ?_⟩
        cases e
        rw [hor, hor, h0]
        exact ⟨c, fun _ => by omega, fun _ => by omega⟩
    | some k =>
      have h0 := ih.2 k e
      refine ⟨fun e => (by cases e), fun k' e' => ?_⟩
      cases e'
      rw [hor, hor]
      exact ⟨h0.1, fun l => by have := h0.2.1 l; omega, fun l => by have := h0.2.2 l; omega⟩
/-- a card's rank -/
def rnk (A : Ho) (g : Nat → Nat) (n i : Nat) : Nat := hor (fun k => itm A i (g k)) n
theorem rnk_lt {A : Ho} {g : Nat → Nat} {n i : Nat} (hn : n ≤ 4) : rnk A g n i < 65536 := by
  have h1 := hor_lt (fun k => itm_lt A i (g k)) n
  have h2 : 16 ^ n ≤ 16 ^ 4 := Nat.pow_le_pow_right (by decide) hn
  unfold rnk
  omega
theorem pdv {a d : Nat} (ha : a < 2147483648) (h0 : 0 < d) (hd : d < 2147483648) : nI a / nI d = nI (a / d) := pk_div ha h0 hd
theorem prm {a d : Nat} (ha : a < 2147483648) (h0 : 0 < d) (hd : d < 2147483648) : nI a - nI (a / d) * nI d = nI (a % d) := by rw [← pk_div ha h0 hd]; exact pk_rem ha h0 hd
theorem prm2 {a d : Nat} (h0 : 0 < d) : nI a - nI (a / d * d) = nI (a % d) := by
  have h := Nat.div_add_mod' a d
  rw [nI_sub (by omega)]
  congr 1
  omega
theorem c_taken {h : Hp} {A : Ho} {q i v : Nat} (ok : HoOk q A) (rc : RcH h 3 A) (hi : i < oN A) (hv : v < 24) : F_X6_taken h 3 (nI i) (nI v) = some (nI (itm A i v)) := by
  have hr := rdN_le (oH A i (v % 8))
  have h8 : v % 8 < 8 := Nat.mod_lt _ (by decide)
  have hd : v / 8 < 3 := by omega
  have e1 : nI v - nI v / nI 8 * nI 8 = nI (v % 8) := pk_rem (by omega) (by decide) (by decide)
  have e2 : nI v / nI 8 = nI (v / 8) := pk_div (by omega) (by decide) (by decide)
  have e3 : nI (rdN (oH A i (v % 8))) - nI (rdN (oH A i (v % 8))) / nI 2 * nI 2 = nI (rdN (oH A i (v % 8)) % 2) := pk_rem (by omega) (by decide) (by decide)
  have e4 : nI (rdN (oH A i (v % 8))) / nI 5 = nI (rdN (oH A i (v % 8)) / 5) := pk_div (by omega) (by decide) (by decide)
  have C := c_reading ok rc hi h8
  unfold F_X6_taken itm
  rw [show (8 : Int32) = nI 8 from rfl, show (2 : Int32) = nI 2 from rfl, show (5 : Int32) = nI 5 from rfl, e1, e2, C, Option.bind_some, e3, e4]
  generalize rdN (oH A i (v % 8)) = r at *
  generalize v / 8 = w at *
  by_cases c0 : w = 0
  · simp (disch := omega) only [↓m1_n, li_n, li_0, li_1, lt_y, lt_n, le_y, le_n, eq_n, nL, nLe, nEq, nEm, mEn, nLm, mLn, nLem, mLen, nI_add, nI_mul, nI_sub, nI_m, ib_nI, nx_nI, gd_y, bnd_e, bind_y, ↓reduceIte, hI_uI_o, hI_uI_s, hI_uI_e, hL_uI, hI_uL, hL_uL_o, hL_uL_s, hL_uL_e, and1_a, and1_b, Bool.not_true, Bool.not_false, Nat.zero_add, Nat.add_zero, Nat.add_sub_cancel, eq_self, ne_b, g0_0, g0_1, g0_2, g0_3, g0_4, g0_5, g0_6, g0_7, g0_8, g0_9, n1, n2, g3_2, g3_3, g3_4, g3_5, g3_6, g3_7, g3_8, g3_9, n4, n5, n6, n7, n8, n9, g10_2, g10_3, g10_4, g10_5, n11, n12, n13, n14, g15_2, g15_3, g15_4, g15_5, n16, n17, n18, n19, g40_0, g40_1, g40_2, g44_0, g44_2, g44_3, g44_5, g44_6, g44_10, g51_3, g51_4, g51_5, g51_6, g51_7, g57_3, g57_4, g57_5, g57_6, g57_7, n120, n121, g122_0, g122_4, g122_5, g122_6, g122_7, g122_8, g122_18, g122_19, g122_20, g122_21, g122_24, g122_25, g122_28, g122_29, g122_31, g122_32, g122_33, g122_39, g122_40, g122_41, g122_45, g122_46, g122_47, g122_48, n123, n124, n125, n126, n127, n128, n129, n130, n131, n132, n133, n134, n135, n136, n137, n138, n139, n140, n141, n142, n143, n144, n145, n146, c0]
  · by_cases c1 : r < 10
    · by_cases c2 : w = 1
      · simp (disch := omega) only [↓m1_n, li_n, li_0, li_1, lt_y, lt_n, le_y, le_n, eq_n, nL, nLe, nEq, nEm, mEn, nLm, mLn, nLem, mLen, nI_add, nI_mul, nI_sub, nI_m, ib_nI, nx_nI, gd_y, bnd_e, bind_y, ↓reduceIte, hI_uI_o, hI_uI_s, hI_uI_e, hL_uI, hI_uL, hL_uL_o, hL_uL_s, hL_uL_e, and1_a, and1_b, Bool.not_true, Bool.not_false, Nat.zero_add, Nat.add_zero, Nat.add_sub_cancel, eq_self, ne_b, g0_0, g0_1, g0_2, g0_3, g0_4, g0_5, g0_6, g0_7, g0_8, g0_9, n1, n2, g3_2, g3_3, g3_4, g3_5, g3_6, g3_7, g3_8, g3_9, n4, n5, n6, n7, n8, n9, g10_2, g10_3, g10_4, g10_5, n11, n12, n13, n14, g15_2, g15_3, g15_4, g15_5, n16, n17, n18, n19, g40_0, g40_1, g40_2, g44_0, g44_2, g44_3, g44_5, g44_6, g44_10, g51_3, g51_4, g51_5, g51_6, g51_7, g57_3, g57_4, g57_5, g57_6, g57_7, n120, n121, g122_0, g122_4, g122_5, g122_6, g122_7, g122_8, g122_18, g122_19, g122_20, g122_21, g122_24, g122_25, g122_28, g122_29, g122_31, g122_32, g122_33, g122_39, g122_40, g122_41, g122_45, g122_46, g122_47, g122_48, n123, n124, n125, n126, n127, n128, n129, n130, n131, n132, n133, n134, n135, n136, n137, n138, n139, n140, n141, n142, n143, n144, n145, n146, c0, c1, c2]
      · simp (disch := omega) only [↓m1_n, li_n, li_0, li_1, lt_y, lt_n, le_y, le_n, eq_n, nL, nLe, nEq, nEm, mEn, nLm, mLn, nLem, mLen, nI_add, nI_mul, nI_sub, nI_m, ib_nI, nx_nI, gd_y, bnd_e, bind_y, ↓reduceIte, hI_uI_o, hI_uI_s, hI_uI_e, hL_uI, hI_uL, hL_uL_o, hL_uL_s, hL_uL_e, and1_a, and1_b, Bool.not_true, Bool.not_false, Nat.zero_add, Nat.add_zero, Nat.add_sub_cancel, eq_self, ne_b, g0_0, g0_1, g0_2, g0_3, g0_4, g0_5, g0_6, g0_7, g0_8, g0_9, n1, n2, g3_2, g3_3, g3_4, g3_5, g3_6, g3_7, g3_8, g3_9, n4, n5, n6, n7, n8, n9, g10_2, g10_3, g10_4, g10_5, n11, n12, n13, n14, g15_2, g15_3, g15_4, g15_5, n16, n17, n18, n19, g40_0, g40_1, g40_2, g44_0, g44_2, g44_3, g44_5, g44_6, g44_10, g51_3, g51_4, g51_5, g51_6, g51_7, g57_3, g57_4, g57_5, g57_6, g57_7, n120, n121, g122_0, g122_4, g122_5, g122_6, g122_7, g122_8, g122_18, g122_19, g122_20, g122_21, g122_24, g122_25, g122_28, g122_29, g122_31, g122_32, g122_33, g122_39, g122_40, g122_41, g122_45, g122_46, g122_47, g122_48, n123, n124, n125, n126, n127, n128, n129, n130, n131, n132, n133, n134, n135, n136, n137, n138, n139, n140, n141, n142, n143, n144, n145, n146, c0, c1, c2]
    · simp (disch := omega) only [↓m1_n, li_n, li_0, li_1, lt_y, lt_n, le_y, le_n, eq_n, nL, nLe, nEq, nEm, mEn, nLm, mLn, nLem, mLen, nI_add, nI_mul, nI_sub, nI_m, ib_nI, nx_nI, gd_y, bnd_e, bind_y, ↓reduceIte, hI_uI_o, hI_uI_s, hI_uI_e, hL_uI, hI_uL, hL_uL_o, hL_uL_s, hL_uL_e, and1_a, and1_b, Bool.not_true, Bool.not_false, Nat.zero_add, Nat.add_zero, Nat.add_sub_cancel, eq_self, ne_b, g0_0, g0_1, g0_2, g0_3, g0_4, g0_5, g0_6, g0_7, g0_8, g0_9, n1, n2, g3_2, g3_3, g3_4, g3_5, g3_6, g3_7, g3_8, g3_9, n4, n5, n6, n7, n8, n9, g10_2, g10_3, g10_4, g10_5, n11, n12, n13, n14, g15_2, g15_3, g15_4, g15_5, n16, n17, n18, n19, g40_0, g40_1, g40_2, g44_0, g44_2, g44_3, g44_5, g44_6, g44_10, g51_3, g51_4, g51_5, g51_6, g51_7, g57_3, g57_4, g57_5, g57_6, g57_7, n120, n121, g122_0, g122_4, g122_5, g122_6, g122_7, g122_8, g122_18, g122_19, g122_20, g122_21, g122_24, g122_25, g122_28, g122_29, g122_31, g122_32, g122_33, g122_39, g122_40, g122_41, g122_45, g122_46, g122_47, g122_48, n123, n124, n125, n126, n127, n128, n129, n130, n131, n132, n133, n134, n135, n136, n137, n138, n139, n140, n141, n142, n143, n144, n145, n146, c0, c1]
theorem m_itemOf {h : Hp} {A : Ho} {q i k v : Nat} (ok : HoOk q A) (rm : RmH h 0 A) (hi : i < oN A) (hv : v < 24) (hk : k < 4) (k1 : hI h 135 k = nI (v % 8)) (k2 : hI h 136 k = nI (v / 8)) : F_X12_itemOf h 122 (nI i) (nI k) = some (nI (itm A i v)) := by
  have hr := rdN_le (oH A i (v % 8))
  have h8 : v % 8 < 8 := Nat.mod_lt _ (by decide)
  have hd : v / 8 < 3 := by omega
  have e3 : nI (rdN (oH A i (v % 8))) - nI (rdN (oH A i (v % 8))) / nI 2 * nI 2 = nI (rdN (oH A i (v % 8)) % 2) := pk_rem (by omega) (by decide) (by decide)
  have e4 : nI (rdN (oH A i (v % 8))) / nI 5 = nI (rdN (oH A i (v % 8)) / 5) := pk_div (by omega) (by decide) (by decide)
  have C := m_reads ok rm hi h8
  unfold F_X12_itemOf itm
  generalize rdN (oH A i (v % 8)) = r at *
  generalize v / 8 = w at *
  generalize v % 8 = z at *
  by_cases c0 : w = 0
  · simp (disch := omega) only [↓m1_n, li_n, li_0, li_1, lt_y, lt_n, le_y, le_n, eq_n, nL, nLe, nEq, nEm, mEn, nLm, mLn, nLem, mLen, nI_add, nI_mul, nI_sub, nI_m, ib_nI, nx_nI, gd_y, bnd_e, bind_y, ↓reduceIte, hI_uI_o, hI_uI_s, hI_uI_e, hL_uI, hI_uL, hL_uL_o, hL_uL_s, hL_uL_e, and1_a, and1_b, Bool.not_true, Bool.not_false, Nat.zero_add, Nat.add_zero, Nat.add_sub_cancel, eq_self, ne_b, g0_0, g0_1, g0_2, g0_3, g0_4, g0_5, g0_6, g0_7, g0_8, g0_9, n1, n2, g3_2, g3_3, g3_4, g3_5, g3_6, g3_7, g3_8, g3_9, n4, n5, n6, n7, n8, n9, g10_2, g10_3, g10_4, g10_5, n11, n12, n13, n14, g15_2, g15_3, g15_4, g15_5, n16, n17, n18, n19, g40_0, g40_1, g40_2, g44_0, g44_2, g44_3, g44_5, g44_6, g44_10, g51_3, g51_4, g51_5, g51_6, g51_7, g57_3, g57_4, g57_5, g57_6, g57_7, n120, n121, g122_0, g122_4, g122_5, g122_6, g122_7, g122_8, g122_18, g122_19, g122_20, g122_21, g122_24, g122_25, g122_28, g122_29, g122_31, g122_32, g122_33, g122_39, g122_40, g122_41, g122_45, g122_46, g122_47, g122_48, n123, n124, n125, n126, n127, n128, n129, n130, n131, n132, n133, n134, n135, n136, n137, n138, n139, n140, n141, n142, n143, n144, n145, n146, k1, k2, C, c0]
  · by_cases c1 : r < 10
    · by_cases c2 : w = 1
      · simp (disch := omega) only [↓m1_n, li_n, li_0, li_1, lt_y, lt_n, le_y, le_n, eq_n, nL, nLe, nEq, nEm, mEn, nLm, mLn, nLem, mLen, nI_add, nI_mul, nI_sub, nI_m, ib_nI, nx_nI, gd_y, bnd_e, bind_y, ↓reduceIte, hI_uI_o, hI_uI_s, hI_uI_e, hL_uI, hI_uL, hL_uL_o, hL_uL_s, hL_uL_e, and1_a, and1_b, Bool.not_true, Bool.not_false, Nat.zero_add, Nat.add_zero, Nat.add_sub_cancel, eq_self, ne_b, g0_0, g0_1, g0_2, g0_3, g0_4, g0_5, g0_6, g0_7, g0_8, g0_9, n1, n2, g3_2, g3_3, g3_4, g3_5, g3_6, g3_7, g3_8, g3_9, n4, n5, n6, n7, n8, n9, g10_2, g10_3, g10_4, g10_5, n11, n12, n13, n14, g15_2, g15_3, g15_4, g15_5, n16, n17, n18, n19, g40_0, g40_1, g40_2, g44_0, g44_2, g44_3, g44_5, g44_6, g44_10, g51_3, g51_4, g51_5, g51_6, g51_7, g57_3, g57_4, g57_5, g57_6, g57_7, n120, n121, g122_0, g122_4, g122_5, g122_6, g122_7, g122_8, g122_18, g122_19, g122_20, g122_21, g122_24, g122_25, g122_28, g122_29, g122_31, g122_32, g122_33, g122_39, g122_40, g122_41, g122_45, g122_46, g122_47, g122_48, n123, n124, n125, n126, n127, n128, n129, n130, n131, n132, n133, n134, n135, n136, n137, n138, n139, n140, n141, n142, n143, n144, n145, n146, k1, k2, C, c0, c1, c2, e4]
      · simp (disch := omega) only [↓m1_n, li_n, li_0, li_1, lt_y, lt_n, le_y, le_n, eq_n, nL, nLe, nEq, nEm, mEn, nLm, mLn, nLem, mLen, nI_add, nI_mul, nI_sub, nI_m, ib_nI, nx_nI, gd_y, bnd_e, bind_y, ↓reduceIte, hI_uI_o, hI_uI_s, hI_uI_e, hL_uI, hI_uL, hL_uL_o, hL_uL_s, hL_uL_e, and1_a, and1_b, Bool.not_true, Bool.not_false, Nat.zero_add, Nat.add_zero, Nat.add_sub_cancel, eq_self, ne_b, g0_0, g0_1, g0_2, g0_3, g0_4, g0_5, g0_6, g0_7, g0_8, g0_9, n1, n2, g3_2, g3_3, g3_4, g3_5, g3_6, g3_7, g3_8, g3_9, n4, n5, n6, n7, n8, n9, g10_2, g10_3, g10_4, g10_5, n11, n12, n13, n14, g15_2, g15_3, g15_4, g15_5, n16, n17, n18, n19, g40_0, g40_1, g40_2, g44_0, g44_2, g44_3, g44_5, g44_6, g44_10, g51_3, g51_4, g51_5, g51_6, g51_7, g57_3, g57_4, g57_5, g57_6, g57_7, n120, n121, g122_0, g122_4, g122_5, g122_6, g122_7, g122_8, g122_18, g122_19, g122_20, g122_21, g122_24, g122_25, g122_28, g122_29, g122_31, g122_32, g122_33, g122_39, g122_40, g122_41, g122_45, g122_46, g122_47, g122_48, n123, n124, n125, n126, n127, n128, n129, n130, n131, n132, n133, n134, n135, n136, n137, n138, n139, n140, n141, n142, n143, n144, n145, n146, k1, k2, C, c0, c1, c2, e3]
    · simp (disch := omega) only [↓m1_n, li_n, li_0, li_1, lt_y, lt_n, le_y, le_n, eq_n, nL, nLe, nEq, nEm, mEn, nLm, mLn, nLem, mLen, nI_add, nI_mul, nI_sub, nI_m, ib_nI, nx_nI, gd_y, bnd_e, bind_y, ↓reduceIte, hI_uI_o, hI_uI_s, hI_uI_e, hL_uI, hI_uL, hL_uL_o, hL_uL_s, hL_uL_e, and1_a, and1_b, Bool.not_true, Bool.not_false, Nat.zero_add, Nat.add_zero, Nat.add_sub_cancel, eq_self, ne_b, g0_0, g0_1, g0_2, g0_3, g0_4, g0_5, g0_6, g0_7, g0_8, g0_9, n1, n2, g3_2, g3_3, g3_4, g3_5, g3_6, g3_7, g3_8, g3_9, n4, n5, n6, n7, n8, n9, g10_2, g10_3, g10_4, g10_5, n11, n12, n13, n14, g15_2, g15_3, g15_4, g15_5, n16, n17, n18, n19, g40_0, g40_1, g40_2, g44_0, g44_2, g44_3, g44_5, g44_6, g44_10, g51_3, g51_4, g51_5, g51_6, g51_7, g57_3, g57_4, g57_5, g57_6, g57_7, n120, n121, g122_0, g122_4, g122_5, g122_6, g122_7, g122_8, g122_18, g122_19, g122_20, g122_21, g122_24, g122_25, g122_28, g122_29, g122_31, g122_32, g122_33, g122_39, g122_40, g122_41, g122_45, g122_46, g122_47, g122_48, n123, n124, n125, n126, n127, n128, n129, n130, n131, n132, n133, n134, n135, n136, n137, n138, n139, n140, n141, n142, n143, n144, n145, n146, k1, k2, C, c0, c1]
/-! ===== a key that stands in a tray ===== -/
def FrK (h h' : Hp) : Prop := (∀ d, d ≠ 135 → d ≠ 136 → d ≠ 122 → hI h' d = hI h d) ∧ (∀ k, k ≠ 30 → hI h' 122 k = hI h 122 k) ∧ hL h' = hL h
theorem m_wrongKeyL {h : Hp} {j n : Nat} (hj : j < 4) (hn : n ≤ 4) : ∃ h', L_X12_wrongKey_45 h 122 (nI j) (nI n) (nI 0) = some (h', if exB (badB (fun k => hL h 126 (60 * j + k)) 23) n then nI 5 else nI 0) ∧ FrK h h' ∧ (exB (badB (fun k => hL h 126 (60 * j + k)) 23) n = false → hI h' 122 30 = nI n ∧ ∀ g : Nat → Nat, (∀ k, k < n → hL h 126 (60 * j + k) = lN (g k) ∧ g k ≤ 23) → ∀ k, k < n → hI h' 135 k = nI (g k % 8) ∧ hI h' 136 k = nI (g k / 8)) := by
  have key : ∀ m a s, a + m = n → FrK h s → (∀ g : Nat → Nat, (∀ k, k < n → hL h 126 (60 * j + k) = lN (g k) ∧ g k ≤ 23) → ∀ k, k < a → hI s 135 k = nI (g k % 8) ∧ hI s 136 k = nI (g k / 8)) → exB (badB (fun k => hL h 126 (60 * j + k)) 23) a = false → ∃ h', iterW (fun s : Hp × Int32 => B_X12_wrongKey_45 s.1 122 (nI j) (nI n) s.2) (s, nI a) = some (h', if exB (badB (fun k => hL h 126 (60 * j + k)) 23) n then nI 5 else nI 0) ∧ FrK h h' ∧ (exB (badB (fun k => hL h 126 (60 * j + k)) 23) n = false → hI h' 122 30 = nI n ∧ ∀ g : Nat → Nat, (∀ k, k < n → hL h 126 (60 * j + k) = lN (g k) ∧ g k ≤ 23) → ∀ k, k < n → hI h' 135 k = nI (g k % 8) ∧ hI h' 136 k = nI (g k / 8)) := by
    intro m
    induction m with
    | zero =>
      intro a s ea f hg eb
      have : a = n := by omega
      subst this
      rw [eb]
      refine ⟨uI s 122 30 (nI a), iterW_end ?_, ⟨fun d d1 d2 d3 => by rw [hI_uI_o d3]; exact f.1 d d1 d2 d3, fun k hk => by rw [hI_uI_s hk]; exact f.2.1 k hk, f.2.2⟩, fun _ => ⟨hI_uI_e, fun g hk k hk2 => ?_⟩⟩
      · show B_X12_wrongKey_45 _ _ _ _ _ = _
        unfold B_X12_wrongKey_45
        simp (disch := omega) only [↓m1_n, li_n, li_0, li_1, lt_y, lt_n, le_y, le_n, eq_n, nL, nLe, nEq, nEm, mEn, nLm, mLn, nLem, mLen, nI_add, nI_mul, nI_sub, nI_m, ib_nI, nx_nI, gd_y, bnd_e, bind_y, ↓reduceIte, hI_uI_o, hI_uI_s, hI_uI_e, hL_uI, hI_uL, hL_uL_o, hL_uL_s, hL_uL_e, and1_a, and1_b, Bool.not_true, Bool.not_false, Nat.zero_add, Nat.add_zero, Nat.add_sub_cancel, eq_self, ne_b, g0_0, g0_1, g0_2, g0_3, g0_4, g0_5, g0_6, g0_7, g0_8, g0_9, n1, n2, g3_2, g3_3, g3_4, g3_5, g3_6, g3_7, g3_8, g3_9, n4, n5, n6, n7, n8, n9, g10_2, g10_3, g10_4, g10_5, n11, n12, n13, n14, g15_2, g15_3, g15_4, g15_5, n16, n17, n18, n19, g40_0, g40_1, g40_2, g44_0, g44_2, g44_3, g44_5, g44_6, g44_10, g51_3, g51_4, g51_5, g51_6, g51_7, g57_3, g57_4, g57_5, g57_6, g57_7, n120, n121, g122_0, g122_4, g122_5, g122_6, g122_7, g122_8, g122_18, g122_19, g122_20, g122_21, g122_24, g122_25, g122_28, g122_29, g122_31, g122_32, g122_33, g122_39, g122_40, g122_41, g122_45, g122_46, g122_47, g122_48, n123, n124, n125, n126, n127, n128, n129, n130, n131, n132, n133, n134, n135, n136, n137, n138, n139, n140, n141, n142, n143, n144, n145, n146, Bool.false_eq_true]
      · rw [hI_uI_o (by decide), hI_uI_o (by decide)]
        exact hg g hk k hk2
    | succ m ih =>
      intro a s ea f hg eb
      have eL : hL s 126 (60 * j + a) = hL h 126 (60 * j + a) := by rw [f.2.2]
      by_cases c : hL h 126 (60 * j + a) < lN 0 ∨ lN 23 < hL h 126 (60 * j + a)
      · have : exB (badB (fun k => hL h 126 (60 * j + k)) 23) n = true := (exB_iff n).mpr ⟨a, by omega, by simp [badB, c]⟩
        rw [this]
        refine ⟨s, iterW_end ?_, f, fun e => by cases e⟩
        show B_X12_wrongKey_45 _ _ _ _ _ = _
        unfold B_X12_wrongKey_45
        simp (disch := omega) only [↓m1_n, li_n, li_0, li_1, lt_y, lt_n, le_y, le_n, eq_n, nL, nLe, nEq, nEm, mEn, nLm, mLn, nLem, mLen, nI_add, nI_mul, nI_sub, nI_m, ib_nI, nx_nI, gd_y, bnd_e, bind_y, ↓reduceIte, hI_uI_o, hI_uI_s, hI_uI_e, hL_uI, hI_uL, hL_uL_o, hL_uL_s, hL_uL_e, and1_a, and1_b, Bool.not_true, Bool.not_false, Nat.zero_add, Nat.add_zero, Nat.add_sub_cancel, eq_self, ne_b, g0_0, g0_1, g0_2, g0_3, g0_4, g0_5, g0_6, g0_7, g0_8, g0_9, n1, n2, g3_2, g3_3, g3_4, g3_5, g3_6, g3_7, g3_8, g3_9, n4, n5, n6, n7, n8, n9, g10_2, g10_3, g10_4, g10_5, n11, n12, n13, n14, g15_2, g15_3, g15_4, g15_5, n16, n17, n18, n19, g40_0, g40_1, g40_2, g44_0, g44_2, g44_3, g44_5, g44_6, g44_10, g51_3, g51_4, g51_5, g51_6, g51_7, g57_3, g57_4, g57_5, g57_6, g57_7, n120, n121, g122_0, g122_4, g122_5, g122_6, g122_7, g122_8, g122_18, g122_19, g122_20, g122_21, g122_24, g122_25, g122_28, g122_29, g122_31, g122_32, g122_33, g122_39, g122_40, g122_41, g122_45, g122_46, g122_47, g122_48, n123, n124, n125, n126, n127, n128, n129, n130, n131, n132, n133, n134, n135, n136, n137, n138, n139, n140, n141, n142, n143, n144, n145, n146, li_l, cge, cle, cgt, clt, lNL, lNLe, lNEq, nI_l, lN_add, lN_i, m_isFrom, eL, c]
      · have eb' : exB (badB (fun k => hL h 126 (60 * j + k)) 23) (a + 1) = false := by
          rw [exB, eb, Bool.false_or]
          simp [badB, c]
        obtain ⟨y, hy, ey⟩ := pk_lOf (x := hL h 126 (60 * j + a)) (fun e => c (Or.inl e))
        have y23 : ¬ 23 < y := fun e => c (Or.inr (by rw [ey, lNL (by omega) hy]; exact e))
        have f' : FrK h (uI (uI s 135 a (nI (y % 8))) 136 a (nI (y / 8))) := ⟨fun d d1 d2 d3 => by rw [hI_uI_o d2, hI_uI_o d1]; exact f.1 d d1 d2 d3, fun k hk => by rw [hI_uI_o (by decide), hI_uI_o (by decide)]; exact f.2.1 k hk, f.2.2⟩
        obtain ⟨h', x1, x2⟩ := ih (a + 1) (uI (uI s 135 a (nI (y % 8))) 136 a (nI (y / 8))) (by omega) f' (fun g hk k hk2 => by
          by_cases ck : k = a
          · subst ck
            have := (hk k (by omega)).1
            rw [ey] at this
            have g23 := (hk k (by omega)).2
            have e2 : y = g k := (pk_lEQ hy (by omega)).mp this
            rw [← e2]
            exact ⟨by simp (disch := omega) only [↓m1_n, li_n, li_0, li_1, lt_y, lt_n, le_y, le_n, eq_n, nL, nLe, nEq, nEm, mEn, nLm, mLn, nLem, mLen, nI_add, nI_mul, nI_sub, nI_m, ib_nI, nx_nI, gd_y, bnd_e, bind_y, ↓reduceIte, hI_uI_o, hI_uI_s, hI_uI_e, hL_uI, hI_uL, hL_uL_o, hL_uL_s, hL_uL_e, and1_a, and1_b, Bool.not_true, Bool.not_false, Nat.zero_add, Nat.add_zero, Nat.add_sub_cancel, eq_self, ne_b, g0_0, g0_1, g0_2, g0_3, g0_4, g0_5, g0_6, g0_7, g0_8, g0_9, n1, n2, g3_2, g3_3, g3_4, g3_5, g3_6, g3_7, g3_8, g3_9, n4, n5, n6, n7, n8, n9, g10_2, g10_3, g10_4, g10_5, n11, n12, n13, n14, g15_2, g15_3, g15_4, g15_5, n16, n17, n18, n19, g40_0, g40_1, g40_2, g44_0, g44_2, g44_3, g44_5, g44_6, g44_10, g51_3, g51_4, g51_5, g51_6, g51_7, g57_3, g57_4, g57_5, g57_6, g57_7, n120, n121, g122_0, g122_4, g122_5, g122_6, g122_7, g122_8, g122_18, g122_19, g122_20, g122_21, g122_24, g122_25, g122_28, g122_29, g122_31, g122_32, g122_33, g122_39, g122_40, g122_41, g122_45, g122_46, g122_47, g122_48, n123, n124, n125, n126, n127, n128, n129, n130, n131, n132, n133, n134, n135, n136, n137, n138, n139, n140, n141, n142, n143, n144, n145, n146], by simp (disch := omega) only [↓m1_n, li_n, li_0, li_1, lt_y, lt_n, le_y, le_n, eq_n, nL, nLe, nEq, nEm, mEn, nLm, mLn, nLem, mLen, nI_add, nI_mul, nI_sub, nI_m, ib_nI, nx_nI, gd_y, bnd_e, bind_y, ↓reduceIte, hI_uI_o, hI_uI_s, hI_uI_e, hL_uI, hI_uL, hL_uL_o, hL_uL_s, hL_uL_e, and1_a, and1_b, Bool.not_true, Bool.not_false, Nat.zero_add, Nat.add_zero, Nat.add_sub_cancel, eq_self, ne_b, g0_0, g0_1, g0_2, g0_3, g0_4, g0_5, g0_6, g0_7, g0_8, g0_9, n1, n2, g3_2, g3_3, g3_4, g3_5, g3_6, g3_7, g3_8, g3_9, n4, n5, n6, n7, n8, n9, g10_2, g10_3, g10_4, g10_5, n11, n12, n13, n14, g15_2, g15_3, g15_4, g15_5, n16, n17, n18, n19, g40_0, g40_1, g40_2, g44_0, g44_2, g44_3, g44_5, g44_6, g44_10, g51_3, g51_4, g51_5, g51_6, g51_7, g57_3, g57_4, g57_5, g57_6, g57_7, n120, n121, g122_0, g122_4, g122_5, g122_6, g122_7, g122_8, g122_18, g122_19, g122_20, g122_21, g122_24, g122_25, g122_28, g122_29, g122_31, g122_32, g122_33, g122_39, g122_40, g122_41, g122_45, g122_46, g122_47, g122_48, n123, n124, n125, n126, n127, n128, n129, n130, n131, n132, n133, n134, n135, n136, n137, n138, n139, n140, n141, n142, n143, n144, n145, n146]⟩
          · have := hg g hk k (by omega)
            exact ⟨by simp (disch := omega) only [↓m1_n, li_n, li_0, li_1, lt_y, lt_n, le_y, le_n, eq_n, nL, nLe, nEq, nEm, mEn, nLm, mLn, nLem, mLen, nI_add, nI_mul, nI_sub, nI_m, ib_nI, nx_nI, gd_y, bnd_e, bind_y, ↓reduceIte, hI_uI_o, hI_uI_s, hI_uI_e, hL_uI, hI_uL, hL_uL_o, hL_uL_s, hL_uL_e, and1_a, and1_b, Bool.not_true, Bool.not_false, Nat.zero_add, Nat.add_zero, Nat.add_sub_cancel, eq_self, ne_b, g0_0, g0_1, g0_2, g0_3, g0_4, g0_5, g0_6, g0_7, g0_8, g0_9, n1, n2, g3_2, g3_3, g3_4, g3_5, g3_6, g3_7, g3_8, g3_9, n4, n5, n6, n7, n8, n9, g10_2, g10_3, g10_4, g10_5, n11, n12, n13, n14, g15_2, g15_3, g15_4, g15_5, n16, n17, n18, n19, g40_0, g40_1, g40_2, g44_0, g44_2, g44_3, g44_5, g44_6, g44_10, g51_3, g51_4, g51_5, g51_6, g51_7, g57_3, g57_4, g57_5, g57_6, g57_7, n120, n121, g122_0, g122_4, g122_5, g122_6, g122_7, g122_8, g122_18, g122_19, g122_20, g122_21, g122_24, g122_25, g122_28, g122_29, g122_31, g122_32, g122_33, g122_39, g122_40, g122_41, g122_45, g122_46, g122_47, g122_48, n123, n124, n125, n126, n127, n128, n129, n130, n131, n132, n133, n134, n135, n136, n137, n138, n139, n140, n141, n142, n143, n144, n145, n146, this.1], by simp (disch := omega) only [↓m1_n, li_n, li_0, li_1, lt_y, lt_n, le_y, le_n, eq_n, nL, nLe, nEq, nEm, mEn, nLm, mLn, nLem, mLen, nI_add, nI_mul, nI_sub, nI_m, ib_nI, nx_nI, gd_y, bnd_e, bind_y, ↓reduceIte, hI_uI_o, hI_uI_s, hI_uI_e, hL_uI, hI_uL, hL_uL_o, hL_uL_s, hL_uL_e, and1_a, and1_b, Bool.not_true, Bool.not_false, Nat.zero_add, Nat.add_zero, Nat.add_sub_cancel, eq_self, ne_b, g0_0, g0_1, g0_2, g0_3, g0_4, g0_5, g0_6, g0_7, g0_8, g0_9, n1, n2, g3_2, g3_3, g3_4, g3_5, g3_6, g3_7, g3_8, g3_9, n4, n5, n6, n7, n8, n9, g10_2, g10_3, g10_4, g10_5, n11, n12, n13, n14, g15_2, g15_3, g15_4, g15_5, n16, n17, n18, n19, g40_0, g40_1, g40_2, g44_0, g44_2, g44_3, g44_5, g44_6, g44_10, g51_3, g51_4, g51_5, g51_6, g51_7, g57_3, g57_4, g57_5, g57_6, g57_7, n120, n121, g122_0, g122_4, g122_5, g122_6, g122_7, g122_8, g122_18, g122_19, g122_20, g122_21, g122_24, g122_25, g122_28, g122_29, g122_31, g122_32, g122_33, g122_39, g122_40, g122_41, g122_45, g122_46, g122_47, g122_48, n123, n124, n125, n126, n127, n128, n129, n130, n131, n132, n133, n134, n135, n136, n137, n138, n139, n140, n141, n142, n143, n144, n145, n146, this.2]⟩) eb'
        refine ⟨h', (iterW_go ?_).trans x1, x2⟩
        show B_X12_wrongKey_45 _ _ _ _ _ = _
        unfold B_X12_wrongKey_45
        have e1 : nI y - nI y / nI 8 * nI 8 = nI (y % 8) := pk_rem (by omega) (by decide) (by decide)
        have e2 : nI y / nI 8 = nI (y / 8) := pk_div (by omega) (by decide) (by decide)
        have e3 : nI y - nI (y / 8) * nI 8 = nI (y % 8) := by rw [← e2]; exact e1
        have e4 : nI y - nI (y / 8 * 8) = nI (y % 8) := by rw [← nI_mul]; exact e3
        rw [ey] at c
        simp (disch := omega) only [↓m1_n, li_n, li_0, li_1, lt_y, lt_n, le_y, le_n, eq_n, nL, nLe, nEq, nEm, mEn, nLm, mLn, nLem, mLen, nI_add, nI_mul, nI_sub, nI_m, ib_nI, nx_nI, gd_y, bnd_e, bind_y, ↓reduceIte, hI_uI_o, hI_uI_s, hI_uI_e, hL_uI, hI_uL, hL_uL_o, hL_uL_s, hL_uL_e, and1_a, and1_b, Bool.not_true, Bool.not_false, Nat.zero_add, Nat.add_zero, Nat.add_sub_cancel, eq_self, ne_b, g0_0, g0_1, g0_2, g0_3, g0_4, g0_5, g0_6, g0_7, g0_8, g0_9, n1, n2, g3_2, g3_3, g3_4, g3_5, g3_6, g3_7, g3_8, g3_9, n4, n5, n6, n7, n8, n9, g10_2, g10_3, g10_4, g10_5, n11, n12, n13, n14, g15_2, g15_3, g15_4, g15_5, n16, n17, n18, n19, g40_0, g40_1, g40_2, g44_0, g44_2, g44_3, g44_5, g44_6, g44_10, g51_3, g51_4, g51_5, g51_6, g51_7, g57_3, g57_4, g57_5, g57_6, g57_7, n120, n121, g122_0, g122_4, g122_5, g122_6, g122_7, g122_8, g122_18, g122_19, g122_20, g122_21, g122_24, g122_25, g122_28, g122_29, g122_31, g122_32, g122_33, g122_39, g122_40, g122_41, g122_45, g122_46, g122_47, g122_48, n123, n124, n125, n126, n127, n128, n129, n130, n131, n132, n133, n134, n135, n136, n137, n138, n139, n140, n141, n142, n143, n144, n145, n146, li_l, cge, cle, cgt, clt, lNL, lNLe, lNEq, nI_l, lN_add, lN_i, m_isFrom, eL, ey, c, e2, e3, e4, e1, or_self]
  obtain ⟨h', x1, x2⟩ := key n 0 h (by omega) ⟨fun _ _ _ _ => rfl, fun _ _ => rfl, rfl⟩ (fun g _ k hk => by omega) rfl
  exact ⟨h', x1, x2⟩
/-- both sides on a key: refused alike, or taken -/
theorem key_x {q : Nat} {h : Hp} (i : Inv q h) (x y : Int32) : (∃ s : Int32, s ≠ 0 ∧ 0 < s ∧ F_X11_keyStatus h 0 x y = some s ∧ ∀ h', Up h h' → ∃ h2, F_X12_wrongKey h' 122 x y = some (h2, s) ∧ FrK h' h2) ∨ ∃ (j n : Nat) (g : Nat → Nat), j < 4 ∧ 1 ≤ n ∧ n ≤ 4 ∧ x = nI j ∧ y = nI n ∧ (∀ k, k < n → g k < 24 ∧ hL h (64 + 2 * j) k = lN (g k)) ∧ F_X11_keyStatus h 0 x y = some 0 ∧ ∀ h', Up h h' → ∃ h2, F_X12_wrongKey h' 122 x y = some (h2, 0) ∧ FrK h' h2 ∧ hI h2 122 30 = nI n ∧ ∀ k, k < n → hI h2 135 k = nI (g k % 8) ∧ hI h2 136 k = nI (g k / 8) := by
  have nope : ∀ s : Int32, s ≠ 0 → 0 < s → F_X11_keyStatus h 0 x y = some s → (∀ h', Up h h' → F_X12_wrongKey h' 122 x y = some (h', s)) → (∃ s : Int32, s ≠ 0 ∧ 0 < s ∧ F_X11_keyStatus h 0 x y = some s ∧ ∀ h', Up h h' → ∃ h2, F_X12_wrongKey h' 122 x y = some (h2, s) ∧ FrK h' h2) := fun s a b c d => ⟨s, a, b, c, fun h' u => ⟨h', d h' u, fun _ _ _ _ => rfl, fun _ _ => rfl, rfl⟩⟩
  unfold F_X11_keyStatus F_X12_wrongKey F_X11_rowStatus at *
  rcases tr_x x with t1 | ⟨j, hj, rfl, t1⟩
  · refine Or.inl (nope 1 (by decide) (by decide) ?_ (fun h' u => ?_))
    · rw [(t1 h).1]; rfl
    · rw [(t1 h').2]; rfl
  by_cases y1 : y < 1
  · refine Or.inl (nope 1 (by decide) (by decide) ?_ (fun h' u => ?_))
    · rw [(t1 h).1]; simp only [Option.bind_some, if_pos y1]; rfl
    · rw [(t1 h').2]; simp only [Option.bind_some, if_pos y1]; rfl
  by_cases y4 : ¬ y ≤ 4
  · refine Or.inl (nope 1 (by decide) (by decide) ?_ (fun h' u => ?_))
    · rw [(t1 h).1]; simp only [Option.bind_some, if_neg y1, if_neg y4]; rfl
    · rw [(t1 h').2]; simp only [Option.bind_some, if_neg y1, if_neg y4]; rfl
  have y4 : y ≤ 4 := Decidable.byContradiction y4
  have y0 : ¬ y < 0 := fun e => y1 (Int32.lt_trans e (by decide))
  obtain ⟨n, hn, rfl⟩ := nI_of y0
  have nn1 : ¬ n < 1 := fun e => y1 ((nI_ltI (b := 1) hn (by decide)).mpr e)
  have n4 : n ≤ 4 := (nI_leI (b := 4) hn (by decide)).mp y4
  have T1 := fun h => (t1 h).1
  have T2 := fun h => (t1 h).2
  have M : ∀ h', Up h h' → ∀ j, hI h' 125 j = hI h 125 j := fun h' u j => by rw [(u 125 (by decide)).1]
  rcases i.2.1 j hj with ⟨a1, a2⟩ | ⟨a1, m, s, a2, a3, a4, a5, a6, a7, a8⟩
  · refine Or.inl (nope 2 (by decide) (by decide) ?_ (fun h' u => ?_))
    · simp (disch := omega) only [↓m1_n, li_n, li_0, li_1, lt_y, lt_n, le_y, le_n, eq_n, nL, nLe, nEq, nEm, mEn, nLm, mLn, nLem, mLen, nI_add, nI_mul, nI_sub, nI_m, ib_nI, nx_nI, gd_y, bnd_e, bind_y, ↓reduceIte, hI_uI_o, hI_uI_s, hI_uI_e, hL_uI, hI_uL, hL_uL_o, hL_uL_s, hL_uL_e, and1_a, and1_b, Bool.not_true, Bool.not_false, Nat.zero_add, Nat.add_zero, Nat.add_sub_cancel, eq_self, ne_b, g0_0, g0_1, g0_2, g0_3, g0_4, g0_5, g0_6, g0_7, g0_8, g0_9, n1, n2, g3_2, g3_3, g3_4, g3_5, g3_6, g3_7, g3_8, g3_9, n4, n5, n6, n7, n8, n9, g10_2, g10_3, g10_4, g10_5, n11, n12, n13, n14, g15_2, g15_3, g15_4, g15_5, n16, n17, n18, n19, g40_0, g40_1, g40_2, g44_0, g44_2, g44_3, g44_5, g44_6, g44_10, g51_3, g51_4, g51_5, g51_6, g51_7, g57_3, g57_4, g57_5, g57_6, g57_7, n120, n121, g122_0, g122_4, g122_5, g122_6, g122_7, g122_8, g122_18, g122_19, g122_20, g122_21, g122_24, g122_25, g122_28, g122_29, g122_31, g122_32, g122_33, g122_39, g122_40, g122_41, g122_45, g122_46, g122_47, g122_48, n123, n124, n125, n126, n127, n128, n129, n130, n131, n132, n133, n134, n135, n136, n137, n138, n139, n140, n141, n142, n143, n144, n145, n146, T1, gT j hj, a1]
    · simp (disch := omega) only [↓m1_n, li_n, li_0, li_1, lt_y, lt_n, le_y, le_n, eq_n, nL, nLe, nEq, nEm, mEn, nLm, mLn, nLem, mLen, nI_add, nI_mul, nI_sub, nI_m, ib_nI, nx_nI, gd_y, bnd_e, bind_y, ↓reduceIte, hI_uI_o, hI_uI_s, hI_uI_e, hL_uI, hI_uL, hL_uL_o, hL_uL_s, hL_uL_e, and1_a, and1_b, Bool.not_true, Bool.not_false, Nat.zero_add, Nat.add_zero, Nat.add_sub_cancel, eq_self, ne_b, g0_0, g0_1, g0_2, g0_3, g0_4, g0_5, g0_6, g0_7, g0_8, g0_9, n1, n2, g3_2, g3_3, g3_4, g3_5, g3_6, g3_7, g3_8, g3_9, n4, n5, n6, n7, n8, n9, g10_2, g10_3, g10_4, g10_5, n11, n12, n13, n14, g15_2, g15_3, g15_4, g15_5, n16, n17, n18, n19, g40_0, g40_1, g40_2, g44_0, g44_2, g44_3, g44_5, g44_6, g44_10, g51_3, g51_4, g51_5, g51_6, g51_7, g57_3, g57_4, g57_5, g57_6, g57_7, n120, n121, g122_0, g122_4, g122_5, g122_6, g122_7, g122_8, g122_18, g122_19, g122_20, g122_21, g122_24, g122_25, g122_28, g122_29, g122_31, g122_32, g122_33, g122_39, g122_40, g122_41, g122_45, g122_46, g122_47, g122_48, n123, n124, n125, n126, n127, n128, n129, n130, n131, n132, n133, n134, n135, n136, n137, n138, n139, n140, n141, n142, n143, n144, n145, n146, T2, M h' u, a2]
  by_cases l : ¬ n ≤ m
  · refine Or.inl (nope 3 (by decide) (by decide) ?_ (fun h' u => ?_))
    · simp (disch := omega) only [↓m1_n, li_n, li_0, li_1, lt_y, lt_n, le_y, le_n, eq_n, nL, nLe, nEq, nEm, mEn, nLm, mLn, nLem, mLen, nI_add, nI_mul, nI_sub, nI_m, ib_nI, nx_nI, gd_y, bnd_e, bind_y, ↓reduceIte, hI_uI_o, hI_uI_s, hI_uI_e, hL_uI, hI_uL, hL_uL_o, hL_uL_s, hL_uL_e, and1_a, and1_b, Bool.not_true, Bool.not_false, Nat.zero_add, Nat.add_zero, Nat.add_sub_cancel, eq_self, ne_b, g0_0, g0_1, g0_2, g0_3, g0_4, g0_5, g0_6, g0_7, g0_8, g0_9, n1, n2, g3_2, g3_3, g3_4, g3_5, g3_6, g3_7, g3_8, g3_9, n4, n5, n6, n7, n8, n9, g10_2, g10_3, g10_4, g10_5, n11, n12, n13, n14, g15_2, g15_3, g15_4, g15_5, n16, n17, n18, n19, g40_0, g40_1, g40_2, g44_0, g44_2, g44_3, g44_5, g44_6, g44_10, g51_3, g51_4, g51_5, g51_6, g51_7, g57_3, g57_4, g57_5, g57_6, g57_7, n120, n121, g122_0, g122_4, g122_5, g122_6, g122_7, g122_8, g122_18, g122_19, g122_20, g122_21, g122_24, g122_25, g122_28, g122_29, g122_31, g122_32, g122_33, g122_39, g122_40, g122_41, g122_45, g122_46, g122_47, g122_48, n123, n124, n125, n126, n127, n128, n129, n130, n131, n132, n133, n134, n135, n136, n137, n138, n139, n140, n141, n142, n143, n144, n145, n146, T1, gT j hj, a1, a4]
    · simp (disch := omega) only [↓m1_n, li_n, li_0, li_1, lt_y, lt_n, le_y, le_n, eq_n, nL, nLe, nEq, nEm, mEn, nLm, mLn, nLem, mLen, nI_add, nI_mul, nI_sub, nI_m, ib_nI, nx_nI, gd_y, bnd_e, bind_y, ↓reduceIte, hI_uI_o, hI_uI_s, hI_uI_e, hL_uI, hI_uL, hL_uL_o, hL_uL_s, hL_uL_e, and1_a, and1_b, Bool.not_true, Bool.not_false, Nat.zero_add, Nat.add_zero, Nat.add_sub_cancel, eq_self, ne_b, g0_0, g0_1, g0_2, g0_3, g0_4, g0_5, g0_6, g0_7, g0_8, g0_9, n1, n2, g3_2, g3_3, g3_4, g3_5, g3_6, g3_7, g3_8, g3_9, n4, n5, n6, n7, n8, n9, g10_2, g10_3, g10_4, g10_5, n11, n12, n13, n14, g15_2, g15_3, g15_4, g15_5, n16, n17, n18, n19, g40_0, g40_1, g40_2, g44_0, g44_2, g44_3, g44_5, g44_6, g44_10, g51_3, g51_4, g51_5, g51_6, g51_7, g57_3, g57_4, g57_5, g57_6, g57_7, n120, n121, g122_0, g122_4, g122_5, g122_6, g122_7, g122_8, g122_18, g122_19, g122_20, g122_21, g122_24, g122_25, g122_28, g122_29, g122_31, g122_32, g122_33, g122_39, g122_40, g122_41, g122_45, g122_46, g122_47, g122_48, n123, n124, n125, n126, n127, n128, n129, n130, n131, n132, n133, n134, n135, n136, n137, n138, n139, n140, n141, n142, n143, n144, n145, n146, T2, M h' u, a5]
  have l : n ≤ m := by omega
  have AW := c_allWithin (h := h) (m := 23) (k := n) hj a4 (by omega) l (by decide)
  have EQ : ∀ h', Up h h' → exB (badB (fun k => hL h' 126 (60 * j + k)) 23) n = exB (badB (hL h (64 + 2 * j)) 23) n := fun h' u => exB_congr n (fun k hk => by
    unfold badB
    rw [(u 126 (by decide)).2, a8 k (by omega)])
  cases eb : exB (badB (hL h (64 + 2 * j)) 23) n with
  | true =>
    rw [eb] at AW
    refine Or.inl ⟨nI 5, by decide, by decide, ?_, fun h' u => ?_⟩
    · simp (disch := omega) only [↓m1_n, li_n, li_0, li_1, lt_y, lt_n, le_y, le_n, eq_n, nL, nLe, nEq, nEm, mEn, nLm, mLn, nLem, mLen, nI_add, nI_mul, nI_sub, nI_m, ib_nI, nx_nI, gd_y, bnd_e, bind_y, ↓reduceIte, hI_uI_o, hI_uI_s, hI_uI_e, hL_uI, hI_uL, hL_uL_o, hL_uL_s, hL_uL_e, and1_a, and1_b, Bool.not_true, Bool.not_false, Nat.zero_add, Nat.add_zero, Nat.add_sub_cancel, eq_self, ne_b, g0_0, g0_1, g0_2, g0_3, g0_4, g0_5, g0_6, g0_7, g0_8, g0_9, n1, n2, g3_2, g3_3, g3_4, g3_5, g3_6, g3_7, g3_8, g3_9, n4, n5, n6, n7, n8, n9, g10_2, g10_3, g10_4, g10_5, n11, n12, n13, n14, g15_2, g15_3, g15_4, g15_5, n16, n17, n18, n19, g40_0, g40_1, g40_2, g44_0, g44_2, g44_3, g44_5, g44_6, g44_10, g51_3, g51_4, g51_5, g51_6, g51_7, g57_3, g57_4, g57_5, g57_6, g57_7, n120, n121, g122_0, g122_4, g122_5, g122_6, g122_7, g122_8, g122_18, g122_19, g122_20, g122_21, g122_24, g122_25, g122_28, g122_29, g122_31, g122_32, g122_33, g122_39, g122_40, g122_41, g122_45, g122_46, g122_47, g122_48, n123, n124, n125, n126, n127, n128, n129, n130, n131, n132, n133, n134, n135, n136, n137, n138, n139, n140, n141, n142, n143, n144, n145, n146, T1, gT j hj, a1, a4, AW]
    · obtain ⟨h2, x1, x2, -⟩ := m_wrongKeyL (h := h') (j := j) (n := n) hj n4
      rw [EQ h' u, eb, if_pos rfl] at x1
      refine ⟨h2, ?_, x2⟩
      simp (disch := omega) only [↓m1_n, li_n, li_0, li_1, lt_y, lt_n, le_y, le_n, eq_n, nL, nLe, nEq, nEm, mEn, nLm, mLn, nLem, mLen, nI_add, nI_mul, nI_sub, nI_m, ib_nI, nx_nI, gd_y, bnd_e, bind_y, ↓reduceIte, hI_uI_o, hI_uI_s, hI_uI_e, hL_uI, hI_uL, hL_uL_o, hL_uL_s, hL_uL_e, and1_a, and1_b, Bool.not_true, Bool.not_false, Nat.zero_add, Nat.add_zero, Nat.add_sub_cancel, eq_self, ne_b, g0_0, g0_1, g0_2, g0_3, g0_4, g0_5, g0_6, g0_7, g0_8, g0_9, n1, n2, g3_2, g3_3, g3_4, g3_5, g3_6, g3_7, g3_8, g3_9, n4, n5, n6, n7, n8, n9, g10_2, g10_3, g10_4, g10_5, n11, n12, n13, n14, g15_2, g15_3, g15_4, g15_5, n16, n17, n18, n19, g40_0, g40_1, g40_2, g44_0, g44_2, g44_3, g44_5, g44_6, g44_10, g51_3, g51_4, g51_5, g51_6, g51_7, g57_3, g57_4, g57_5, g57_6, g57_7, n120, n121, g122_0, g122_4, g122_5, g122_6, g122_7, g122_8, g122_18, g122_19, g122_20, g122_21, g122_24, g122_25, g122_28, g122_29, g122_31, g122_32, g122_33, g122_39, g122_40, g122_41, g122_45, g122_46, g122_47, g122_48, n123, n124, n125, n126, n127, n128, n129, n130, n131, n132, n133, n134, n135, n136, n137, n138, n139, n140, n141, n142, n143, n144, n145, n146, T2, M h' u, a5, x1]
  | false =>
    rw [eb, if_neg Bool.false_ne_true] at AW
    obtain ⟨g, hg⟩ := good_n (by decide) eb
    refine Or.inr ⟨j, n, g, hj, by omega, n4, rfl, rfl, fun k hk => ⟨by have := (hg k hk).2; omega, (hg k hk).1⟩, ?_, fun h' u => ?_⟩
    · simp (disch := omega) only [↓m1_n, li_n, li_0, li_1, lt_y, lt_n, le_y, le_n, eq_n, nL, nLe, nEq, nEm, mEn, nLm, mLn, nLem, mLen, nI_add, nI_mul, nI_sub, nI_m, ib_nI, nx_nI, gd_y, bnd_e, bind_y, ↓reduceIte, hI_uI_o, hI_uI_s, hI_uI_e, hL_uI, hI_uL, hL_uL_o, hL_uL_s, hL_uL_e, and1_a, and1_b, Bool.not_true, Bool.not_false, Nat.zero_add, Nat.add_zero, Nat.add_sub_cancel, eq_self, ne_b, g0_0, g0_1, g0_2, g0_3, g0_4, g0_5, g0_6, g0_7, g0_8, g0_9, n1, n2, g3_2, g3_3, g3_4, g3_5, g3_6, g3_7, g3_8, g3_9, n4, n5, n6, n7, n8, n9, g10_2, g10_3, g10_4, g10_5, n11, n12, n13, n14, g15_2, g15_3, g15_4, g15_5, n16, n17, n18, n19, g40_0, g40_1, g40_2, g44_0, g44_2, g44_3, g44_5, g44_6, g44_10, g51_3, g51_4, g51_5, g51_6, g51_7, g57_3, g57_4, g57_5, g57_6, g57_7, n120, n121, g122_0, g122_4, g122_5, g122_6, g122_7, g122_8, g122_18, g122_19, g122_20, g122_21, g122_24, g122_25, g122_28, g122_29, g122_31, g122_32, g122_33, g122_39, g122_40, g122_41, g122_45, g122_46, g122_47, g122_48, n123, n124, n125, n126, n127, n128, n129, n130, n131, n132, n133, n134, n135, n136, n137, n138, n139, n140, n141, n142, n143, n144, n145, n146, T1, gT j hj, a1, a4, AW]
    · obtain ⟨h2, x1, x2, x3⟩ := m_wrongKeyL (h := h') (j := j) (n := n) hj n4
      rw [EQ h' u, eb] at x3
      rw [EQ h' u, eb, if_neg Bool.false_ne_true] at x1
      have x3 := x3 rfl
      refine ⟨h2, ?_, x2, x3.1, x3.2 g (fun k hk => ⟨by rw [(u 126 (by decide)).2, ← a8 k (by omega)]; exact (hg k hk).1, (hg k hk).2⟩)⟩
      simp (disch := omega) only [↓m1_n, li_n, li_0, li_1, lt_y, lt_n, le_y, le_n, eq_n, nL, nLe, nEq, nEm, mEn, nLm, mLn, nLem, mLen, nI_add, nI_mul, nI_sub, nI_m, ib_nI, nx_nI, gd_y, bnd_e, bind_y, ↓reduceIte, hI_uI_o, hI_uI_s, hI_uI_e, hL_uI, hI_uL, hL_uL_o, hL_uL_s, hL_uL_e, and1_a, and1_b, Bool.not_true, Bool.not_false, Nat.zero_add, Nat.add_zero, Nat.add_sub_cancel, eq_self, ne_b, g0_0, g0_1, g0_2, g0_3, g0_4, g0_5, g0_6, g0_7, g0_8, g0_9, n1, n2, g3_2, g3_3, g3_4, g3_5, g3_6, g3_7, g3_8, g3_9, n4, n5, n6, n7, n8, n9, g10_2, g10_3, g10_4, g10_5, n11, n12, n13, n14, g15_2, g15_3, g15_4, g15_5, n16, n17, n18, n19, g40_0, g40_1, g40_2, g44_0, g44_2, g44_3, g44_5, g44_6, g44_10, g51_3, g51_4, g51_5, g51_6, g51_7, g57_3, g57_4, g57_5, g57_6, g57_7, n120, n121, g122_0, g122_4, g122_5, g122_6, g122_7, g122_8, g122_18, g122_19, g122_20, g122_21, g122_24, g122_25, g122_28, g122_29, g122_31, g122_32, g122_33, g122_39, g122_40, g122_41, g122_45, g122_46, g122_47, g122_48, n123, n124, n125, n126, n127, n128, n129, n130, n131, n132, n133, n134, n135, n136, n137, n138, n139, n140, n141, n142, n143, n144, n145, n146, T2, M h' u, a5, x1]
