/-! ===== lost ===== -/
theorem li_l (n : Nat) : (OfNat.ofNat n : Int64) = lN (OfNat.ofNat n) := Eq.trans (b := lN n) rfl rfl
theorem cge (x y : Int64) : (nI 0 ≤ lg_cmp x y) = (y ≤ x) := propext (lg_cmp_ge x y)
theorem cle (x y : Int64) : (lg_cmp x y ≤ nI 0) = (x ≤ y) := propext (lg_cmp_le x y)
theorem cgt (x y : Int64) : (nI 0 < lg_cmp x y) = (y < x) := propext (lg_cmp_gt x y)
theorem clt (x y : Int64) : (lg_cmp x y < nI 0) = (x < y) := propext (lg_cmp_lt x y)
theorem lNL {a b : Nat} (ha : a < 9223372036854775808) (hb : b < 9223372036854775808) : (lN a < lN b) = (a < b) := propext (pk_lLT ha hb)
theorem lNLe {a b : Nat} (ha : a < 9223372036854775808) (hb : b < 9223372036854775808) : (lN a ≤ lN b) = (a ≤ b) := propext (pk_lLE ha hb)
theorem lNEq {a b : Nat} (ha : a < 9223372036854775808) (hb : b < 9223372036854775808) : (lN a = lN b) = (a = b) := propext (pk_lEQ ha hb)
theorem neg_toInt {a : Nat} (ha : a < 2 ^ 31) : (-nI a).toInt = -(a : Int) := by
  rw [Int32.toInt_neg, nI_toInt ha]
  exact Int.bmod_eq_of_le (by omega) (by omega)
theorem neg_dv {a b : Nat} (ha : a < 2 ^ 31) (hb : b < 2 ^ 31) : (-nI a) / nI b = -nI (a / b) := by
  apply Int32.toInt_inj.mp
  have h : a / b ≤ a := Nat.div_le_self _ _
  rw [Int32.toInt_div_of_ne_right _ _ (nI_m1 hb), neg_toInt ha, neg_toInt (by omega), nI_toInt hb, Int.neg_tdiv]
  rfl
theorem neg_rm {a b : Nat} (ha : a < 2 ^ 31) (h0 : 0 < b) (hb : b < 2 ^ 31) : (-nI a) - (-nI a) / nI b * nI b = -nI (a % b) := by
  rw [neg_dv ha hb, Int32.neg_mul, Int32.sub_neg, ← pk_rem ha h0 hb, pk_div ha h0 hb, Int32.neg_sub, Int32.add_comm, Int32.sub_eq_add_neg]
theorem xor_nn {x y : Int32} (hx : ¬ x < 0) (hy : ¬ y < 0) : 0 ≤ x ^^^ y := by
  obtain ⟨a, ha, rfl⟩ := nI_of hx
  obtain ⟨b, hb, rfl⟩ := nI_of hy
  have e : nI a ^^^ nI b = nI (a ^^^ b) := by
    apply Int32.toBitVec_inj.mp
    apply BitVec.eq_of_toNat_eq
    rw [Int32.toBitVec_xor, BitVec.toNat_xor, pk_tn (by omega), pk_tn (by omega), pk_tn (Nat.lt_trans (Nat.xor_lt_two_pow ha hb) (by decide))]
  rw [e]
  exact nI_nonneg (Nat.xor_lt_two_pow ha hb)
theorem xor_ng {x y : Int32} (hx : x < 0) (hy : ¬ y < 0) : ¬ 0 ≤ x ^^^ y := by
  intro h
  have e : (x ^^^ y) ^^^ y = x := by rw [Int32.xor_assoc, Int32.xor_self, Int32.xor_zero]
  have := xor_nn (Int32.not_lt.mpr h) hy
  rw [e] at this
  exact absurd hx (Int32.not_lt.mpr this)
theorem neg_lt0 {a : Nat} (h0 : 0 < a) (ha : a < 2 ^ 31) : -nI a < 0 := by
  rw [Int32.lt_iff_toInt_lt, neg_toInt ha, show (0 : Int32).toInt = 0 by decide]
  omega
theorem sub_neg' {a b : Nat} (h : a ≤ b) : nI a - nI b = -nI (b - a) := by
  rw [← nI_sub h, Int32.neg_sub]
theorem neg_add' {a b : Nat} (h : a ≤ b) : -nI a + nI b = nI (b - a) := by
  rw [← nI_sub h, Int32.add_comm, Int32.sub_eq_add_neg]
/-- the least serial -/
def lst (t S W : Nat) : Nat := (t + (W - S % W)) % W
theorem fmr_v {t S W : Nat} (ht : t < 2 ^ 31) (hS : S < 2 ^ 31) (h0 : 0 < W) (hW : W < 2 ^ 31) : fmr (nI t - nI S) (nI W) = nI (lst t S W) := by
  unfold fmr lst
  have dm := Nat.div_add_mod S W
  have ml := Nat.mod_lt S h0
  by_cases c : S ≤ t
  · rw [nI_sub c, if_pos (xor_nn (nI_n0 (by omega)) (nI_n0 hW)), pk_rem (by omega) h0 hW]
    have e : t + (W - S % W) = (t - S) + W * (S / W + 1) := by
      rw [Nat.mul_add, Nat.mul_one]
      omega
    rw [e, Nat.add_mul_mod_self_left]
  · rw [sub_neg' (by omega), if_neg (xor_ng (neg_lt0 (by omega) (by omega)) (nI_n0 hW)), neg_rm (by omega) h0 hW]
    have dm2 := Nat.div_add_mod (S - t) W
    have ml2 := Nat.mod_lt (S - t) h0
    have dl : (S - t) / W ≤ S / W := Nat.div_le_div_right (by omega)
    obtain ⟨d, hd⟩ : ∃ d, S / W = (S - t) / W + d := ⟨S / W - (S - t) / W, by omega⟩
    have e : t + (W - S % W) = (W - (S - t) % W) + W * d := by
      rw [hd, Nat.mul_add] at dm
      omega
    rw [e, Nat.add_mul_mod_self_left]
    by_cases z : (S - t) % W = 0
    · rw [z, if_pos (by decide), Nat.sub_zero, Nat.mod_self]
      decide
    · rw [if_neg (fun x => z (by
        have := neg_lt0 (a := (S - t) % W) (by omega) (by omega)
        rw [x] at this
        exact absurd this (by decide))), neg_add' (by omega), Nat.mod_eq_of_lt (a := W - (S - t) % W) (by omega)]
theorem ref_v {t S W : Nat} (ht : t < W) (hS : S < 2 ^ 31) (hW : W ≤ 1000000000) : ((((nI t - (nI S - nI S / nI W * nI W)) - (nI t - (nI S - nI S / nI W * nI W)) / nI W * nI W) + nI W) - (((nI t - (nI S - nI S / nI W * nI W)) - (nI t - (nI S - nI S / nI W * nI W)) / nI W * nI W) + nI W) / nI W * nI W) = nI (lst t S W) := by
  have h0 : 0 < W := by omega
  have ml := Nat.mod_lt S h0
  rw [pk_rem hS h0 (by omega)]
  unfold lst
  by_cases c : S % W ≤ t
  · rw [nI_sub c, pk_rem (by omega) h0 (by omega), Nat.mod_eq_of_lt (a := t - S % W) (by omega), nI_add, pk_rem (by omega) h0 (by omega), show t - S % W + W = t + (W - S % W) by omega]
  · rw [sub_neg' (by omega), neg_rm (by omega) h0 (by omega), Nat.mod_eq_of_lt (a := S % W - t) (by omega), neg_add' (by omega), pk_rem (by omega) h0 (by omega), show W - (S % W - t) = t + (W - S % W) by omega]
def lstN (F E W : Nat) : Nat := if F < E then 1 + (E - 1 - F) / W else 0
theorem m_lostL {h : Hp} {F E W : Nat} {w : Int32} (hF : F < 2000000000) (hE : E ≤ 1000000) (h0 : 0 < W) (hW : W ≤ 1000000000) : L_X12_lost_100 h 122 w (nI W) (nI E) (nI 0) mN (lN F) = some (nI (lstN F E W), if F < E then nI F else mN) := by
  have hl : lstN F E W ≤ E := by
    unfold lstN
    by_cases c : F < E
    · rw [if_pos c]
      have := Nat.div_le_self (E - 1 - F) W
      omega
    · rw [if_neg c]; omega
  have hlow : ∀ j, j < lstN F E W → F + j * W < E := by
    intro j hj
    unfold lstN at hj
    by_cases c : F < E
    · rw [if_pos c] at hj
      have h1 : j * W ≤ (E - 1 - F) / W * W := Nat.mul_le_mul_right W (by omega)
      have h2 := Nat.div_mul_le_self (E - 1 - F) W
      omega
    · rw [if_neg c] at hj; omega
  have hup : E ≤ F + lstN F E W * W := by
    unfold lstN
    by_cases c : F < E
    · rw [if_pos c]
      have := Nat.lt_mul_div_succ (E - 1 - F) h0
      rw [Nat.mul_comm, Nat.add_comm] at this
      omega
    · rw [if_neg c]; omega
  have hup2 : F + lstN F E W * W ≤ 2000000000 + 1000000 * 1000000000 := by
    have := Nat.mul_le_mul (show lstN F E W ≤ 1000000 by omega) hW
    omega
  have key := iterW_for (f := fun s : Int32 × Int32 × Int64 => B_X12_lost_100 h 122 w (nI W) (nI E) s.1 s.2.1 s.2.2) (fun j => (nI j, (if j = 0 then mN else nI F), lN (F + j * W))) (lstN F E W) (r := (nI (lstN F E W), if lstN F E W = 0 then mN else nI F)) (fun j hj => ?_) ?_
  · have e0 : F + 0 * W = F := by omega
    have key2 : L_X12_lost_100 h 122 w (nI W) (nI E) (nI 0) mN (lN F) = some (nI (lstN F E W), if lstN F E W = 0 then mN else nI F) := by
      rw [if_pos rfl, e0] at key
      exact key
    rw [key2]
    by_cases c : F < E
    · rw [if_pos c, if_neg (show ¬ lstN F E W = 0 by unfold lstN; rw [if_pos c, Nat.add_comm]; exact Nat.succ_ne_zero _)]
    · rw [if_neg c, if_pos (show lstN F E W = 0 by unfold lstN; rw [if_neg c])]
  · show B_X12_lost_100 _ _ _ _ _ _ _ _ = _
    unfold B_X12_lost_100
    have := hlow j hj
    rw [if_neg (show ¬ j + 1 = 0 by omega), show F + (j + 1) * W = F + j * W + W by rw [Nat.add_mul, Nat.one_mul]; omega]
    by_cases c : j = 0
    · subst c
      rw [Nat.zero_mul, Nat.add_zero] at *
      simp (disch := omega) only [↓m1_n, li_n, li_0, li_1, lt_y, lt_n, le_y, le_n, eq_n, nL, nLe, nEq, nEm, mEn, nLm, mLn, nLem, mLen, nI_add, nI_mul, nI_sub, nI_m, ib_nI, nx_nI, gd_tt, bnd_eq, Option.bind_some, ↓reduceIte, hI_uI_o, hI_uI_s, hI_uI_e, hL_uI, hI_uL, hL_uL_o, hL_uL_s, hL_uL_e, and1_a, and1_b, Bool.not_true, Bool.not_false, Nat.zero_add, Nat.add_zero, Nat.add_sub_cancel, eq_self, ne_b, g0_0, g0_1, g0_2, g0_3, g0_4, g0_5, g0_6, g0_7, g0_8, g0_9, n1, n2, g3_2, g3_3, g3_4, g3_5, g3_6, g3_7, g3_8, g3_9, n4, n5, n6, n7, n8, n9, g10_2, g10_3, g10_4, g10_5, n11, n12, n13, n14, g15_2, g15_3, g15_4, g15_5, n16, n17, n18, n19, g40_0, g40_1, g40_2, g44_0, g44_2, g44_3, g44_5, g44_6, g44_10, g51_3, g51_4, g51_5, g51_6, g51_7, g57_3, g57_4, g57_5, g57_6, g57_7, n120, n121, g122_0, g122_4, g122_5, g122_6, g122_7, g122_8, g122_18, g122_19, g122_20, g122_21, g122_24, g122_25, g122_28, g122_29, g122_31, g122_32, g122_33, g122_39, g122_40, g122_41, g122_45, g122_46, g122_47, g122_48, n123, n124, n125, n126, n127, n128, n129, n130, n131, n132, n133, n134, n135, n136, n137, n138, n139, n140, n141, n142, n143, n144, n145, n146, li_l, cge, cle, cgt, clt, lNL, lNLe, lNEq, nI_l, lN_add, lN_i]
    · simp (disch := omega) only [↓m1_n, li_n, li_0, li_1, lt_y, lt_n, le_y, le_n, eq_n, nL, nLe, nEq, nEm, mEn, nLm, mLn, nLem, mLen, nI_add, nI_mul, nI_sub, nI_m, ib_nI, nx_nI, gd_tt, bnd_eq, Option.bind_some, ↓reduceIte, hI_uI_o, hI_uI_s, hI_uI_e, hL_uI, hI_uL, hL_uL_o, hL_uL_s, hL_uL_e, and1_a, and1_b, Bool.not_true, Bool.not_false, Nat.zero_add, Nat.add_zero, Nat.add_sub_cancel, eq_self, ne_b, g0_0, g0_1, g0_2, g0_3, g0_4, g0_5, g0_6, g0_7, g0_8, g0_9, n1, n2, g3_2, g3_3, g3_4, g3_5, g3_6, g3_7, g3_8, g3_9, n4, n5, n6, n7, n8, n9, g10_2, g10_3, g10_4, g10_5, n11, n12, n13, n14, g15_2, g15_3, g15_4, g15_5, n16, n17, n18, n19, g40_0, g40_1, g40_2, g44_0, g44_2, g44_3, g44_5, g44_6, g44_10, g51_3, g51_4, g51_5, g51_6, g51_7, g57_3, g57_4, g57_5, g57_6, g57_7, n120, n121, g122_0, g122_4, g122_5, g122_6, g122_7, g122_8, g122_18, g122_19, g122_20, g122_21, g122_24, g122_25, g122_28, g122_29, g122_31, g122_32, g122_33, g122_39, g122_40, g122_41, g122_45, g122_46, g122_47, g122_48, n123, n124, n125, n126, n127, n128, n129, n130, n131, n132, n133, n134, n135, n136, n137, n138, n139, n140, n141, n142, n143, n144, n145, n146, li_l, cge, cle, cgt, clt, lNL, lNLe, lNEq, nI_l, lN_add, lN_i, c]
  · show B_X12_lost_100 _ _ _ _ _ _ _ _ = _
    unfold B_X12_lost_100
    simp (disch := omega) only [↓m1_n, li_n, li_0, li_1, lt_y, lt_n, le_y, le_n, eq_n, nL, nLe, nEq, nEm, mEn, nLm, mLn, nLem, mLen, nI_add, nI_mul, nI_sub, nI_m, ib_nI, nx_nI, gd_tt, bnd_eq, Option.bind_some, ↓reduceIte, hI_uI_o, hI_uI_s, hI_uI_e, hL_uI, hI_uL, hL_uL_o, hL_uL_s, hL_uL_e, and1_a, and1_b, Bool.not_true, Bool.not_false, Nat.zero_add, Nat.add_zero, Nat.add_sub_cancel, eq_self, ne_b, g0_0, g0_1, g0_2, g0_3, g0_4, g0_5, g0_6, g0_7, g0_8, g0_9, n1, n2, g3_2, g3_3, g3_4, g3_5, g3_6, g3_7, g3_8, g3_9, n4, n5, n6, n7, n8, n9, g10_2, g10_3, g10_4, g10_5, n11, n12, n13, n14, g15_2, g15_3, g15_4, g15_5, n16, n17, n18, n19, g40_0, g40_1, g40_2, g44_0, g44_2, g44_3, g44_5, g44_6, g44_10, g51_3, g51_4, g51_5, g51_6, g51_7, g57_3, g57_4, g57_5, g57_6, g57_7, n120, n121, g122_0, g122_4, g122_5, g122_6, g122_7, g122_8, g122_18, g122_19, g122_20, g122_21, g122_24, g122_25, g122_28, g122_29, g122_31, g122_32, g122_33, g122_39, g122_40, g122_41, g122_45, g122_46, g122_47, g122_48, n123, n124, n125, n126, n127, n128, n129, n130, n131, n132, n133, n134, n135, n136, n137, n138, n139, n140, n141, n142, n143, n144, n145, n146, li_l, cge, cle, cgt, clt, lNL, lNLe, lNEq, nI_l, lN_add, lN_i]
theorem op_lost (q : Nat) (h : Hp) (x y z t v : Int32) (_ : q < 512) (i : Inv q h) : ∃ h1 h2 r, F_X11_lost h 0 x y z t v = some (h1, r) ∧ F_X12_lost h1 122 x y z t v = some (h2, r) ∧ Inv (q + 1) h2 := by
  obtain ⟨A, m, Mk, ok, rc, rm, -⟩ := id i.1
  have hn := ok.1
  refine Ask.go (f := fun h => F_X11_lost h 0 x y z t v) (g := fun h => F_X12_lost h 122 x y z t v) i ?_
  show Ask h (F_X11_lost h 0 x y z t v) _
  unfold F_X11_lost F_X12_lost J_X11_lost_33 J_X11_lost_34
  rw [g0_2]
  rcases p_field (h := h) x y with ⟨d1, d2⟩ | ⟨⟨a, b, hab, hb, hab6, rfl, rfl⟩, d1, d2⟩
  · exact ⟨(1, -1), by rw [d1]; rfl, fun h' u => by dsimp only; rw [d2 h' u]; rfl⟩
  rcases p_wheel (h := h) z with ⟨e1, e2⟩ | ⟨⟨n, n1, n9, rfl⟩, e1, e2⟩
  · exact ⟨(1, -1), by rw [d1, e1]; rfl, fun h' u => by dsimp only; rw [d2 h' u, e2 h' u]; rfl⟩
  have hp := pw9 n9
  have hp9 : 10 ^ n ≤ 10 ^ 9 := Nat.pow_le_pow_right (by decide) n9
  have hE : 10 ^ (b - a + 1) ≤ 10 ^ 6 := Nat.pow_le_pow_right (by decide) (by omega)
  have hE0 : 0 < 10 ^ (b - a + 1) := Nat.pow_pos (by decide)
  have hS := wsm_le (A := A) hab6 (oN A)
  by_cases t0 : t < 0
  · exact ⟨(1, -1), by rw [d1, e1]; simp only [Option.bind_some, if_pos t0]; rfl, fun h' u => by dsimp only; rw [d2 h' u, e2 h' u]; simp only [Option.bind_some, if_pos t0]; rfl⟩
  obtain ⟨T, hT, rfl⟩ := nI_of t0
  by_cases tW : 10 ^ n ≤ T
  · exact ⟨(1, -1), by simp (disch := omega) only [↓m1_n, li_n, li_0, li_1, lt_y, lt_n, le_y, le_n, eq_n, nL, nLe, nEq, nEm, mEn, nLm, mLn, nLem, mLen, nI_add, nI_mul, nI_sub, nI_m, ib_nI, nx_nI, gd_tt, bnd_eq, Option.bind_some, ↓reduceIte, hI_uI_o, hI_uI_s, hI_uI_e, hL_uI, hI_uL, hL_uL_o, hL_uL_s, hL_uL_e, and1_a, and1_b, Bool.not_true, Bool.not_false, Nat.zero_add, Nat.add_zero, Nat.add_sub_cancel, eq_self, ne_b, g0_0, g0_1, g0_2, g0_3, g0_4, g0_5, g0_6, g0_7, g0_8, g0_9, n1, n2, g3_2, g3_3, g3_4, g3_5, g3_6, g3_7, g3_8, g3_9, n4, n5, n6, n7, n8, n9, g10_2, g10_3, g10_4, g10_5, n11, n12, n13, n14, g15_2, g15_3, g15_4, g15_5, n16, n17, n18, n19, g40_0, g40_1, g40_2, g44_0, g44_2, g44_3, g44_5, g44_6, g44_10, g51_3, g51_4, g51_5, g51_6, g51_7, g57_3, g57_4, g57_5, g57_6, g57_7, n120, n121, g122_0, g122_4, g122_5, g122_6, g122_7, g122_8, g122_18, g122_19, g122_20, g122_21, g122_24, g122_25, g122_28, g122_29, g122_31, g122_32, g122_33, g122_39, g122_40, g122_41, g122_45, g122_46, g122_47, g122_48, n123, n124, n125, n126, n127, n128, n129, n130, n131, n132, n133, n134, n135, n136, n137, n138, n139, n140, n141, n142, n143, n144, n145, n146, d1, e1, c_tenTo] <;> rfl, fun h' u => by simp (disch := omega) only [↓m1_n, li_n, li_0, li_1, lt_y, lt_n, le_y, le_n, eq_n, nL, nLe, nEq, nEm, mEn, nLm, mLn, nLem, mLen, nI_add, nI_mul, nI_sub, nI_m, ib_nI, nx_nI, gd_tt, bnd_eq, Option.bind_some, ↓reduceIte, hI_uI_o, hI_uI_s, hI_uI_e, hL_uI, hI_uL, hL_uL_o, hL_uL_s, hL_uL_e, and1_a, and1_b, Bool.not_true, Bool.not_false, Nat.zero_add, Nat.add_zero, Nat.add_sub_cancel, eq_self, ne_b, g0_0, g0_1, g0_2, g0_3, g0_4, g0_5, g0_6, g0_7, g0_8, g0_9, n1, n2, g3_2, g3_3, g3_4, g3_5, g3_6, g3_7, g3_8, g3_9, n4, n5, n6, n7, n8, n9, g10_2, g10_3, g10_4, g10_5, n11, n12, n13, n14, g15_2, g15_3, g15_4, g15_5, n16, n17, n18, n19, g40_0, g40_1, g40_2, g44_0, g44_2, g44_3, g44_5, g44_6, g44_10, g51_3, g51_4, g51_5, g51_6, g51_7, g57_3, g57_4, g57_5, g57_6, g57_7, n120, n121, g122_0, g122_4, g122_5, g122_6, g122_7, g122_8, g122_18, g122_19, g122_20, g122_21, g122_24, g122_25, g122_28, g122_29, g122_31, g122_32, g122_33, g122_39, g122_40, g122_41, g122_45, g122_46, g122_47, g122_48, n123, n124, n125, n126, n127, n128, n129, n130, n131, n132, n133, n134, n135, n136, n137, n138, n139, n140, n141, n142, n143, n144, n145, n146, d2 h' u, e2 h' u, m_tens] <;> rfl⟩
  rcases b01 v with p | p
  · refine ⟨(1, -1), ?_, fun h' u => ?_⟩
    · rcases p with p | ⟨p1, p2⟩
      · simp (disch := omega) only [↓m1_n, li_n, li_0, li_1, lt_y, lt_n, le_y, le_n, eq_n, nL, nLe, nEq, nEm, mEn, nLm, mLn, nLem, mLen, nI_add, nI_mul, nI_sub, nI_m, ib_nI, nx_nI, gd_tt, bnd_eq, Option.bind_some, ↓reduceIte, hI_uI_o, hI_uI_s, hI_uI_e, hL_uI, hI_uL, hL_uL_o, hL_uL_s, hL_uL_e, and1_a, and1_b, Bool.not_true, Bool.not_false, Nat.zero_add, Nat.add_zero, Nat.add_sub_cancel, eq_self, ne_b, g0_0, g0_1, g0_2, g0_3, g0_4, g0_5, g0_6, g0_7, g0_8, g0_9, n1, n2, g3_2, g3_3, g3_4, g3_5, g3_6, g3_7, g3_8, g3_9, n4, n5, n6, n7, n8, n9, g10_2, g10_3, g10_4, g10_5, n11, n12, n13, n14, g15_2, g15_3, g15_4, g15_5, n16, n17, n18, n19, g40_0, g40_1, g40_2, g44_0, g44_2, g44_3, g44_5, g44_6, g44_10, g51_3, g51_4, g51_5, g51_6, g51_7, g57_3, g57_4, g57_5, g57_6, g57_7, n120, n121, g122_0, g122_4, g122_5, g122_6, g122_7, g122_8, g122_18, g122_19, g122_20, g122_21, g122_24, g122_25, g122_28, g122_29, g122_31, g122_32, g122_33, g122_39, g122_40, g122_41, g122_45, g122_46, g122_47, g122_48, n123, n124, n125, n126, n127, n128, n129, n130, n131, n132, n133, n134, n135, n136, n137, n138, n139, n140, n141, n142, n143, n144, n145, n146, d1, e1, c_tenTo] <;> simp only [show v < nI 0 from p, if_true] <;> rfl
      · simp (disch := omega) only [↓m1_n, li_n, li_0, li_1, lt_y, lt_n, le_y, le_n, eq_n, nL, nLe, nEq, nEm, mEn, nLm, mLn, nLem, mLen, nI_add, nI_mul, nI_sub, nI_m, ib_nI, nx_nI, gd_tt, bnd_eq, Option.bind_some, ↓reduceIte, hI_uI_o, hI_uI_s, hI_uI_e, hL_uI, hI_uL, hL_uL_o, hL_uL_s, hL_uL_e, and1_a, and1_b, Bool.not_true, Bool.not_false, Nat.zero_add, Nat.add_zero, Nat.add_sub_cancel, eq_self, ne_b, g0_0, g0_1, g0_2, g0_3, g0_4, g0_5, g0_6, g0_7, g0_8, g0_9, n1, n2, g3_2, g3_3, g3_4, g3_5, g3_6, g3_7, g3_8, g3_9, n4, n5, n6, n7, n8, n9, g10_2, g10_3, g10_4, g10_5, n11, n12, n13, n14, g15_2, g15_3, g15_4, g15_5, n16, n17, n18, n19, g40_0, g40_1, g40_2, g44_0, g44_2, g44_3, g44_5, g44_6, g44_10, g51_3, g51_4, g51_5, g51_6, g51_7, g57_3, g57_4, g57_5, g57_6, g57_7, n120, n121, g122_0, g122_4, g122_5, g122_6, g122_7, g122_8, g122_18, g122_19, g122_20, g122_21, g122_24, g122_25, g122_28, g122_29, g122_31, g122_32, g122_33, g122_39, g122_40, g122_41, g122_45, g122_46, g122_47, g122_48, n123, n124, n125, n126, n127, n128, n129, n130, n131, n132, n133, n134, n135, n136, n137, n138, n139, n140, n141, n142, n143, n144, n145, n146, d1, e1, c_tenTo] <;> simp only [show ¬ v < nI 0 from p1, show ¬ v ≤ nI 1 from p2, if_false] <;> rfl
    · rcases p with p | ⟨p1, p2⟩
      · simp (disch := omega) only [↓m1_n, li_n, li_0, li_1, lt_y, lt_n, le_y, le_n, eq_n, nL, nLe, nEq, nEm, mEn, nLm, mLn, nLem, mLen, nI_add, nI_mul, nI_sub, nI_m, ib_nI, nx_nI, gd_tt, bnd_eq, Option.bind_some, ↓reduceIte, hI_uI_o, hI_uI_s, hI_uI_e, hL_uI, hI_uL, hL_uL_o, hL_uL_s, hL_uL_e, and1_a, and1_b, Bool.not_true, Bool.not_false, Nat.zero_add, Nat.add_zero, Nat.add_sub_cancel, eq_self, ne_b, g0_0, g0_1, g0_2, g0_3, g0_4, g0_5, g0_6, g0_7, g0_8, g0_9, n1, n2, g3_2, g3_3, g3_4, g3_5, g3_6, g3_7, g3_8, g3_9, n4, n5, n6, n7, n8, n9, g10_2, g10_3, g10_4, g10_5, n11, n12, n13, n14, g15_2, g15_3, g15_4, g15_5, n16, n17, n18, n19, g40_0, g40_1, g40_2, g44_0, g44_2, g44_3, g44_5, g44_6, g44_10, g51_3, g51_4, g51_5, g51_6, g51_7, g57_3, g57_4, g57_5, g57_6, g57_7, n120, n121, g122_0, g122_4, g122_5, g122_6, g122_7, g122_8, g122_18, g122_19, g122_20, g122_21, g122_24, g122_25, g122_28, g122_29, g122_31, g122_32, g122_33, g122_39, g122_40, g122_41, g122_45, g122_46, g122_47, g122_48, n123, n124, n125, n126, n127, n128, n129, n130, n131, n132, n133, n134, n135, n136, n137, n138, n139, n140, n141, n142, n143, n144, n145, n146, d2 h' u, e2 h' u, m_tens] <;> simp only [show v < nI 0 from p, if_true] <;> rfl
      · simp (disch := omega) only [↓m1_n, li_n, li_0, li_1, lt_y, lt_n, le_y, le_n, eq_n, nL, nLe, nEq, nEm, mEn, nLm, mLn, nLem, mLen, nI_add, nI_mul, nI_sub, nI_m, ib_nI, nx_nI, gd_tt, bnd_eq, Option.bind_some, ↓reduceIte, hI_uI_o, hI_uI_s, hI_uI_e, hL_uI, hI_uL, hL_uL_o, hL_uL_s, hL_uL_e, and1_a, and1_b, Bool.not_true, Bool.not_false, Nat.zero_add, Nat.add_zero, Nat.add_sub_cancel, eq_self, ne_b, g0_0, g0_1, g0_2, g0_3, g0_4, g0_5, g0_6, g0_7, g0_8, g0_9, n1, n2, g3_2, g3_3, g3_4, g3_5, g3_6, g3_7, g3_8, g3_9, n4, n5, n6, n7, n8, n9, g10_2, g10_3, g10_4, g10_5, n11, n12, n13, n14, g15_2, g15_3, g15_4, g15_5, n16, n17, n18, n19, g40_0, g40_1, g40_2, g44_0, g44_2, g44_3, g44_5, g44_6, g44_10, g51_3, g51_4, g51_5, g51_6, g51_7, g57_3, g57_4, g57_5, g57_6, g57_7, n120, n121, g122_0, g122_4, g122_5, g122_6, g122_7, g122_8, g122_18, g122_19, g122_20, g122_21, g122_24, g122_25, g122_28, g122_29, g122_31, g122_32, g122_33, g122_39, g122_40, g122_41, g122_45, g122_46, g122_47, g122_48, n123, n124, n125, n126, n127, n128, n129, n130, n131, n132, n133, n134, n135, n136, n137, n138, n139, n140, n141, n142, n143, n144, n145, n146, d2 h' u, e2 h' u, m_tens] <;> simp only [show ¬ v < nI 0 from p1, show ¬ v ≤ nI 1 from p2, if_false] <;> rfl
  have hL : lst T (wsm A a b (oN A)) (10 ^ n) < 10 ^ n := Nat.mod_lt _ (by omega)
  have f1 := fmr_v (t := T) (S := wsm A a b (oN A)) (W := 10 ^ n) (by omega) (by omega) (by omega) (by omega)
  have f2 := ref_v (t := T) (S := wsm A a b (oN A)) (W := 10 ^ n) (by omega) (by omega) (by omega)
  have f3 := fun h' => m_lostL (h := h') (F := lst T (wsm A a b (oN A)) (10 ^ n)) (E := 10 ^ (b - a + 1)) (W := 10 ^ n) (w := v) (by omega) (by omega) (by omega) (by omega)
  generalize lst T (wsm A a b (oN A)) (10 ^ n) = F at *
  by_cases hF : F < 10 ^ (b - a + 1)
  · have g1 : lstN F (10 ^ (b - a + 1)) (10 ^ n) = 1 + (10 ^ (b - a + 1) - 1 - F) / 10 ^ n := if_pos hF
    have g2 : (10 ^ (b - a + 1) - 1 - F) / 10 ^ n ≤ 10 ^ (b - a + 1) - 1 - F := Nat.div_le_self _ _
    rw [g1, if_pos hF] at f3
    rcases p with rfl | rfl
    · exact ⟨(0, nI (1 + (10 ^ (b - a + 1) - 1 - F) / 10 ^ n)), by simp (disch := omega) only [↓m1_n, li_n, li_0, li_1, lt_y, lt_n, le_y, le_n, eq_n, nL, nLe, nEq, nEm, mEn, nLm, mLn, nLem, mLen, nI_add, nI_mul, nI_sub, nI_m, ib_nI, nx_nI, gd_tt, bnd_eq, Option.bind_some, ↓reduceIte, hI_uI_o, hI_uI_s, hI_uI_e, hL_uI, hI_uL, hL_uL_o, hL_uL_s, hL_uL_e, and1_a, and1_b, Bool.not_true, Bool.not_false, Nat.zero_add, Nat.add_zero, Nat.add_sub_cancel, eq_self, ne_b, g0_0, g0_1, g0_2, g0_3, g0_4, g0_5, g0_6, g0_7, g0_8, g0_9, n1, n2, g3_2, g3_3, g3_4, g3_5, g3_6, g3_7, g3_8, g3_9, n4, n5, n6, n7, n8, n9, g10_2, g10_3, g10_4, g10_5, n11, n12, n13, n14, g15_2, g15_3, g15_4, g15_5, n16, n17, n18, n19, g40_0, g40_1, g40_2, g44_0, g44_2, g44_3, g44_5, g44_6, g44_10, g51_3, g51_4, g51_5, g51_6, g51_7, g57_3, g57_4, g57_5, g57_6, g57_7, n120, n121, g122_0, g122_4, g122_5, g122_6, g122_7, g122_8, g122_18, g122_19, g122_20, g122_21, g122_24, g122_25, g122_28, g122_29, g122_31, g122_32, g122_33, g122_39, g122_40, g122_41, g122_45, g122_46, g122_47, g122_48, n123, n124, n125, n126, n127, n128, n129, n130, n131, n132, n133, n134, n135, n136, n137, n138, n139, n140, n141, n142, n143, n144, n145, n146, d1, e1, c_tenTo, c_wholeSum ok rc, f1, pk_div] <;> rfl, fun h' u => by simp (disch := omega) only [↓m1_n, li_n, li_0, li_1, lt_y, lt_n, le_y, le_n, eq_n, nL, nLe, nEq, nEm, mEn, nLm, mLn, nLem, mLen, nI_add, nI_mul, nI_sub, nI_m, ib_nI, nx_nI, gd_tt, bnd_eq, Option.bind_some, ↓reduceIte, hI_uI_o, hI_uI_s, hI_uI_e, hL_uI, hI_uL, hL_uL_o, hL_uL_s, hL_uL_e, and1_a, and1_b, Bool.not_true, Bool.not_false, Nat.zero_add, Nat.add_zero, Nat.add_sub_cancel, eq_self, ne_b, g0_0, g0_1, g0_2, g0_3, g0_4, g0_5, g0_6, g0_7, g0_8, g0_9, n1, n2, g3_2, g3_3, g3_4, g3_5, g3_6, g3_7, g3_8, g3_9, n4, n5, n6, n7, n8, n9, g10_2, g10_3, g10_4, g10_5, n11, n12, n13, n14, g15_2, g15_3, g15_4, g15_5, n16, n17, n18, n19, g40_0, g40_1, g40_2, g44_0, g44_2, g44_3, g44_5, g44_6, g44_10, g51_3, g51_4, g51_5, g51_6, g51_7, g57_3, g57_4, g57_5, g57_6, g57_7, n120, n121, g122_0, g122_4, g122_5, g122_6, g122_7, g122_8, g122_18, g122_19, g122_20, g122_21, g122_24, g122_25, g122_28, g122_29, g122_31, g122_32, g122_33, g122_39, g122_40, g122_41, g122_45, g122_46, g122_47, g122_48, n123, n124, n125, n126, n127, n128, n129, n130, n131, n132, n133, n134, n135, n136, n137, n138, n139, n140, n141, n142, n143, n144, n145, n146, li_l, cge, cle, cgt, clt, lNL, lNLe, lNEq, nI_l, lN_add, lN_i, d2 h' u, e2 h' u, m_tens, m_wholeSum ok (u.rm rm), f2, f3] <;> rfl⟩
    · generalize (10 ^ (b - a + 1) - 1 - F) / 10 ^ n = Q at *
      exact ⟨(0, nI F), by simp (disch := omega) only [↓m1_n, li_n, li_0, li_1, lt_y, lt_n, le_y, le_n, eq_n, nL, nLe, nEq, nEm, mEn, nLm, mLn, nLem, mLen, nI_add, nI_mul, nI_sub, nI_m, ib_nI, nx_nI, gd_tt, bnd_eq, Option.bind_some, ↓reduceIte, hI_uI_o, hI_uI_s, hI_uI_e, hL_uI, hI_uL, hL_uL_o, hL_uL_s, hL_uL_e, and1_a, and1_b, Bool.not_true, Bool.not_false, Nat.zero_add, Nat.add_zero, Nat.add_sub_cancel, eq_self, ne_b, g0_0, g0_1, g0_2, g0_3, g0_4, g0_5, g0_6, g0_7, g0_8, g0_9, n1, n2, g3_2, g3_3, g3_4, g3_5, g3_6, g3_7, g3_8, g3_9, n4, n5, n6, n7, n8, n9, g10_2, g10_3, g10_4, g10_5, n11, n12, n13, n14, g15_2, g15_3, g15_4, g15_5, n16, n17, n18, n19, g40_0, g40_1, g40_2, g44_0, g44_2, g44_3, g44_5, g44_6, g44_10, g51_3, g51_4, g51_5, g51_6, g51_7, g57_3, g57_4, g57_5, g57_6, g57_7, n120, n121, g122_0, g122_4, g122_5, g122_6, g122_7, g122_8, g122_18, g122_19, g122_20, g122_21, g122_24, g122_25, g122_28, g122_29, g122_31, g122_32, g122_33, g122_39, g122_40, g122_41, g122_45, g122_46, g122_47, g122_48, n123, n124, n125, n126, n127, n128, n129, n130, n131, n132, n133, n134, n135, n136, n137, n138, n139, n140, n141, n142, n143, n144, n145, n146, d1, e1, c_tenTo, c_wholeSum ok rc, f1] <;> rfl, fun h' u => by simp (disch := omega) only [↓m1_n, li_n, li_0, li_1, lt_y, lt_n, le_y, le_n, eq_n, nL, nLe, nEq, nEm, mEn, nLm, mLn, nLem, mLen, nI_add, nI_mul, nI_sub, nI_m, ib_nI, nx_nI, gd_tt, bnd_eq, Option.bind_some, ↓reduceIte, hI_uI_o, hI_uI_s, hI_uI_e, hL_uI, hI_uL, hL_uL_o, hL_uL_s, hL_uL_e, and1_a, and1_b, Bool.not_true, Bool.not_false, Nat.zero_add, Nat.add_zero, Nat.add_sub_cancel, eq_self, ne_b, g0_0, g0_1, g0_2, g0_3, g0_4, g0_5, g0_6, g0_7, g0_8, g0_9, n1, n2, g3_2, g3_3, g3_4, g3_5, g3_6, g3_7, g3_8, g3_9, n4, n5, n6, n7, n8, n9, g10_2, g10_3, g10_4, g10_5, n11, n12, n13, n14, g15_2, g15_3, g15_4, g15_5, n16, n17, n18, n19, g40_0, g40_1, g40_2, g44_0, g44_2, g44_3, g44_5, g44_6, g44_10, g51_3, g51_4, g51_5, g51_6, g51_7, g57_3, g57_4, g57_5, g57_6, g57_7, n120, n121, g122_0, g122_4, g122_5, g122_6, g122_7, g122_8, g122_18, g122_19, g122_20, g122_21, g122_24, g122_25, g122_28, g122_29, g122_31, g122_32, g122_33, g122_39, g122_40, g122_41, g122_45, g122_46, g122_47, g122_48, n123, n124, n125, n126, n127, n128, n129, n130, n131, n132, n133, n134, n135, n136, n137, n138, n139, n140, n141, n142, n143, n144, n145, n146, li_l, cge, cle, cgt, clt, lNL, lNLe, lNEq, nI_l, lN_add, lN_i, d2 h' u, e2 h' u, m_tens, m_wholeSum ok (u.rm rm), f2, f3] <;> rfl⟩
  · have g1 : lstN F (10 ^ (b - a + 1)) (10 ^ n) = 0 := if_neg hF
    rw [g1, if_neg hF] at f3
    rcases p with rfl | rfl
    · exact ⟨(0, nI 0), by simp (disch := omega) only [↓m1_n, li_n, li_0, li_1, lt_y, lt_n, le_y, le_n, eq_n, nL, nLe, nEq, nEm, mEn, nLm, mLn, nLem, mLen, nI_add, nI_mul, nI_sub, nI_m, ib_nI, nx_nI, gd_tt, bnd_eq, Option.bind_some, ↓reduceIte, hI_uI_o, hI_uI_s, hI_uI_e, hL_uI, hI_uL, hL_uL_o, hL_uL_s, hL_uL_e, and1_a, and1_b, Bool.not_true, Bool.not_false, Nat.zero_add, Nat.add_zero, Nat.add_sub_cancel, eq_self, ne_b, g0_0, g0_1, g0_2, g0_3, g0_4, g0_5, g0_6, g0_7, g0_8, g0_9, n1, n2, g3_2, g3_3, g3_4, g3_5, g3_6, g3_7, g3_8, g3_9, n4, n5, n6, n7, n8, n9, g10_2, g10_3, g10_4, g10_5, n11, n12, n13, n14, g15_2, g15_3, g15_4, g15_5, n16, n17, n18, n19, g40_0, g40_1, g40_2, g44_0, g44_2, g44_3, g44_5, g44_6, g44_10, g51_3, g51_4, g51_5, g51_6, g51_7, g57_3, g57_4, g57_5, g57_6, g57_7, n120, n121, g122_0, g122_4, g122_5, g122_6, g122_7, g122_8, g122_18, g122_19, g122_20, g122_21, g122_24, g122_25, g122_28, g122_29, g122_31, g122_32, g122_33, g122_39, g122_40, g122_41, g122_45, g122_46, g122_47, g122_48, n123, n124, n125, n126, n127, n128, n129, n130, n131, n132, n133, n134, n135, n136, n137, n138, n139, n140, n141, n142, n143, n144, n145, n146, d1, e1, c_tenTo, c_wholeSum ok rc, f1] <;> rfl, fun h' u => by simp (disch := omega) only [↓m1_n, li_n, li_0, li_1, lt_y, lt_n, le_y, le_n, eq_n, nL, nLe, nEq, nEm, mEn, nLm, mLn, nLem, mLen, nI_add, nI_mul, nI_sub, nI_m, ib_nI, nx_nI, gd_tt, bnd_eq, Option.bind_some, ↓reduceIte, hI_uI_o, hI_uI_s, hI_uI_e, hL_uI, hI_uL, hL_uL_o, hL_uL_s, hL_uL_e, and1_a, and1_b, Bool.not_true, Bool.not_false, Nat.zero_add, Nat.add_zero, Nat.add_sub_cancel, eq_self, ne_b, g0_0, g0_1, g0_2, g0_3, g0_4, g0_5, g0_6, g0_7, g0_8, g0_9, n1, n2, g3_2, g3_3, g3_4, g3_5, g3_6, g3_7, g3_8, g3_9, n4, n5, n6, n7, n8, n9, g10_2, g10_3, g10_4, g10_5, n11, n12, n13, n14, g15_2, g15_3, g15_4, g15_5, n16, n17, n18, n19, g40_0, g40_1, g40_2, g44_0, g44_2, g44_3, g44_5, g44_6, g44_10, g51_3, g51_4, g51_5, g51_6, g51_7, g57_3, g57_4, g57_5, g57_6, g57_7, n120, n121, g122_0, g122_4, g122_5, g122_6, g122_7, g122_8, g122_18, g122_19, g122_20, g122_21, g122_24, g122_25, g122_28, g122_29, g122_31, g122_32, g122_33, g122_39, g122_40, g122_41, g122_45, g122_46, g122_47, g122_48, n123, n124, n125, n126, n127, n128, n129, n130, n131, n132, n133, n134, n135, n136, n137, n138, n139, n140, n141, n142, n143, n144, n145, n146, li_l, cge, cle, cgt, clt, lNL, lNLe, lNEq, nI_l, lN_add, lN_i, d2 h' u, e2 h' u, m_tens, m_wholeSum ok (u.rm rm), f2, f3] <;> rfl⟩
    · exact ⟨(6, -1), by simp (disch := omega) only [↓m1_n, li_n, li_0, li_1, lt_y, lt_n, le_y, le_n, eq_n, nL, nLe, nEq, nEm, mEn, nLm, mLn, nLem, mLen, nI_add, nI_mul, nI_sub, nI_m, ib_nI, nx_nI, gd_tt, bnd_eq, Option.bind_some, ↓reduceIte, hI_uI_o, hI_uI_s, hI_uI_e, hL_uI, hI_uL, hL_uL_o, hL_uL_s, hL_uL_e, and1_a, and1_b, Bool.not_true, Bool.not_false, Nat.zero_add, Nat.add_zero, Nat.add_sub_cancel, eq_self, ne_b, g0_0, g0_1, g0_2, g0_3, g0_4, g0_5, g0_6, g0_7, g0_8, g0_9, n1, n2, g3_2, g3_3, g3_4, g3_5, g3_6, g3_7, g3_8, g3_9, n4, n5, n6, n7, n8, n9, g10_2, g10_3, g10_4, g10_5, n11, n12, n13, n14, g15_2, g15_3, g15_4, g15_5, n16, n17, n18, n19, g40_0, g40_1, g40_2, g44_0, g44_2, g44_3, g44_5, g44_6, g44_10, g51_3, g51_4, g51_5, g51_6, g51_7, g57_3, g57_4, g57_5, g57_6, g57_7, n120, n121, g122_0, g122_4, g122_5, g122_6, g122_7, g122_8, g122_18, g122_19, g122_20, g122_21, g122_24, g122_25, g122_28, g122_29, g122_31, g122_32, g122_33, g122_39, g122_40, g122_41, g122_45, g122_46, g122_47, g122_48, n123, n124, n125, n126, n127, n128, n129, n130, n131, n132, n133, n134, n135, n136, n137, n138, n139, n140, n141, n142, n143, n144, n145, n146, d1, e1, c_tenTo, c_wholeSum ok rc, f1] <;> rfl, fun h' u => by simp (disch := omega) only [↓m1_n, li_n, li_0, li_1, lt_y, lt_n, le_y, le_n, eq_n, nL, nLe, nEq, nEm, mEn, nLm, mLn, nLem, mLen, nI_add, nI_mul, nI_sub, nI_m, ib_nI, nx_nI, gd_tt, bnd_eq, Option.bind_some, ↓reduceIte, hI_uI_o, hI_uI_s, hI_uI_e, hL_uI, hI_uL, hL_uL_o, hL_uL_s, hL_uL_e, and1_a, and1_b, Bool.not_true, Bool.not_false, Nat.zero_add, Nat.add_zero, Nat.add_sub_cancel, eq_self, ne_b, g0_0, g0_1, g0_2, g0_3, g0_4, g0_5, g0_6, g0_7, g0_8, g0_9, n1, n2, g3_2, g3_3, g3_4, g3_5, g3_6, g3_7, g3_8, g3_9, n4, n5, n6, n7, n8, n9, g10_2, g10_3, g10_4, g10_5, n11, n12, n13, n14, g15_2, g15_3, g15_4, g15_5, n16, n17, n18, n19, g40_0, g40_1, g40_2, g44_0, g44_2, g44_3, g44_5, g44_6, g44_10, g51_3, g51_4, g51_5, g51_6, g51_7, g57_3, g57_4, g57_5, g57_6, g57_7, n120, n121, g122_0, g122_4, g122_5, g122_6, g122_7, g122_8, g122_18, g122_19, g122_20, g122_21, g122_24, g122_25, g122_28, g122_29, g122_31, g122_32, g122_33, g122_39, g122_40, g122_41, g122_45, g122_46, g122_47, g122_48, n123, n124, n125, n126, n127, n128, n129, n130, n131, n132, n133, n134, n135, n136, n137, n138, n139, n140, n141, n142, n143, n144, n145, n146, li_l, cge, cle, cgt, clt, lNL, lNLe, lNEq, nI_l, lN_add, lN_i, d2 h' u, e2 h' u, m_tens, m_wholeSum ok (u.rm rm), f2, f3] <;> rfl⟩
