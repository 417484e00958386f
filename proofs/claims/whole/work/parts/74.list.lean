/-! ===== list: how many bits are set ===== -/
theorem nI_and (a b : Nat) : nI a &&& nI b = nI (a &&& b) := by
  apply Int32.toBitVec_inj.mp
  apply BitVec.eq_of_toNat_eq
  rw [Int32.toBitVec_and, BitVec.toNat_and]
  show (BitVec.ofNat 32 a).toNat &&& (BitVec.ofNat 32 b).toNat = (BitVec.ofNat 32 (a &&& b)).toNat
  rw [BitVec.toNat_ofNat, BitVec.toNat_ofNat, BitVec.toNat_ofNat, Nat.and_mod_two_pow]
theorem nI_or (a b : Nat) : nI a ||| nI b = nI (a ||| b) := by
  apply Int32.toBitVec_inj.mp
  apply BitVec.eq_of_toNat_eq
  rw [Int32.toBitVec_or, BitVec.toNat_or]
  show (BitVec.ofNat 32 a).toNat ||| (BitVec.ofNat 32 b).toNat = (BitVec.ofNat 32 (a ||| b)).toNat
  rw [BitVec.toNat_ofNat, BitVec.toNat_ofNat, BitVec.toNat_ofNat, Nat.or_mod_two_pow]
/-- the lowest byte of a word under a mask, behind a shift -/
theorem hby {a b k m M : Nat} (hb : b < 256) (hk : k = 0 ∨ k = 1 ∨ k = 2 ∨ k = 4) (hm : m < 2 ^ (8 - k)) : (256 * a + b) / 2 ^ k &&& (256 * M + m) = 256 * (a / 2 ^ k &&& M) + (b / 2 ^ k &&& m) := by
  have hm2 : m < 256 := by rcases hk with rfl | rfl | rfl | rfl <;> omega
  have e1 : ((256 * a + b) / 2 ^ k &&& (256 * M + m)) / 2 ^ 8 = a / 2 ^ k &&& M := by
    rw [Nat.and_div_two_pow]
    congr 1
    · rcases hk with rfl | rfl | rfl | rfl <;> omega
    · omega
  have e2 : ((256 * a + b) / 2 ^ k &&& (256 * M + m)) % 2 ^ 8 = b / 2 ^ k &&& m := by
    have s1 : ∀ u v : Nat, u % 2 ^ (8 - k) = v % 2 ^ (8 - k) → u &&& m = v &&& m := by
      intro u v e
      have x1 : (u &&& m) % 2 ^ (8 - k) = u &&& m := Nat.mod_eq_of_lt (Nat.lt_of_le_of_lt Nat.and_le_right hm)
      have x2 : (v &&& m) % 2 ^ (8 - k) = v &&& m := Nat.mod_eq_of_lt (Nat.lt_of_le_of_lt Nat.and_le_right hm)
      rw [← x1, ← x2, Nat.and_mod_two_pow, Nat.and_mod_two_pow, e]
    rw [Nat.and_mod_two_pow, show (256 * M + m) % 2 ^ 8 = m by omega]
    apply s1
    rcases hk with rfl | rfl | rfl | rfl <;> omega
  omega
def w1 (M x : Nat) : Nat := x - (x / 2 ^ 1 &&& M)
def w2 (M x : Nat) : Nat := (x / 2 ^ 0 &&& M) + (x / 2 ^ 2 &&& M)
def w3 (M x : Nat) : Nat := (x + x / 2 ^ 4) / 2 ^ 0 &&& M
theorem w1_h {a b M : Nat} (hb : b < 256) : w1 (256 * M + 85) (256 * a + b) = 256 * w1 M a + w1 85 b := by
  unfold w1
  rw [hby hb (by omega) (by decide)]
  have f : ∀ u v, u / 2 ^ 1 &&& v ≤ u := fun u v => Nat.le_trans Nat.and_le_left (Nat.div_le_self _ _)
  have fa := f a M
  have fb := f b 85
  omega
theorem w2_h {a b M : Nat} (hb : b < 256) : w2 (256 * M + 51) (256 * a + b) = 256 * w2 M a + w2 51 b := by
  unfold w2
  rw [hby hb (by omega) (by decide), hby hb (by omega) (by decide)]
  omega
theorem w3_h {a b M : Nat} (hb : b ≤ 68) (ha : a % 16 ≤ 4) : w3 (256 * M + 15) (256 * a + b) = 256 * w3 M a + w3 15 b := by
  unfold w3
  have e : 256 * a + b + (256 * a + b) / 2 ^ 4 = 256 * (a + a / 2 ^ 4) + (16 * (a % 16) + (b + b / 2 ^ 4)) := by omega
  rw [e, hby (by omega) (by omega) (by decide), Nat.pow_zero, Nat.div_one, Nat.div_one, Nat.div_one, Nat.and_two_pow_sub_one_eq_mod _ 4, Nat.and_two_pow_sub_one_eq_mod _ 4]
  omega
theorem w_all : ∀ b, b < 256 → w1 85 b < 256 ∧ w2 51 (w1 85 b) ≤ 68 ∧ w2 51 (w1 85 b) % 16 ≤ 4 ∧ w3 15 (w2 51 (w1 85 b)) = pcN 8 b ∧ pcN 8 b ≤ 8 := by decide +kernel
def w5 (x : Nat) : Nat := (x + x / 2 ^ 8 + (x + x / 2 ^ 8) / 2 ^ 16) % 2 ^ 6
theorem pc_half : ∀ n a b, b < 2 ^ n → ∀ m, pcN (n + m) (2 ^ n * a + b) = pcN m a + pcN n b := by
  intro n
  induction n with
  | zero =>
    intro a b hb m
    rw [show b = 0 by omega]
    simp [pcN]
  | succ n ih =>
    intro a b hb m
    rw [show n + 1 + m = (n + m) + 1 by omega, pcN, pcN, Nat.pow_succ]
    have h1 : (2 ^ n * 2 * a + b) / 2 = 2 ^ n * a + b / 2 := by
      rw [Nat.mul_assoc, Nat.mul_left_comm]
      omega
    have h2 : (2 ^ n * 2 * a + b) % 2 = b % 2 := by
      rw [Nat.mul_assoc, Nat.mul_left_comm]
      omega
    rw [h1, h2, ih a (b / 2) (by rw [Nat.pow_succ] at hb; omega)]
    omega
theorem w5_s {p0 p1 p2 p3 : Nat} (h0 : p0 ≤ 8) (h1 : p1 ≤ 8) (h2 : p2 ≤ 8) (h3 : p3 ≤ 8) : w5 (256 * (256 * (256 * p3 + p2) + p1) + p0) = p3 + p2 + p1 + p0 := by
  unfold w5
  have e1 : (256 * (256 * (256 * p3 + p2) + p1) + p0) / 2 ^ 8 = 256 * (256 * p3 + p2) + p1 := by omega
  rw [e1]
  have e2 : (256 * (256 * (256 * p3 + p2) + p1) + p0 + (256 * (256 * p3 + p2) + p1)) / 2 ^ 16 = 256 * p3 + p2 + p3 := by omega
  rw [e2]
  omega
theorem w_bits {x : Nat} (hx : x < 2 ^ 32) : w5 (w3 252645135 (w2 858993459 (w1 1431655765 x))) = pcN 32 x := by
  obtain ⟨a0, b0, hb0, rfl⟩ : ∃ a b, b < 256 ∧ x = 256 * a + b := ⟨x / 256, x % 256, by omega, by omega⟩
  obtain ⟨a1, b1, hb1, rfl⟩ : ∃ a b, b < 256 ∧ a0 = 256 * a + b := ⟨a0 / 256, a0 % 256, by omega, by omega⟩
  obtain ⟨b3, b2, hb2, rfl⟩ : ∃ a b, b < 256 ∧ a1 = 256 * a + b := ⟨a1 / 256, a1 % 256, by omega, by omega⟩
  have hb3 : b3 < 256 := by omega
  have t0 := w_all b0 hb0
  have t1 := w_all b1 hb1
  have t2 := w_all b2 hb2
  have t3 := w_all b3 hb3
  have p0 := pc_half 8 (256 * (256 * b3 + b2) + b1) b0 hb0 24
  have p1 := pc_half 8 (256 * b3 + b2) b1 hb1 16
  have p2 := pc_half 8 b3 b2 hb2 8
  rw [show (2 : Nat) ^ 8 = 256 by decide] at p0 p1 p2
  rw [p0, p1, p2]
  rw [show 1431655765 = 256 * (256 * (256 * 85 + 85) + 85) + 85 from rfl, show 858993459 = 256 * (256 * (256 * 51 + 51) + 51) + 51 from rfl, show 252645135 = 256 * (256 * (256 * 15 + 15) + 15) + 15 from rfl]
  rw [w1_h hb0, w1_h hb1, w1_h hb2, w2_h t0.1, w2_h t1.1, w2_h t2.1, w3_h t0.2.1 (by omega), w3_h t1.2.1 (by omega), w3_h t2.2.1 (by omega)]
  rw [t0.2.2.2.1, t1.2.2.2.1, t2.2.2.2.1, t3.2.2.2.1]
  have q0 := t0.2.2.2.2
  have q1 := t1.2.2.2.2
  have q2 := t2.2.2.2.2
  have q3 := t3.2.2.2.2
  rw [w5_s q0 q1 q2 q3]
theorem c_bitCount {h : Hp} {x : Nat} (hx : x < 2 ^ 31) : F_J6_bitCount_0f7a4 h (nI x) = some (nI (pcN 32 x)) := by
  unfold F_J6_bitCount_0f7a4
  have l1 : x / 2 ^ 1 &&& 1431655765 ≤ x := Nat.le_trans Nat.and_le_left (Nat.div_le_self _ _)
  have e1 : w1 1431655765 x < 2 ^ 31 := by unfold w1; omega
  have e2 : w2 858993459 (w1 1431655765 x) < 2 ^ 31 := by
    unfold w2
    have := @Nat.and_le_right (w1 1431655765 x / 2 ^ 0) 858993459
    have := @Nat.and_le_right (w1 1431655765 x / 2 ^ 2) 858993459
    omega
  have e3 : w3 252645135 (w2 858993459 (w1 1431655765 x)) ≤ 252645135 := Nat.and_le_right
  rw [show ((nI x).toUInt32 >>> (((1 : Int32)).toUInt32 &&& Int32.toUInt32 31)).toInt32 = nI (x / 2 ^ 1) from pk_ushrN (by omega) 1 1 (by decide), show (1431655765 : Int32) = nI 1431655765 from rfl, nI_and, nI_sub l1, bnd_eq, show x - (x / 2 ^ 1 &&& 1431655765) = w1 1431655765 x from rfl]
  rw [show ((nI (w1 1431655765 x)).toUInt32 >>> (((2 : Int32)).toUInt32 &&& Int32.toUInt32 31)).toInt32 = nI (w1 1431655765 x / 2 ^ 2) from pk_ushrN (by omega) 2 2 (by decide), show (858993459 : Int32) = nI 858993459 from rfl, nI_and, nI_and, nI_add, bnd_eq, show (w1 1431655765 x &&& 858993459) + (w1 1431655765 x / 2 ^ 2 &&& 858993459) = w2 858993459 (w1 1431655765 x) by unfold w2; rw [Nat.pow_zero, Nat.div_one]]
  rw [show ((nI (w2 858993459 (w1 1431655765 x))).toUInt32 >>> (((4 : Int32)).toUInt32 &&& Int32.toUInt32 31)).toInt32 = nI (w2 858993459 (w1 1431655765 x) / 2 ^ 4) from pk_ushrN (by omega) 4 4 (by decide), show (252645135 : Int32) = nI 252645135 from rfl, nI_add, nI_and, bnd_eq, show (w2 858993459 (w1 1431655765 x) + w2 858993459 (w1 1431655765 x) / 2 ^ 4) &&& 252645135 = w3 252645135 (w2 858993459 (w1 1431655765 x)) by unfold w3; rw [Nat.pow_zero, Nat.div_one]]
  rw [← w_bits (x := x) (by omega)]
  generalize w3 252645135 (w2 858993459 (w1 1431655765 x)) = y at *
  rw [show ((nI y).toUInt32 >>> (((8 : Int32)).toUInt32 &&& Int32.toUInt32 31)).toInt32 = nI (y / 2 ^ 8) from pk_ushrN (by omega) 8 8 (by decide), nI_add, bnd_eq]
  rw [show ((nI (y + y / 2 ^ 8)).toUInt32 >>> (((16 : Int32)).toUInt32 &&& Int32.toUInt32 31)).toInt32 = nI ((y + y / 2 ^ 8) / 2 ^ 16) from pk_ushrN (by omega) 16 16 (by decide), nI_add, bnd_eq, show (63 : Int32) = nI 63 from rfl, nI_and, Nat.and_two_pow_sub_one_eq_mod _ 6]
  rfl
/-- Kernighan's step takes one bit away -/
theorem pc_ker : ∀ n w, 0 < w → w < 2 ^ n → pcN n (w &&& (w - 1)) + 1 = pcN n w := by
  intro n
  induction n with
  | zero => intro w h1 h2; omega
  | succ n ih =>
    intro w h1 h2
    rw [Nat.pow_succ] at h2
    rw [pcN, pcN, Nat.and_div_two]
    have hm : (w &&& (w - 1)) % 2 = 0 := by
      have e := @Nat.and_mod_two_pow w (w - 1) 1
      rw [Nat.pow_one] at e
      rw [e]
      have : w % 2 = 0 ∨ w % 2 = 1 := by omega
      rcases this with x | x
      · rw [x, Nat.zero_and]
      · rw [show (w - 1) % 2 = 0 by omega, Nat.and_zero]
    rw [hm]
    by_cases o : w % 2 = 1
    · rw [show (w - 1) / 2 = w / 2 by omega, Nat.and_self, o]
      omega
    · rw [show (w - 1) / 2 = w / 2 - 1 by omega, ← ih (w / 2) (by omega) (by omega)]
      omega
theorem pc_0 : ∀ n, pcN n 0 = 0 := by
  intro n
  induction n with
  | zero => rfl
  | succ n ih => rw [pcN, Nat.zero_div, ih]
theorem m_bits32 {h : Hp} {x : Nat} (hx : x < 2 ^ 31) : F_X12_bits h (nI x) = some (nI (pcN 32 x)) := by
  have key : ∀ k w c, w < 2 ^ 31 → pcN 32 w = k → iterW (fun s : Int32 × Int32 => B_X12_bits_4 h s.1 s.2) (nI c, nI w) = some (nI (c + k)) := by
    intro k
    induction k with
    | zero =>
      intro w c hw e
      have w0 : w = 0 := by
        by_cases z : w = 0
        · exact z
        · have := pc_ker 32 w (by omega) (by omega)
          omega
      subst w0
      exact iterW_end rfl
    | succ k ih =>
      intro w c hw e
      have w0 : w ≠ 0 := fun z => by rw [z, pc_0] at e; omega
      have e2 := pc_ker 32 w (by omega) (by omega)
      have l := @Nat.and_le_left w (w - 1)
      refine (iterW_go (s' := (nI (c + 1), nI (w &&& (w - 1)))) ?_).trans ?_
      · show B_X12_bits_4 _ _ _ = _
        unfold B_X12_bits_4
        simp (disch := omega) only [↓m1_n, li_n, li_0, li_1, lt_y, lt_n, le_y, le_n, eq_n, nL, nLe, nEq, nEm, mEn, nLm, mLn, nLem, mLen, nI_add, nI_mul, nI_sub, nI_m, ib_nI, nx_nI, gd_tt, bnd_eq, Option.bind_some, ↓reduceIte, hI_uI_o, hI_uI_s, hI_uI_e, hL_uI, hI_uL, hL_uL_o, hL_uL_s, hL_uL_e, and1_a, and1_b, Bool.not_true, Bool.not_false, Nat.zero_add, Nat.add_zero, Nat.add_sub_cancel, eq_self, ne_b, g0_0, g0_1, g0_2, g0_3, g0_4, g0_5, g0_6, g0_7, g0_8, g0_9, n1, n2, g3_2, g3_3, g3_4, g3_5, g3_6, g3_7, g3_8, g3_9, n4, n5, n6, n7, n8, n9, g10_2, g10_3, g10_4, g10_5, n11, n12, n13, n14, g15_2, g15_3, g15_4, g15_5, n16, n17, n18, n19, g40_0, g40_1, g40_2, g44_0, g44_2, g44_3, g44_5, g44_6, g44_10, g51_3, g51_4, g51_5, g51_6, g51_7, g57_3, g57_4, g57_5, g57_6, g57_7, n120, n121, g122_0, g122_4, g122_5, g122_6, g122_7, g122_8, g122_18, g122_19, g122_20, g122_21, g122_24, g122_25, g122_28, g122_29, g122_31, g122_32, g122_33, g122_39, g122_40, g122_41, g122_45, g122_46, g122_47, g122_48, n123, n124, n125, n126, n127, n128, n129, n130, n131, n132, n133, n134, n135, n136, n137, n138, n139, n140, n141, n142, n143, n144, n145, n146, nI_and]
      · rw [ih _ _ (by omega) (by omega), show c + 1 + k = c + (k + 1) by omega]
  have := key _ x 0 hx rfl
  rw [Nat.zero_add] at this
  exact this
def bset (P : Nat → Bool) : Nat → Nat
  | 0 => 0
  | n + 1 => bset P n + if P n then 2 ^ n else 0
theorem bset_lt {P : Nat → Bool} : ∀ n, bset P n < 2 ^ n := by
  intro n
  induction n with
  | zero => exact Nat.zero_lt_one
  | succ n ih =>
    rw [bset, Nat.pow_succ]
    by_cases e : P n = true
    · rw [if_pos e]; omega
    · rw [if_neg e]; omega
theorem or_bit {x i : Nat} (hx : x < 2 ^ i) (hi : i < 31) : nI x ||| (nI 1 <<< (nI i &&& nI 31)) = nI (x + 2 ^ i) := by
  have s_l : ∀ n, n < 32 → ((nI n &&& 31).toBitVec.smod 32).toNat = n := by decide +kernel
  have h2 : 2 ^ i ≤ 2 ^ 30 := Nat.pow_le_pow_right (by decide) (by omega)
  rw [show (nI 1 <<< (nI i &&& nI 31)) = nI (1 * 2 ^ i) from pk_shlN _ i (s_l i (by omega)) (by omega), nI_or, Nat.one_mul, Nat.or_comm]
  have := Nat.two_pow_add_eq_or_of_lt hx 1
  rw [Nat.mul_one] at this
  rw [← this, Nat.add_comm]
def wrn (A : Ho) (l p : Nat) (i : Nat) : Bool := decide (l < oW A i + p)
theorem c_wornAbove {h : Hp} {A : Ho} {q l p : Nat} (ok : HoOk q A) (rc : RcH h 3 A) (hq : q < 512) (hl : l ≤ 20) (hp : p ≤ l) : F_X2_wornAbove h 3 (nI (l - p)) = some (nI (bset (wrn A l p) (oN A))) := by
  have hn := ok.1
  refine iterW_for (fun j => (nI (bset (wrn A l p) j), nI j)) (oN A) (fun j hj => ?_) ?_
  · show B_X2_wornAbove_4 _ _ _ _ _ = _
    unfold B_X2_wornAbove_4
    have hw := (ok.2.1 j hj).2.2.2.1
    simp (disch := omega) only [↓m1_n, li_n, li_0, li_1, lt_y, lt_n, le_y, le_n, eq_n, nL, nLe, nEq, nEm, mEn, nLm, mLn, nLem, mLen, nI_add, nI_mul, nI_sub, nI_m, ib_nI, nx_nI, gd_tt, bnd_eq, Option.bind_some, ↓reduceIte, hI_uI_o, hI_uI_s, hI_uI_e, hL_uI, hI_uL, hL_uL_o, hL_uL_s, hL_uL_e, and1_a, and1_b, Bool.not_true, Bool.not_false, Nat.zero_add, Nat.add_zero, Nat.add_sub_cancel, eq_self, ne_b, g0_0, g0_1, g0_2, g0_3, g0_4, g0_5, g0_6, g0_7, g0_8, g0_9, n1, n2, g3_2, g3_3, g3_4, g3_5, g3_6, g3_7, g3_8, g3_9, n4, n5, n6, n7, n8, n9, g10_2, g10_3, g10_4, g10_5, n11, n12, n13, n14, g15_2, g15_3, g15_4, g15_5, n16, n17, n18, n19, g40_0, g40_1, g40_2, g44_0, g44_2, g44_3, g44_5, g44_6, g44_10, g51_3, g51_4, g51_5, g51_6, g51_7, g57_3, g57_4, g57_5, g57_6, g57_7, n120, n121, g122_0, g122_4, g122_5, g122_6, g122_7, g122_8, g122_18, g122_19, g122_20, g122_21, g122_24, g122_25, g122_28, g122_29, g122_31, g122_32, g122_33, g122_39, g122_40, g122_41, g122_45, g122_46, g122_47, g122_48, n123, n124, n125, n126, n127, n128, n129, n130, n131, n132, n133, n134, n135, n136, n137, n138, n139, n140, n141, n142, n143, n144, n145, n146, cNn rc, cWe rc, or_bit (bset_lt j)]
    by_cases e : l < oW A j + p
    · rw [if_neg (show ¬ oW A j ≤ l - p by omega)]
      simp [bset, wrn, e]
    · rw [if_pos (show oW A j ≤ l - p by omega)]
      simp [bset, wrn, e]
  · show B_X2_wornAbove_4 _ _ _ _ _ = _
    unfold B_X2_wornAbove_4
    simp (disch := omega) only [↓m1_n, li_n, li_0, li_1, lt_y, lt_n, le_y, le_n, eq_n, nL, nLe, nEq, nEm, mEn, nLm, mLn, nLem, mLen, nI_add, nI_mul, nI_sub, nI_m, ib_nI, nx_nI, gd_tt, bnd_eq, Option.bind_some, ↓reduceIte, hI_uI_o, hI_uI_s, hI_uI_e, hL_uI, hI_uL, hL_uL_o, hL_uL_s, hL_uL_e, and1_a, and1_b, Bool.not_true, Bool.not_false, Nat.zero_add, Nat.add_zero, Nat.add_sub_cancel, eq_self, ne_b, g0_0, g0_1, g0_2, g0_3, g0_4, g0_5, g0_6, g0_7, g0_8, g0_9, n1, n2, g3_2, g3_3, g3_4, g3_5, g3_6, g3_7, g3_8, g3_9, n4, n5, n6, n7, n8, n9, g10_2, g10_3, g10_4, g10_5, n11, n12, n13, n14, g15_2, g15_3, g15_4, g15_5, n16, n17, n18, n19, g40_0, g40_1, g40_2, g44_0, g44_2, g44_3, g44_5, g44_6, g44_10, g51_3, g51_4, g51_5, g51_6, g51_7, g57_3, g57_4, g57_5, g57_6, g57_7, n120, n121, g122_0, g122_4, g122_5, g122_6, g122_7, g122_8, g122_18, g122_19, g122_20, g122_21, g122_24, g122_25, g122_28, g122_29, g122_31, g122_32, g122_33, g122_39, g122_40, g122_41, g122_45, g122_46, g122_47, g122_48, n123, n124, n125, n126, n127, n128, n129, n130, n131, n132, n133, n134, n135, n136, n137, n138, n139, n140, n141, n142, n143, n144, n145, n146, cNn rc]
theorem or_0 (x : Nat) : nI x ||| nI 0 = nI x := by rw [nI_or, Nat.or_zero]
theorem m_listL {h : Hp} {A : Ho} {q l p : Nat} {w : Int32} (ok : HoOk q A) (rm : RmH h 0 A) (hq : q < 512) (hl : l ≤ 20) (hp : p ≤ l) : L_X12_list_54 h 122 (nI l) (nI p) w (nI 0) (nI 0) = some (nI (bset (wrn A l p) (oN A))) := by
  have hn := ok.1
  refine iterW_for (fun j => (nI (bset (wrn A l p) j), nI j)) (oN A) (fun j hj => ?_) ?_
  · show B_X12_list_54 _ _ _ _ _ _ _ = _
    unfold B_X12_list_54
    have hw := (ok.2.1 j hj).2.2.2.1
    simp (disch := omega) only [↓m1_n, li_n, li_0, li_1, lt_y, lt_n, le_y, le_n, eq_n, nL, nLe, nEq, nEm, mEn, nLm, mLn, nLem, mLen, nI_add, nI_mul, nI_sub, nI_m, ib_nI, nx_nI, gd_tt, bnd_eq, Option.bind_some, ↓reduceIte, hI_uI_o, hI_uI_s, hI_uI_e, hL_uI, hI_uL, hL_uL_o, hL_uL_s, hL_uL_e, and1_a, and1_b, Bool.not_true, Bool.not_false, Nat.zero_add, Nat.add_zero, Nat.add_sub_cancel, eq_self, ne_b, g0_0, g0_1, g0_2, g0_3, g0_4, g0_5, g0_6, g0_7, g0_8, g0_9, n1, n2, g3_2, g3_3, g3_4, g3_5, g3_6, g3_7, g3_8, g3_9, n4, n5, n6, n7, n8, n9, g10_2, g10_3, g10_4, g10_5, n11, n12, n13, n14, g15_2, g15_3, g15_4, g15_5, n16, n17, n18, n19, g40_0, g40_1, g40_2, g44_0, g44_2, g44_3, g44_5, g44_6, g44_10, g51_3, g51_4, g51_5, g51_6, g51_7, g57_3, g57_4, g57_5, g57_6, g57_7, n120, n121, g122_0, g122_4, g122_5, g122_6, g122_7, g122_8, g122_18, g122_19, g122_20, g122_21, g122_24, g122_25, g122_28, g122_29, g122_31, g122_32, g122_33, g122_39, g122_40, g122_41, g122_45, g122_46, g122_47, g122_48, n123, n124, n125, n126, n127, n128, n129, n130, n131, n132, n133, n134, n135, n136, n137, n138, n139, n140, n141, n142, n143, n144, n145, n146, mNc rm, mWe ok rm, or_bit (bset_lt j), or_0]
    by_cases e : l < oW A j + p
    · rw [if_neg (show ¬ oW A j + p ≤ l by omega)]
      simp [bset, wrn, e]
    · rw [if_pos (show oW A j + p ≤ l by omega)]
      simp [bset, wrn, e]
  · show B_X12_list_54 _ _ _ _ _ _ _ = _
    unfold B_X12_list_54
    simp (disch := omega) only [↓m1_n, li_n, li_0, li_1, lt_y, lt_n, le_y, le_n, eq_n, nL, nLe, nEq, nEm, mEn, nLm, mLn, nLem, mLen, nI_add, nI_mul, nI_sub, nI_m, ib_nI, nx_nI, gd_tt, bnd_eq, Option.bind_some, ↓reduceIte, hI_uI_o, hI_uI_s, hI_uI_e, hL_uI, hI_uL, hL_uL_o, hL_uL_s, hL_uL_e, and1_a, and1_b, Bool.not_true, Bool.not_false, Nat.zero_add, Nat.add_zero, Nat.add_sub_cancel, eq_self, ne_b, g0_0, g0_1, g0_2, g0_3, g0_4, g0_5, g0_6, g0_7, g0_8, g0_9, n1, n2, g3_2, g3_3, g3_4, g3_5, g3_6, g3_7, g3_8, g3_9, n4, n5, n6, n7, n8, n9, g10_2, g10_3, g10_4, g10_5, n11, n12, n13, n14, g15_2, g15_3, g15_4, g15_5, n16, n17, n18, n19, g40_0, g40_1, g40_2, g44_0, g44_2, g44_3, g44_5, g44_6, g44_10, g51_3, g51_4, g51_5, g51_6, g51_7, g57_3, g57_4, g57_5, g57_6, g57_7, n120, n121, g122_0, g122_4, g122_5, g122_6, g122_7, g122_8, g122_18, g122_19, g122_20, g122_21, g122_24, g122_25, g122_28, g122_29, g122_31, g122_32, g122_33, g122_39, g122_40, g122_41, g122_45, g122_46, g122_47, g122_48, n123, n124, n125, n126, n127, n128, n129, n130, n131, n132, n133, n134, n135, n136, n137, n138, n139, n140, n141, n142, n143, n144, n145, n146, mNc rm]
theorem op_list (q : Nat) (h : Hp) (x y z : Int32) (hq : q < 512) (i : Inv q h) : ∃ h1 h2 r, F_X11_list h 0 x y z = some (h1, r) ∧ F_X12_list h1 122 x y z = some (h2, r) ∧ Inv (q + 1) h2 := by
  obtain ⟨A, m, Mk, ok, rc, rm, -⟩ := id i.1
  have hn := ok.1
  refine Ask.go (f := fun h => F_X11_list h 0 x y z) (g := fun h => F_X12_list h 122 x y z) i ?_
  show Ask h (F_X11_list h 0 x y z) _
  unfold F_X11_list F_X12_list J_X11_list_25 J_X11_list_26
  rw [g0_2]
  by_cases x1 : x < 1
  · exact ⟨(1, -1), by rw [if_pos x1]; rfl, fun h' u => by dsimp only; rw [if_pos x1]; rfl⟩
  by_cases x2 : 20 < x
  · exact ⟨(1, -1), by rw [if_neg x1, if_pos x2]; rfl, fun h' u => by dsimp only; rw [if_neg x1, if_pos x2]; rfl⟩
  by_cases y1 : y < 0
  · exact ⟨(1, -1), by rw [if_neg x1, if_neg x2, if_pos y1]; rfl, fun h' u => by dsimp only; rw [if_neg x1, if_neg x2, if_pos y1]; rfl⟩
  by_cases y2 : 20 < y
  · exact ⟨(1, -1), by rw [if_neg x1, if_neg x2, if_neg y1, if_pos y2]; rfl, fun h' u => by dsimp only; rw [if_neg x1, if_neg x2, if_neg y1, if_pos y2]; rfl⟩
  have x0 : ¬ x < 0 := fun e => x1 (Int32.lt_trans e (by decide))
  obtain ⟨l, hl, rfl⟩ := nI_of x0
  obtain ⟨p, hp, rfl⟩ := nI_of y1
  have hl1 : ¬ l < 1 := fun e => x1 ((nI_ltI (b := 1) hl (by decide)).mpr e)
  have hl2 : ¬ 20 < l := fun e => x2 ((nI_ltI (a := 20) (by decide) hl).mpr e)
  have hp2 : ¬ 20 < p := fun e => y2 ((nI_ltI (a := 20) (by decide) hp).mpr e)
  rcases b01 z with c | rfl | rfl
  · refine ⟨(1, -1), ?_, fun h' u => ?_⟩
    · rw [if_neg x1, if_neg x2, if_neg y1, if_neg y2, if_neg (by decide)]
      rcases c with c | ⟨c1, c2⟩
      · rw [if_pos c]; rfl
      · rw [if_neg c1, if_neg c2]; rfl
    · dsimp only
      rw [if_neg x1, if_neg x2, if_neg y1, if_neg y2]
      rcases c with c | ⟨c1, c2⟩
      · rw [if_pos c]; rfl
      · rw [if_neg c1, if_neg c2]; rfl
  all_goals
    have hb := bset_lt (P := wrn A l p) (oN A)
    have h30 : 2 ^ oN A ≤ 2 ^ 30 := Nat.pow_le_pow_right (by decide) hn
    by_cases pl : p ≤ l
    · exact ⟨(0, _), by simp (disch := omega) only [↓m1_n, li_n, li_0, li_1, lt_y, lt_n, le_y, le_n, eq_n, nL, nLe, nEq, nEm, mEn, nLm, mLn, nLem, mLen, nI_add, nI_mul, nI_sub, nI_m, ib_nI, nx_nI, gd_tt, bnd_eq, Option.bind_some, ↓reduceIte, hI_uI_o, hI_uI_s, hI_uI_e, hL_uI, hI_uL, hL_uL_o, hL_uL_s, hL_uL_e, and1_a, and1_b, Bool.not_true, Bool.not_false, Nat.zero_add, Nat.add_zero, Nat.add_sub_cancel, eq_self, ne_b, g0_0, g0_1, g0_2, g0_3, g0_4, g0_5, g0_6, g0_7, g0_8, g0_9, n1, n2, g3_2, g3_3, g3_4, g3_5, g3_6, g3_7, g3_8, g3_9, n4, n5, n6, n7, n8, n9, g10_2, g10_3, g10_4, g10_5, n11, n12, n13, n14, g15_2, g15_3, g15_4, g15_5, n16, n17, n18, n19, g40_0, g40_1, g40_2, g44_0, g44_2, g44_3, g44_5, g44_6, g44_10, g51_3, g51_4, g51_5, g51_6, g51_7, g57_3, g57_4, g57_5, g57_6, g57_7, n120, n121, g122_0, g122_4, g122_5, g122_6, g122_7, g122_8, g122_18, g122_19, g122_20, g122_21, g122_24, g122_25, g122_28, g122_29, g122_31, g122_32, g122_33, g122_39, g122_40, g122_41, g122_45, g122_46, g122_47, g122_48, n123, n124, n125, n126, n127, n128, n129, n130, n131, n132, n133, n134, n135, n136, n137, n138, n139, n140, n141, n142, n143, n144, n145, n146, c_wornAbove ok rc, c_bitCount] <;> rfl, fun h' u => by simp (disch := omega) only [↓m1_n, li_n, li_0, li_1, lt_y, lt_n, le_y, le_n, eq_n, nL, nLe, nEq, nEm, mEn, nLm, mLn, nLem, mLen, nI_add, nI_mul, nI_sub, nI_m, ib_nI, nx_nI, gd_tt, bnd_eq, Option.bind_some, ↓reduceIte, hI_uI_o, hI_uI_s, hI_uI_e, hL_uI, hI_uL, hL_uL_o, hL_uL_s, hL_uL_e, and1_a, and1_b, Bool.not_true, Bool.not_false, Nat.zero_add, Nat.add_zero, Nat.add_sub_cancel, eq_self, ne_b, g0_0, g0_1, g0_2, g0_3, g0_4, g0_5, g0_6, g0_7, g0_8, g0_9, n1, n2, g3_2, g3_3, g3_4, g3_5, g3_6, g3_7, g3_8, g3_9, n4, n5, n6, n7, n8, n9, g10_2, g10_3, g10_4, g10_5, n11, n12, n13, n14, g15_2, g15_3, g15_4, g15_5, n16, n17, n18, n19, g40_0, g40_1, g40_2, g44_0, g44_2, g44_3, g44_5, g44_6, g44_10, g51_3, g51_4, g51_5, g51_6, g51_7, g57_3, g57_4, g57_5, g57_6, g57_7, n120, n121, g122_0, g122_4, g122_5, g122_6, g122_7, g122_8, g122_18, g122_19, g122_20, g122_21, g122_24, g122_25, g122_28, g122_29, g122_31, g122_32, g122_33, g122_39, g122_40, g122_41, g122_45, g122_46, g122_47, g122_48, n123, n124, n125, n126, n127, n128, n129, n130, n131, n132, n133, n134, n135, n136, n137, n138, n139, n140, n141, n142, n143, n144, n145, n146, m_listL ok (u.rm rm), m_bits32] <;> rfl⟩
    · exact ⟨(6, -1), by simp (disch := omega) only [↓m1_n, li_n, li_0, li_1, lt_y, lt_n, le_y, le_n, eq_n, nL, nLe, nEq, nEm, mEn, nLm, mLn, nLem, mLen, nI_add, nI_mul, nI_sub, nI_m, ib_nI, nx_nI, gd_tt, bnd_eq, Option.bind_some, ↓reduceIte, hI_uI_o, hI_uI_s, hI_uI_e, hL_uI, hI_uL, hL_uL_o, hL_uL_s, hL_uL_e, and1_a, and1_b, Bool.not_true, Bool.not_false, Nat.zero_add, Nat.add_zero, Nat.add_sub_cancel, eq_self, ne_b, g0_0, g0_1, g0_2, g0_3, g0_4, g0_5, g0_6, g0_7, g0_8, g0_9, n1, n2, g3_2, g3_3, g3_4, g3_5, g3_6, g3_7, g3_8, g3_9, n4, n5, n6, n7, n8, n9, g10_2, g10_3, g10_4, g10_5, n11, n12, n13, n14, g15_2, g15_3, g15_4, g15_5, n16, n17, n18, n19, g40_0, g40_1, g40_2, g44_0, g44_2, g44_3, g44_5, g44_6, g44_10, g51_3, g51_4, g51_5, g51_6, g51_7, g57_3, g57_4, g57_5, g57_6, g57_7, n120, n121, g122_0, g122_4, g122_5, g122_6, g122_7, g122_8, g122_18, g122_19, g122_20, g122_21, g122_24, g122_25, g122_28, g122_29, g122_31, g122_32, g122_33, g122_39, g122_40, g122_41, g122_45, g122_46, g122_47, g122_48, n123, n124, n125, n126, n127, n128, n129, n130, n131, n132, n133, n134, n135, n136, n137, n138, n139, n140, n141, n142, n143, n144, n145, n146] <;> rfl, fun h' u => by simp (disch := omega) only [↓m1_n, li_n, li_0, li_1, lt_y, lt_n, le_y, le_n, eq_n, nL, nLe, nEq, nEm, mEn, nLm, mLn, nLem, mLen, nI_add, nI_mul, nI_sub, nI_m, ib_nI, nx_nI, gd_tt, bnd_eq, Option.bind_some, ↓reduceIte, hI_uI_o, hI_uI_s, hI_uI_e, hL_uI, hI_uL, hL_uL_o, hL_uL_s, hL_uL_e, and1_a, and1_b, Bool.not_true, Bool.not_false, Nat.zero_add, Nat.add_zero, Nat.add_sub_cancel, eq_self, ne_b, g0_0, g0_1, g0_2, g0_3, g0_4, g0_5, g0_6, g0_7, g0_8, g0_9, n1, n2, g3_2, g3_3, g3_4, g3_5, g3_6, g3_7, g3_8, g3_9, n4, n5, n6, n7, n8, n9, g10_2, g10_3, g10_4, g10_5, n11, n12, n13, n14, g15_2, g15_3, g15_4, g15_5, n16, n17, n18, n19, g40_0, g40_1, g40_2, g44_0, g44_2, g44_3, g44_5, g44_6, g44_10, g51_3, g51_4, g51_5, g51_6, g51_7, g57_3, g57_4, g57_5, g57_6, g57_7, n120, n121, g122_0, g122_4, g122_5, g122_6, g122_7, g122_8, g122_18, g122_19, g122_20, g122_21, g122_24, g122_25, g122_28, g122_29, g122_31, g122_32, g122_33, g122_39, g122_40, g122_41, g122_45, g122_46, g122_47, g122_48, n123, n124, n125, n126, n127, n128, n129, n130, n131, n132, n133, n134, n135, n136, n137, n138, n139, n140, n141, n142, n143, n144, n145, n146] <;> rfl⟩
