/-! ===== fewest: counts, told and read ===== -/
theorem lN_oi {v : Nat} (hv : v < 2147483648) : lN v = Int64.ofInt (v : Int) := by
  apply Int64.toInt_inj.mp
  rw [pk_lT (by omega), Int64.toInt_ofInt_of_le (by omega) (by omega)]
theorem nI_oi {v : Nat} (hv : v < 2147483648) : nI v = Int32.ofInt (v : Int) := by
  apply Int32.toInt_inj.mp
  rw [nI_toInt (by omega), Int32.toInt_ofInt_of_le (by omega) (by omega)]
theorem oi_64 {c : Int} (h1 : -1000000 ≤ c) (h2 : c ≤ 1000000) : (Int32.ofInt c).toInt64 = Int64.ofInt c := by
  apply Int64.toInt_inj.mp
  rw [Int32.toInt_toInt64, Int32.toInt_ofInt_of_le (by omega) (by omega), Int64.toInt_ofInt_of_le (by omega) (by omega)]
theorem sub3 (x a b : Int64) : x - a - b = x - (a + b) := by
  rw [Int64.sub_eq_add_neg, Int64.sub_eq_add_neg, Int64.sub_eq_add_neg, Int64.neg_add, Int64.sub_eq_add_neg, Int64.add_assoc]
theorem sub_0 {x a : Int64} : (x - a = 0) = (x = a) := by
  refine propext ⟨fun e => ?_, fun e => by rw [e, Int64.sub_self]⟩
  have := Int64.sub_add_cancel x a
  rw [e] at this
  rw [← this]
  simp
/-- how reading v weighs at k -/
def wgt (v k : Nat) : Int := (if k = v ∧ v < 12 then 1 else 0) + (if k = 12 ∧ v < 10 then (v : Int) else 0)
def tlc (c : Nat → Int) (v : Nat) (b : Int) : Nat → Int := fun k => c k + b * wgt v k
def chg (c : Nat → Int) (p v : Nat) : Nat → Int := tlc (tlc c p (-1)) v 1
theorem chg_back {c : Nat → Int} {p v : Nat} : chg (chg c p v) v p = c := by
  funext k
  unfold chg tlc
  omega
theorem wgt_b (v k : Nat) : 0 ≤ wgt v k ∧ wgt v k ≤ 10 := by
  unfold wgt
  by_cases c1 : k = v ∧ v < 12 <;> by_cases c2 : k = 12 ∧ v < 10
  · omega
  · rw [if_pos c1, if_neg c2]; omega
  · rw [if_neg c1, if_pos c2]; omega
  · rw [if_neg c1, if_neg c2]; omega
/-- what card i/3 reads by the misread i%3; 13: it can't be misread so, 12: it isn't seen -/
def misV (A : Ho) (col i : Nat) : Nat := if i % 3 = 0 then (if rdN (oH A (i / 3) col) < 10 then (rdN (oH A (i / 3) col) + 9) % 10 else 13) else if i % 3 = 1 then (if col = 7 then 13 else rdN (oH A (i / 3) (col + 1))) else if oD A 0 = i / 3 then 13 else 12
theorem misV_le {A : Ho} {col i : Nat} : misV A col i ≤ 13 := by
  unfold misV
  have := rdN_le (oH A (i / 3) (col + 1))
  repeat' split
  all_goals omega
def rdc (A : Ho) (col c : Nat) : Nat := rdN (oH A c col)
def okB (t : Nat → Int64) (c : Nat → Int) : Bool := !exB (fun k => decide (t k ≠ Int64.ofInt (c k))) 13
def hit1 (A : Ho) (col : Nat) (t : Nat → Int64) (c : Nat → Int) (i : Nat) : Bool := decide (misV A col i ≠ 13) && okB t (chg c (rdc A col (i / 3)) (misV A col i))
/-- the component's rows of a search -/
def CM (h : Hp) (A : Ho) (col : Nat) : Prop := hI h 51 8 = nI (oN A) ∧ (0 < oN A → hI h 51 9 = nI (oD A 0)) ∧ ∀ c, c < oN A → hI h 55 c = nI (rdc A col c) ∧ hI h 56 c = if col = 7 then mN else nI (rdN (oH A c (col + 1)))
def CG (h : Hp) (t : Nat → Int64) (c : Nat → Int) : Prop := ∀ k, k < 13 → hL h 54 k = t k - Int64.ofInt (c k)
def FrF (h h' : Hp) : Prop := (∀ d, d ≠ 53 → hI h' d = hI h d) ∧ ∀ d, d ≠ 54 → hL h' d = hL h d
theorem FrF.rf {h : Hp} : FrF h h := ⟨fun _ _ => rfl, fun _ _ => rfl⟩
theorem FrF.trans {a b c : Hp} (x : FrF a b) (y : FrF b c) : FrF a c := ⟨fun d p => (y.1 d p).trans (x.1 d p), fun d p => (y.2 d p).trans (x.2 d p)⟩
theorem FrF.cm {h h' : Hp} {A : Ho} {col : Nat} (f : FrF h h') (c : CM h A col) : CM h' A col := by
  unfold CM at *
  rw [f.1 51 (by decide), f.1 55 (by decide), f.1 56 (by decide)]
  exact c
theorem c_tally {h : Hp} {t : Nat → Int64} {c : Nat → Int} {v : Nat} {b : Int} {x : Int32} (g : CG h t c) (hv : v ≤ 12) (hb : x.toInt64 = Int64.ofInt b) : ∃ h', F_X4_tally h 51 (nI v) x = some h' ∧ CG h' t (tlc c v b) ∧ hI h' = hI h ∧ ∀ d, d ≠ 54 → hL h' d = hL h d := by
  have e : ∀ k, (t k - Int64.ofInt (c k)) - Int64.ofInt (b * wgt v k) = t k - Int64.ofInt (tlc c v b k) := fun k => by rw [sub3, ← Int64.ofInt_add]; rfl
  unfold F_X4_tally
  by_cases c12 : v = 12
  · refine ⟨h, ?_, fun k hk => ?_, rfl, fun _ _ => rfl⟩
    · simp (disch := omega) only [↓m1_n, li_n, li_0, li_1, lt_y, lt_n, le_y, le_n, eq_n, nL, nLe, nEq, nEm, mEn, nLm, mLn, nLem, mLen, nI_add, nI_mul, nI_sub, nI_m, ib_nI, nx_nI, gd_y, bnd_e, bind_y, ↓reduceIte, hI_uI_o, hI_uI_s, hI_uI_e, hL_uI, hI_uL, hL_uL_o, hL_uL_s, hL_uL_e, and1_a, and1_b, Bool.not_true, Bool.not_false, Nat.zero_add, Nat.add_zero, Nat.add_sub_cancel, eq_self, ne_b, g0_0, g0_1, g0_2, g0_3, g0_4, g0_5, g0_6, g0_7, g0_8, g0_9, n1, n2, g3_2, g3_3, g3_4, g3_5, g3_6, g3_7, g3_8, g3_9, n4, n5, n6, n7, n8, n9, g10_2, g10_3, g10_4, g10_5, n11, n12, n13, n14, g15_2, g15_3, g15_4, g15_5, n16, n17, n18, n19, g40_0, g40_1, g40_2, g44_0, g44_2, g44_3, g44_5, g44_6, g44_10, g51_3, g51_4, g51_5, g51_6, g51_7, g57_3, g57_4, g57_5, g57_6, g57_7, n120, n121, g122_0, g122_4, g122_5, g122_6, g122_7, g122_8, g122_18, g122_19, g122_20, g122_21, g122_24, g122_25, g122_28, g122_29, g122_31, g122_32, g122_33, g122_39, g122_40, g122_41, g122_45, g122_46, g122_47, g122_48, n123, n124, n125, n126, n127, n128, n129, n130, n131, n132, n133, n134, n135, n136, n137, n138, n139, n140, n141, n142, n143, n144, n145, n146, c12]
    · rw [g k hk]
      unfold tlc wgt
      rw [if_neg (by omega), if_neg (by omega)]
      congr 2
      omega
  by_cases c10 : 10 ≤ v
  · refine ⟨uL h 54 v (hL h 54 v - x.toInt64), ?_, fun k hk => ?_, rfl, fun d hd => hL_uL_o hd⟩
    · simp (disch := omega) only [↓m1_n, li_n, li_0, li_1, lt_y, lt_n, le_y, le_n, eq_n, nL, nLe, nEq, nEm, mEn, nLm, mLn, nLem, mLen, nI_add, nI_mul, nI_sub, nI_m, ib_nI, nx_nI, gd_y, bnd_e, bind_y, ↓reduceIte, hI_uI_o, hI_uI_s, hI_uI_e, hL_uI, hI_uL, hL_uL_o, hL_uL_s, hL_uL_e, and1_a, and1_b, Bool.not_true, Bool.not_false, Nat.zero_add, Nat.add_zero, Nat.add_sub_cancel, eq_self, ne_b, g0_0, g0_1, g0_2, g0_3, g0_4, g0_5, g0_6, g0_7, g0_8, g0_9, n1, n2, g3_2, g3_3, g3_4, g3_5, g3_6, g3_7, g3_8, g3_9, n4, n5, n6, n7, n8, n9, g10_2, g10_3, g10_4, g10_5, n11, n12, n13, n14, g15_2, g15_3, g15_4, g15_5, n16, n17, n18, n19, g40_0, g40_1, g40_2, g44_0, g44_2, g44_3, g44_5, g44_6, g44_10, g51_3, g51_4, g51_5, g51_6, g51_7, g57_3, g57_4, g57_5, g57_6, g57_7, n120, n121, g122_0, g122_4, g122_5, g122_6, g122_7, g122_8, g122_18, g122_19, g122_20, g122_21, g122_24, g122_25, g122_28, g122_29, g122_31, g122_32, g122_33, g122_39, g122_40, g122_41, g122_45, g122_46, g122_47, g122_48, n123, n124, n125, n126, n127, n128, n129, n130, n131, n132, n133, n134, n135, n136, n137, n138, n139, n140, n141, n142, n143, n144, n145, n146, n54]
    · by_cases ck : k = v
      · subst ck
        rw [hL_uL_e, hb, g k hk, ← e k]
        unfold wgt
        rw [if_pos ⟨rfl, by omega⟩, if_neg (by omega)]
        congr 2
        omega
      · rw [hL_uL_s ck, g k hk]
        unfold tlc wgt
        rw [if_neg (by omega), if_neg (by omega)]
        congr 2
        omega
  · refine ⟨uL (uL h 54 v (hL h 54 v - x.toInt64)) 54 12 (hL h 54 12 - x.toInt64 * (nI v).toInt64), ?_, fun k hk => ?_, rfl, fun d hd => by rw [hL_uL_o hd, hL_uL_o hd]⟩
    · simp (disch := omega) only [↓m1_n, li_n, li_0, li_1, lt_y, lt_n, le_y, le_n, eq_n, nL, nLe, nEq, nEm, mEn, nLm, mLn, nLem, mLen, nI_add, nI_mul, nI_sub, nI_m, ib_nI, nx_nI, gd_y, bnd_e, bind_y, ↓reduceIte, hI_uI_o, hI_uI_s, hI_uI_e, hL_uI, hI_uL, hL_uL_o, hL_uL_s, hL_uL_e, and1_a, and1_b, Bool.not_true, Bool.not_false, Nat.zero_add, Nat.add_zero, Nat.add_sub_cancel, eq_self, ne_b, g0_0, g0_1, g0_2, g0_3, g0_4, g0_5, g0_6, g0_7, g0_8, g0_9, n1, n2, g3_2, g3_3, g3_4, g3_5, g3_6, g3_7, g3_8, g3_9, n4, n5, n6, n7, n8, n9, g10_2, g10_3, g10_4, g10_5, n11, n12, n13, n14, g15_2, g15_3, g15_4, g15_5, n16, n17, n18, n19, g40_0, g40_1, g40_2, g44_0, g44_2, g44_3, g44_5, g44_6, g44_10, g51_3, g51_4, g51_5, g51_6, g51_7, g57_3, g57_4, g57_5, g57_6, g57_7, n120, n121, g122_0, g122_4, g122_5, g122_6, g122_7, g122_8, g122_18, g122_19, g122_20, g122_21, g122_24, g122_25, g122_28, g122_29, g122_31, g122_32, g122_33, g122_39, g122_40, g122_41, g122_45, g122_46, g122_47, g122_48, n123, n124, n125, n126, n127, n128, n129, n130, n131, n132, n133, n134, n135, n136, n137, n138, n139, n140, n141, n142, n143, n144, n145, n146, n54]
    · by_cases ck : k = 12
      · subst ck
        rw [hL_uL_e, hb, nI_l (by omega), lN_oi (by omega), ← Int64.ofInt_mul, g 12 (by omega), ← e 12]
        unfold wgt
        rw [if_neg (by omega), if_pos ⟨rfl, by omega⟩]
        congr 3
        omega
      · rw [hL_uL_s ck]
        by_cases cv : k = v
        · subst cv
          rw [hL_uL_e, hb, g k hk, ← e k]
          unfold wgt
          rw [if_pos ⟨rfl, by omega⟩, if_neg (by omega)]
          congr 2
          omega
        · rw [hL_uL_s cv, g k hk]
          unfold tlc wgt
          rw [if_neg (by omega), if_neg (by omega)]
          congr 2
          omega
theorem c_change {h : Hp} {t : Nat → Int64} {c : Nat → Int} {p v : Nat} (g : CG h t c) (hp : p ≤ 12) (hv : v ≤ 12) : ∃ h', F_X4_change h 51 (nI p) (nI v) = some h' ∧ CG h' t (chg c p v) ∧ hI h' = hI h ∧ ∀ d, d ≠ 54 → hL h' d = hL h d := by
  obtain ⟨h1, a1, a2, a3, a4⟩ := c_tally (x := mN) (b := -1) g hp (by decide)
  obtain ⟨h2, b1, b2, b3, b4⟩ := c_tally (x := nI 1) (b := 1) a2 hv (by decide)
  refine ⟨h2, ?_, b2, b3.trans a3, fun d hd => (b4 d hd).trans (a4 d hd)⟩
  unfold F_X4_change
  simp (disch := omega) only [↓m1_n, li_n, li_0, li_1, lt_y, lt_n, le_y, le_n, eq_n, nL, nLe, nEq, nEm, mEn, nLm, mLn, nLem, mLen, nI_add, nI_mul, nI_sub, nI_m, ib_nI, nx_nI, gd_y, bnd_e, bind_y, ↓reduceIte, hI_uI_o, hI_uI_s, hI_uI_e, hL_uI, hI_uL, hL_uL_o, hL_uL_s, hL_uL_e, and1_a, and1_b, Bool.not_true, Bool.not_false, Nat.zero_add, Nat.add_zero, Nat.add_sub_cancel, eq_self, ne_b, g0_0, g0_1, g0_2, g0_3, g0_4, g0_5, g0_6, g0_7, g0_8, g0_9, n1, n2, g3_2, g3_3, g3_4, g3_5, g3_6, g3_7, g3_8, g3_9, n4, n5, n6, n7, n8, n9, g10_2, g10_3, g10_4, g10_5, n11, n12, n13, n14, g15_2, g15_3, g15_4, g15_5, n16, n17, n18, n19, g40_0, g40_1, g40_2, g44_0, g44_2, g44_3, g44_5, g44_6, g44_10, g51_3, g51_4, g51_5, g51_6, g51_7, g57_3, g57_4, g57_5, g57_6, g57_7, n120, n121, g122_0, g122_4, g122_5, g122_6, g122_7, g122_8, g122_18, g122_19, g122_20, g122_21, g122_24, g122_25, g122_28, g122_29, g122_31, g122_32, g122_33, g122_39, g122_40, g122_41, g122_45, g122_46, g122_47, g122_48, n123, n124, n125, n126, n127, n128, n129, n130, n131, n132, n133, n134, n135, n136, n137, n138, n139, n140, n141, n142, n143, n144, n145, n146, a1, b1]
theorem c_closed {h : Hp} {t : Nat → Int64} {c : Nat → Int} (g : CG h t c) : F_X4_closed h 51 = some (if okB t c then nI 1 else nI 0) := by
  have e : (if okB t c then nI 1 else nI 0) = (if exB (fun k => decide (t k ≠ Int64.ofInt (c k))) 13 then nI 0 else nI 1) := by
    unfold okB
    cases exB (fun k => decide (t k ≠ Int64.ofInt (c k))) 13 <;> rfl
  rw [e, ← fst1_exB]
  refine iterW_fst (fun j => nI j) _ (fun _ => nI 0) (nI 1) 13 0 (fun j _ hj => ?_) rfl
  show B_X4_closed_2 _ _ _ = _
  unfold B_X4_closed_2
  have e2 : (lg_cmp (hL h 54 j) 0 = nI 0) = (t j = Int64.ofInt (c j)) := by
    rw [show (lg_cmp (hL h 54 j) 0 = nI 0) = (hL h 54 j = 0) from propext (lg_cmp_eq _ _), g j (by omega), sub_0]
  simp (disch := omega) only [↓m1_n, li_n, li_0, li_1, lt_y, lt_n, le_y, le_n, eq_n, nL, nLe, nEq, nEm, mEn, nLm, mLn, nLem, mLen, nI_add, nI_mul, nI_sub, nI_m, ib_nI, nx_nI, gd_y, bnd_e, bind_y, ↓reduceIte, hI_uI_o, hI_uI_s, hI_uI_e, hL_uI, hI_uL, hL_uL_o, hL_uL_s, hL_uL_e, and1_a, and1_b, Bool.not_true, Bool.not_false, Nat.zero_add, Nat.add_zero, Nat.add_sub_cancel, eq_self, ne_b, g0_0, g0_1, g0_2, g0_3, g0_4, g0_5, g0_6, g0_7, g0_8, g0_9, n1, n2, g3_2, g3_3, g3_4, g3_5, g3_6, g3_7, g3_8, g3_9, n4, n5, n6, n7, n8, n9, g10_2, g10_3, g10_4, g10_5, n11, n12, n13, n14, g15_2, g15_3, g15_4, g15_5, n16, n17, n18, n19, g40_0, g40_1, g40_2, g44_0, g44_2, g44_3, g44_5, g44_6, g44_10, g51_3, g51_4, g51_5, g51_6, g51_7, g57_3, g57_4, g57_5, g57_6, g57_7, n120, n121, g122_0, g122_4, g122_5, g122_6, g122_7, g122_8, g122_18, g122_19, g122_20, g122_21, g122_24, g122_25, g122_28, g122_29, g122_31, g122_32, g122_33, g122_39, g122_40, g122_41, g122_45, g122_46, g122_47, g122_48, n123, n124, n125, n126, n127, n128, n129, n130, n131, n132, n133, n134, n135, n136, n137, n138, n139, n140, n141, n142, n143, n144, n145, n146, n54, e2]
  by_cases c1 : t j = Int64.ofInt (c j) <;> simp [c1]
theorem c_misr {h : Hp} {A : Ho} {q col i : Nat} (ok : HoOk q A) (cm : CM h A col) (hc : col < 8) (hi : i < 3 * oN A) : F_X4_misreads h 51 (nI (i / 3)) (nI (i % 3)) = some (if misV A col i = 13 then mN else nI (misV A col i)) := by
  have hA := ok.1
  have ci : i / 3 < oN A := by omega
  obtain ⟨p1, p2⟩ := cm.2.2 (i / 3) ci
  have r1 := rdN_le (oH A (i / 3) col)
  have r2 := rdN_le (oH A (i / 3) (col + 1))
  have hd := (ok.2.1 0 (by omega)).2.2.2.2
  have f0 := cm.2.1 (by omega)
  have i3 : i % 3 = 0 ∨ i % 3 = 1 ∨ i % 3 = 2 := by omega
  unfold rdc at p1
  rcases i3 with e | e | e
  · have mv : misV A col i = if rdN (oH A (i / 3) col) < 10 then (rdN (oH A (i / 3) col) + 9) % 10 else 13 := if_pos e
    rw [mv, e]
    generalize i / 3 = c at *
    by_cases l : rdN (oH A c col) < 10
    · have e1 : nI (rdN (oH A c col) + 10 - 1) - nI (rdN (oH A c col) + 10 - 1) / nI 10 * nI 10 = nI ((rdN (oH A c col) + 10 - 1) % 10) := pk_rem (by omega) (by decide) (by decide)
      rw [if_pos l, if_neg (by omega), show rdN (oH A c col) + 9 = rdN (oH A c col) + 10 - 1 by omega]
      unfold F_X4_misreads
      simp (disch := omega) only [↓m1_n, li_n, li_0, li_1, lt_y, lt_n, le_y, le_n, eq_n, nL, nLe, nEq, nEm, mEn, nLm, mLn, nLem, mLen, nI_add, nI_mul, nI_sub, nI_m, ib_nI, nx_nI, gd_y, bnd_e, bind_y, ↓reduceIte, hI_uI_o, hI_uI_s, hI_uI_e, hL_uI, hI_uL, hL_uL_o, hL_uL_s, hL_uL_e, and1_a, and1_b, Bool.not_true, Bool.not_false, Nat.zero_add, Nat.add_zero, Nat.add_sub_cancel, eq_self, ne_b, g0_0, g0_1, g0_2, g0_3, g0_4, g0_5, g0_6, g0_7, g0_8, g0_9, n1, n2, g3_2, g3_3, g3_4, g3_5, g3_6, g3_7, g3_8, g3_9, n4, n5, n6, n7, n8, n9, g10_2, g10_3, g10_4, g10_5, n11, n12, n13, n14, g15_2, g15_3, g15_4, g15_5, n16, n17, n18, n19, g40_0, g40_1, g40_2, g44_0, g44_2, g44_3, g44_5, g44_6, g44_10, g51_3, g51_4, g51_5, g51_6, g51_7, g57_3, g57_4, g57_5, g57_6, g57_7, n120, n121, g122_0, g122_4, g122_5, g122_6, g122_7, g122_8, g122_18, g122_19, g122_20, g122_21, g122_24, g122_25, g122_28, g122_29, g122_31, g122_32, g122_33, g122_39, g122_40, g122_41, g122_45, g122_46, g122_47, g122_48, n123, n124, n125, n126, n127, n128, n129, n130, n131, n132, n133, n134, n135, n136, n137, n138, n139, n140, n141, n142, n143, n144, n145, n146, p1, n55, e1]
    · rw [if_neg l, if_pos rfl]
      unfold F_X4_misreads
      simp (disch := omega) only [↓m1_n, li_n, li_0, li_1, lt_y, lt_n, le_y, le_n, eq_n, nL, nLe, nEq, nEm, mEn, nLm, mLn, nLem, mLen, nI_add, nI_mul, nI_sub, nI_m, ib_nI, nx_nI, gd_y, bnd_e, bind_y, ↓reduceIte, hI_uI_o, hI_uI_s, hI_uI_e, hL_uI, hI_uL, hL_uL_o, hL_uL_s, hL_uL_e, and1_a, and1_b, Bool.not_true, Bool.not_false, Nat.zero_add, Nat.add_zero, Nat.add_sub_cancel, eq_self, ne_b, g0_0, g0_1, g0_2, g0_3, g0_4, g0_5, g0_6, g0_7, g0_8, g0_9, n1, n2, g3_2, g3_3, g3_4, g3_5, g3_6, g3_7, g3_8, g3_9, n4, n5, n6, n7, n8, n9, g10_2, g10_3, g10_4, g10_5, n11, n12, n13, n14, g15_2, g15_3, g15_4, g15_5, n16, n17, n18, n19, g40_0, g40_1, g40_2, g44_0, g44_2, g44_3, g44_5, g44_6, g44_10, g51_3, g51_4, g51_5, g51_6, g51_7, g57_3, g57_4, g57_5, g57_6, g57_7, n120, n121, g122_0, g122_4, g122_5, g122_6, g122_7, g122_8, g122_18, g122_19, g122_20, g122_21, g122_24, g122_25, g122_28, g122_29, g122_31, g122_32, g122_33, g122_39, g122_40, g122_41, g122_45, g122_46, g122_47, g122_48, n123, n124, n125, n126, n127, n128, n129, n130, n131, n132, n133, n134, n135, n136, n137, n138, n139, n140, n141, n142, n143, n144, n145, n146, p1, n55]
  · have mv : misV A col i = if col = 7 then 13 else rdN (oH A (i / 3) (col + 1)) := by
      unfold misV
      rw [if_neg (by omega), if_pos e]
    rw [mv, e]
    generalize i / 3 = c at *
    by_cases l : col = 7
    · rw [if_pos l] at p2 ⊢
      rw [if_pos rfl]
      unfold F_X4_misreads
      simp (disch := omega) only [↓m1_n, li_n, li_0, li_1, lt_y, lt_n, le_y, le_n, eq_n, nL, nLe, nEq, nEm, mEn, nLm, mLn, nLem, mLen, nI_add, nI_mul, nI_sub, nI_m, ib_nI, nx_nI, gd_y, bnd_e, bind_y, ↓reduceIte, hI_uI_o, hI_uI_s, hI_uI_e, hL_uI, hI_uL, hL_uL_o, hL_uL_s, hL_uL_e, and1_a, and1_b, Bool.not_true, Bool.not_false, Nat.zero_add, Nat.add_zero, Nat.add_sub_cancel, eq_self, ne_b, g0_0, g0_1, g0_2, g0_3, g0_4, g0_5, g0_6, g0_7, g0_8, g0_9, n1, n2, g3_2, g3_3, g3_4, g3_5, g3_6, g3_7, g3_8, g3_9, n4, n5, n6, n7, n8, n9, g10_2, g10_3, g10_4, g10_5, n11, n12, n13, n14, g15_2, g15_3, g15_4, g15_5, n16, n17, n18, n19, g40_0, g40_1, g40_2, g44_0, g44_2, g44_3, g44_5, g44_6, g44_10, g51_3, g51_4, g51_5, g51_6, g51_7, g57_3, g57_4, g57_5, g57_6, g57_7, n120, n121, g122_0, g122_4, g122_5, g122_6, g122_7, g122_8, g122_18, g122_19, g122_20, g122_21, g122_24, g122_25, g122_28, g122_29, g122_31, g122_32, g122_33, g122_39, g122_40, g122_41, g122_45, g122_46, g122_47, g122_48, n123, n124, n125, n126, n127, n128, n129, n130, n131, n132, n133, n134, n135, n136, n137, n138, n139, n140, n141, n142, n143, n144, n145, n146, p2, n56]
    · rw [if_neg l] at p2 ⊢
      rw [if_neg (by omega)]
      unfold F_X4_misreads
      simp (disch := omega) only [↓m1_n, li_n, li_0, li_1, lt_y, lt_n, le_y, le_n, eq_n, nL, nLe, nEq, nEm, mEn, nLm, mLn, nLem, mLen, nI_add, nI_mul, nI_sub, nI_m, ib_nI, nx_nI, gd_y, bnd_e, bind_y, ↓reduceIte, hI_uI_o, hI_uI_s, hI_uI_e, hL_uI, hI_uL, hL_uL_o, hL_uL_s, hL_uL_e, and1_a, and1_b, Bool.not_true, Bool.not_false, Nat.zero_add, Nat.add_zero, Nat.add_sub_cancel, eq_self, ne_b, g0_0, g0_1, g0_2, g0_3, g0_4, g0_5, g0_6, g0_7, g0_8, g0_9, n1, n2, g3_2, g3_3, g3_4, g3_5, g3_6, g3_7, g3_8, g3_9, n4, n5, n6, n7, n8, n9, g10_2, g10_3, g10_4, g10_5, n11, n12, n13, n14, g15_2, g15_3, g15_4, g15_5, n16, n17, n18, n19, g40_0, g40_1, g40_2, g44_0, g44_2, g44_3, g44_5, g44_6, g44_10, g51_3, g51_4, g51_5, g51_6, g51_7, g57_3, g57_4, g57_5, g57_6, g57_7, n120, n121, g122_0, g122_4, g122_5, g122_6, g122_7, g122_8, g122_18, g122_19, g122_20, g122_21, g122_24, g122_25, g122_28, g122_29, g122_31, g122_32, g122_33, g122_39, g122_40, g122_41, g122_45, g122_46, g122_47, g122_48, n123, n124, n125, n126, n127, n128, n129, n130, n131, n132, n133, n134, n135, n136, n137, n138, n139, n140, n141, n142, n143, n144, n145, n146, p2, n56]
  · have mv : misV A col i = if oD A 0 = i / 3 then 13 else 12 := by
      unfold misV
      rw [if_neg (by omega), if_neg (by omega)]
    rw [mv, e]
    generalize i / 3 = c at *
    by_cases l : oD A 0 = c
    · rw [if_pos l, if_pos rfl]
      unfold F_X4_misreads
      simp (disch := omega) only [↓m1_n, li_n, li_0, li_1, lt_y, lt_n, le_y, le_n, eq_n, nL, nLe, nEq, nEm, mEn, nLm, mLn, nLem, mLen, nI_add, nI_mul, nI_sub, nI_m, ib_nI, nx_nI, gd_y, bnd_e, bind_y, ↓reduceIte, hI_uI_o, hI_uI_s, hI_uI_e, hL_uI, hI_uL, hL_uL_o, hL_uL_s, hL_uL_e, and1_a, and1_b, Bool.not_true, Bool.not_false, Nat.zero_add, Nat.add_zero, Nat.add_sub_cancel, eq_self, ne_b, g0_0, g0_1, g0_2, g0_3, g0_4, g0_5, g0_6, g0_7, g0_8, g0_9, n1, n2, g3_2, g3_3, g3_4, g3_5, g3_6, g3_7, g3_8, g3_9, n4, n5, n6, n7, n8, n9, g10_2, g10_3, g10_4, g10_5, n11, n12, n13, n14, g15_2, g15_3, g15_4, g15_5, n16, n17, n18, n19, g40_0, g40_1, g40_2, g44_0, g44_2, g44_3, g44_5, g44_6, g44_10, g51_3, g51_4, g51_5, g51_6, g51_7, g57_3, g57_4, g57_5, g57_6, g57_7, n120, n121, g122_0, g122_4, g122_5, g122_6, g122_7, g122_8, g122_18, g122_19, g122_20, g122_21, g122_24, g122_25, g122_28, g122_29, g122_31, g122_32, g122_33, g122_39, g122_40, g122_41, g122_45, g122_46, g122_47, g122_48, n123, n124, n125, n126, n127, n128, n129, n130, n131, n132, n133, n134, n135, n136, n137, n138, n139, n140, n141, n142, n143, n144, n145, n146, f0, l]
    · have l' : ¬ c = oD A 0 := fun e => l e.symm
      rw [if_neg l, if_neg (by decide)]
      unfold F_X4_misreads
      simp (disch := omega) only [↓m1_n, li_n, li_0, li_1, lt_y, lt_n, le_y, le_n, eq_n, nL, nLe, nEq, nEm, mEn, nLm, mLn, nLem, mLen, nI_add, nI_mul, nI_sub, nI_m, ib_nI, nx_nI, gd_y, bnd_e, bind_y, ↓reduceIte, hI_uI_o, hI_uI_s, hI_uI_e, hL_uI, hI_uL, hL_uL_o, hL_uL_s, hL_uL_e, and1_a, and1_b, Bool.not_true, Bool.not_false, Nat.zero_add, Nat.add_zero, Nat.add_sub_cancel, eq_self, ne_b, g0_0, g0_1, g0_2, g0_3, g0_4, g0_5, g0_6, g0_7, g0_8, g0_9, n1, n2, g3_2, g3_3, g3_4, g3_5, g3_6, g3_7, g3_8, g3_9, n4, n5, n6, n7, n8, n9, g10_2, g10_3, g10_4, g10_5, n11, n12, n13, n14, g15_2, g15_3, g15_4, g15_5, n16, n17, n18, n19, g40_0, g40_1, g40_2, g44_0, g44_2, g44_3, g44_5, g44_6, g44_10, g51_3, g51_4, g51_5, g51_6, g51_7, g57_3, g57_4, g57_5, g57_6, g57_7, n120, n121, g122_0, g122_4, g122_5, g122_6, g122_7, g122_8, g122_18, g122_19, g122_20, g122_21, g122_24, g122_25, g122_28, g122_29, g122_31, g122_32, g122_33, g122_39, g122_40, g122_41, g122_45, g122_46, g122_47, g122_48, n123, n124, n125, n126, n127, n128, n129, n130, n131, n132, n133, n134, n135, n136, n137, n138, n139, n140, n141, n142, n143, n144, n145, n146, f0, l']
theorem fst1_cnt {P : Nat → Bool} : ∀ n, (fst1 P n 0 = none ↔ cnt P n = 0) := by
  intro n
  induction n with
  | zero => exact ⟨fun _ => rfl, fun _ => rfl⟩
  | succ n ih =>
    rw [fst1_snoc, cnt, Nat.zero_add]
    cases e : fst1 P n 0 with
    | none =>
      have := ih.mp e
      rw [this]
      cases P n <;> simp
    | some j =>
      have : cnt P n ≠ 0 := fun x => by rw [ih.mpr x] at e; cases e
      constructor
      · intro h; cases h
      · intro h; omega
/-- the first that was found is kept at slot a of the component's trial -/
def TR (h : Hp) (a : Nat) (P : Nat → Bool) (o m : Nat) : Prop := ∀ i, fst1 P m 0 = some i → hI h 53 a = nI ((o + i) / 3) ∧ hI h 53 (a + 1) = nI ((o + i) % 3)
theorem TR_n {h : Hp} {a o m : Nat} {P : Nat → Bool} (t : TR h a P o m) (e : P m = false) : TR h a P o (m + 1) := by
  intro i hi
  rw [fst1_snoc, Nat.zero_add, e] at hi
  cases f : fst1 P m 0 with
  | none => rw [f] at hi; cases hi
  | some j =>
    rw [f] at hi
    have : j = i := Option.some.inj hi
    exact t i (by rw [f, this])
theorem TR_y {h h' : Hp} {a o m : Nat} {P : Nat → Bool} (t : TR h a P o m) (e : P m = true) (n : cnt P m = 0 → hI h' 53 a = nI ((o + m) / 3) ∧ hI h' 53 (a + 1) = nI ((o + m) % 3)) (s : cnt P m ≠ 0 → hI h' 53 a = hI h 53 a ∧ hI h' 53 (a + 1) = hI h 53 (a + 1)) : TR h' a P o (m + 1) := by
  intro i hi
  rw [fst1_snoc, Nat.zero_add, e] at hi
  cases f : fst1 P m 0 with
  | none =>
    rw [f] at hi
    have : m = i := Option.some.inj hi
    subst this
    exact n ((fst1_cnt m).mp f)
  | some j =>
    rw [f] at hi
    have : j = i := Option.some.inj hi
    subst this
    have c : cnt P m ≠ 0 := fun x => by rw [(fst1_cnt m).mpr x] at f; cases f
    rw [(s c).1, (s c).2]
    exact t j f
