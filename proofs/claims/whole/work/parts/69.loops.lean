/-! ===== counting and finding ===== -/
def cnt (P : Nat → Bool) : Nat → Nat
  | 0 => 0
  | n + 1 => cnt P n + if P n then 1 else 0
theorem cnt_le (P : Nat → Bool) : ∀ n, cnt P n ≤ n := by
  intro n
  induction n with
  | zero => exact Nat.le_refl _
  | succ n ih =>
    show cnt P n + (if P n then 1 else 0) ≤ n + 1
    by_cases e : P n = true
    · rw [if_pos e]; omega
    · rw [if_neg e]; omega
theorem cnt_congr {P Q : Nat → Bool} : ∀ n, (∀ j, j < n → P j = Q j) → cnt P n = cnt Q n := by
  intro n
  induction n with
  | zero => intro _; rfl
  | succ n ih =>
    intro h
    show cnt P n + (if P n then 1 else 0) = cnt Q n + (if Q n then 1 else 0)
    rw [ih (fun j hj => h j (by omega)), h n (by omega)]
/-- the first of a, a+1 .. (n of them) with P -/
def fst1 (P : Nat → Bool) : Nat → Nat → Option Nat
  | 0, _ => none
  | n + 1, a => if P a then some a else fst1 P n (a + 1)
theorem fst1_lt {P : Nat → Bool} : ∀ n a j, fst1 P n a = some j → a ≤ j ∧ j < a + n ∧ P j = true := by
  intro n
  induction n with
  | zero => intro a j h; cases h
  | succ n ih =>
    intro a j h
    unfold fst1 at h
    by_cases e : P a = true
    · rw [if_pos e] at h
      cases h
      exact ⟨by omega, by omega, e⟩
    · rw [if_neg e] at h
      have := ih (a + 1) j h
      exact ⟨by omega, by omega, this.2.2⟩
def oI (o : Option Nat) : Int32 := o.elim (-1) nI
theorem oI_some (j : Nat) : oI (some j) = nI j := rfl
theorem oI_none : oI none = mN := rfl
theorem iterW_fst {σ ρ : Type} {f : σ → Option (σ ⊕ ρ)} (S : Nat → σ) (P : Nat → Bool) (r : Nat → ρ) (z : ρ) : ∀ n a, (∀ j, a ≤ j → j < a + n → f (S j) = if P j then some (.inr (r j)) else some (.inl (S (j + 1)))) → f (S (a + n)) = some (.inr z) → iterW f (S a) = some ((fst1 P n a).elim z r) := by
  intro n
  induction n with
  | zero =>
    intro a _ he
    exact iterW_end he
  | succ n ih =>
    intro a hs he
    have h := hs a (Nat.le_refl _) (by omega)
    by_cases e : P a = true
    · rw [if_pos e] at h
      rw [iterW_end h, fst1, if_pos e]
      rfl
    · rw [if_neg e] at h
      rw [iterW_go h, fst1, if_neg e]
      exact ih (a + 1) (fun j h1 h2 => hs j (by omega) (by omega)) (by rw [show a + 1 + n = a + (n + 1) by omega]; exact he)
theorem iterW_one {σ ρ : Type} {f : σ → Option (σ ⊕ ρ)} {s : σ} : iterW f s = (f s).bind (fun o => Sum.elim (iterW f) some o) := iterW_eq s
theorem iterW_st {σ ρ : Type} {f : σ → Option (σ ⊕ ρ)} {s : σ} {o : Option (σ ⊕ ρ)} (h : f s = o) : iterW f s = o.bind (fun o => Sum.elim (iterW f) some o) := by rw [iterW_one, h]
/-! ===== what the house and the book hold, slot by slot ===== -/
section
variable {h : Hp} {A : Ho} {q : Nat}
theorem cB0 (rc : RcH h 3 A) : hI h 10 0 = nI (bC (oB A)) := rc.2.1.1
theorem cB1 (rc : RcH h 3 A) : hI h 10 1 = nI (bM (oB A)) := rc.2.1.2.1
theorem cBy (rc : RcH h 3 A) {k : Nat} (hk : k < bC (oB A)) : hI h 11 k = nI (bY (oB A) k) := rc.2.1.2.2.1 k hk
theorem cBc (rc : RcH h 3 A) {k : Nat} (hk : k < bM (oB A)) : hI h 12 k = nI (bMc (oB A) k) := (rc.2.1.2.2.2 k hk).1
theorem cBh (rc : RcH h 3 A) {k : Nat} (hk : k < bM (oB A)) : hI h 13 k = nI (bMh (oB A) k) := (rc.2.1.2.2.2 k hk).2.1
theorem cBj (rc : RcH h 3 A) {k d : Nat} (hk : k < bM (oB A)) (hd : d < 4) : hI h 14 (k * 4 + d) = if bMc (oB A) k = d then nI k else jn (oB A) k d := by
  rw [Nat.mul_comm]
  exact (rc.2.1.2.2.2 k hk).2.2 d hd
theorem mB0 (rm : RmH h 0 A) : hI h 123 2 = nI (bC (oB A)) := rm.2.1.1
theorem mB1 (rm : RmH h 0 A) : hI h 123 3 = nI (bM (oB A)) := rm.2.1.2.1
theorem mB2 (rm : RmH h 0 A) : hI h 123 4 = nI (bJ (oB A)) := rm.2.1.2.2.1
theorem mBy (rm : RmH h 0 A) {k : Nat} (hk : k < bC (oB A)) : hI h 123 (368 + k) = nI (bY (oB A) k) := by
  have := rm.2.1.2.2.2.1 k hk
  rw [Nat.zero_add] at this
  exact this
theorem mBc (rm : RmH h 0 A) {k : Nat} (hk : k < bM (oB A)) : hI h 123 (372 + 2 * k) = nI (bMc (oB A) k) := by
  have := (rm.2.1.2.2.2.2.1 k hk).1
  rw [Nat.zero_add] at this
  exact this
theorem mBh (rm : RmH h 0 A) {k : Nat} (hk : k < bM (oB A)) : hI h 123 (372 + 2 * k + 1) = nI (bMh (oB A) k) := by
  have := (rm.2.1.2.2.2.2.1 k hk).2
  rw [Nat.zero_add, show 373 + 2 * k = 372 + 2 * k + 1 by omega] at this
  exact this
theorem mBa (rm : RmH h 0 A) {k : Nat} (hk : k < bJ (oB A)) : hI h 123 (412 + 2 * k) = nI (bJa (oB A) k) := by
  have := (rm.2.1.2.2.2.2.2 k hk).1
  rw [Nat.zero_add] at this
  exact this
theorem mBb (rm : RmH h 0 A) {k : Nat} (hk : k < bJ (oB A)) : hI h 123 (412 + 2 * k + 1) = nI (bJb (oB A) k) := by
  have := (rm.2.1.2.2.2.2.2 k hk).2
  rw [Nat.zero_add, show 413 + 2 * k = 412 + 2 * k + 1 by omega] at this
  exact this
theorem cNn (rc : RcH h 3 A) : hI h 3 0 = nI (oN A) := rc.1.1
theorem cCl (rc : RcH h 3 A) {i : Nat} (hi : i < oN A) : hI h 6 i = nI (oC A i) := (rc.1.2.2 i hi).2.1
theorem cIn (rc : RcH h 3 A) {i : Nat} (hi : i < oN A) : hI h 7 i = oK A i := (rc.1.2.2 i hi).2.2.1
theorem cWe (rc : RcH h 3 A) {i : Nat} (hi : i < oN A) : hI h 8 i = nI (oW A i) := (rc.1.2.2 i hi).2.2.2.1
theorem cDe (rc : RcH h 3 A) {i : Nat} (hi : i < oN A) : hI h 9 i = nI (oD A i) := (rc.1.2.2 i hi).2.2.2.2
theorem mNc (rm : RmH h 0 A) : hI h 123 0 = nI (oN A) := rm.1.1
theorem mDe (rm : RmH h 0 A) {i : Nat} (hi : i < oN A) : hI h 123 (338 + i) = nI (oD A i) := by
  have := (rm.1.2.2 i hi).2.2.2.2
  rw [Nat.zero_add] at this
  exact this
theorem mHo (ok : HoOk q A) (rm : RmH h 0 A) {i k : Nat} (hi : i < oN A) (hk : k < 8) : F_X12_ofCard h 122 (nI i) (nI k) = some (nI (oH A i k)) := by
  have := (rm.1.2.2 i hi).1 k hk
  rw [Nat.zero_add] at this
  rw [m_ofCard ok hi (by omega), this]
theorem mCl (ok : HoOk q A) (rm : RmH h 0 A) {i : Nat} (hi : i < oN A) : F_X12_ofCard h 122 (nI i) (nI 8) = some (nI (oC A i)) := by
  have := (rm.1.2.2 i hi).2.1
  rw [Nat.zero_add] at this
  rw [m_ofCard ok hi (by omega), show 8 + 11 * i + 8 = 16 + 11 * i by omega, this]
theorem mIn (ok : HoOk q A) (rm : RmH h 0 A) {i : Nat} (hi : i < oN A) : F_X12_ofCard h 122 (nI i) (nI 9) = some (oK A i) := by
  have := (rm.1.2.2 i hi).2.2.1
  rw [Nat.zero_add] at this
  rw [m_ofCard ok hi (by omega), show 8 + 11 * i + 9 = 17 + 11 * i by omega, this]
theorem mWe (ok : HoOk q A) (rm : RmH h 0 A) {i : Nat} (hi : i < oN A) : F_X12_ofCard h 122 (nI i) (nI 10) = some (nI (oW A i)) := by
  have := (rm.1.2.2 i hi).2.2.2.1
  rw [Nat.zero_add] at this
  rw [m_ofCard ok hi (by omega), show 8 + 11 * i + 10 = 18 + 11 * i by omega, this]
end
/-! ===== code ===== -/
def isC (B : Bk) (c : Nat) (m : Nat) : Bool := decide (bMc B m = c)
theorem c_meansOf {h : Hp} {A : Ho} {q c : Nat} (ok : HoOk q A) (rc : RcH h 3 A) (hc : c < 4) : F_X0_meansOf h 10 (nI c) = some (nI (cnt (isC (oB A) c) (bM (oB A)))) := by
  have hB := ok.2.2.2.1
  have hM := hB.2.1
  have hC := hB.1
  refine iterW_for (fun j => (nI (cnt (isC (oB A) c) j), nI j)) (bM (oB A)) (fun j hj => ?_) ?_
  · show B_X0_meansOf_4 _ _ _ _ _ = _
    unfold B_X0_meansOf_4
    have := (hB.2.2.2.2.1 j hj).1
    simp (disch := omega) only [↓m1_n, li_n, li_0, li_1, lt_y, lt_n, le_y, le_n, eq_n, nL, nLe, nEq, nEm, mEn, nLm, mLn, nLem, mLen, nI_add, nI_mul, nI_sub, nI_m, ib_nI, nx_nI, gd_tt, bnd_eq, Option.bind_some, ↓reduceIte, hI_uI_o, hI_uI_s, hI_uI_e, hL_uI, hI_uL, hL_uL_o, hL_uL_s, hL_uL_e, and1_a, and1_b, Bool.not_true, Bool.not_false, Nat.zero_add, Nat.add_zero, Nat.add_sub_cancel, eq_self, ne_b, g0_0, g0_1, g0_2, g0_3, g0_4, g0_5, g0_6, g0_7, g0_8, g0_9, n1, n2, g3_2, g3_3, g3_4, g3_5, g3_6, g3_7, g3_8, g3_9, n4, n5, n6, n7, n8, n9, g10_2, g10_3, g10_4, g10_5, n11, n12, n13, n14, g15_2, g15_3, g15_4, g15_5, n16, n17, n18, n19, g40_0, g40_1, g40_2, g44_0, g44_2, g44_3, g44_5, g44_6, g44_10, g51_3, g51_4, g51_5, g51_6, g51_7, g57_3, g57_4, g57_5, g57_6, g57_7, n120, n121, g122_0, g122_4, g122_5, g122_6, g122_7, g122_8, g122_18, g122_19, g122_20, g122_21, g122_24, g122_25, g122_28, g122_29, g122_31, g122_32, g122_33, g122_39, g122_40, g122_41, g122_45, g122_46, g122_47, g122_48, n123, n124, n125, n126, n127, n128, n129, n130, n131, n132, n133, n134, n135, n136, n137, n138, n139, n140, n141, n142, n143, n144, n145, n146, cB1 rc, cBc rc]
    by_cases e : bMc (oB A) j = c <;> simp [cnt, isC, e]
  · show B_X0_meansOf_4 _ _ _ _ _ = _
    unfold B_X0_meansOf_4
    simp (disch := omega) only [↓m1_n, li_n, li_0, li_1, lt_y, lt_n, le_y, le_n, eq_n, nL, nLe, nEq, nEm, mEn, nLm, mLn, nLem, mLen, nI_add, nI_mul, nI_sub, nI_m, ib_nI, nx_nI, gd_tt, bnd_eq, Option.bind_some, ↓reduceIte, hI_uI_o, hI_uI_s, hI_uI_e, hL_uI, hI_uL, hL_uL_o, hL_uL_s, hL_uL_e, and1_a, and1_b, Bool.not_true, Bool.not_false, Nat.zero_add, Nat.add_zero, Nat.add_sub_cancel, eq_self, ne_b, g0_0, g0_1, g0_2, g0_3, g0_4, g0_5, g0_6, g0_7, g0_8, g0_9, n1, n2, g3_2, g3_3, g3_4, g3_5, g3_6, g3_7, g3_8, g3_9, n4, n5, n6, n7, n8, n9, g10_2, g10_3, g10_4, g10_5, n11, n12, n13, n14, g15_2, g15_3, g15_4, g15_5, n16, n17, n18, n19, g40_0, g40_1, g40_2, g44_0, g44_2, g44_3, g44_5, g44_6, g44_10, g51_3, g51_4, g51_5, g51_6, g51_7, g57_3, g57_4, g57_5, g57_6, g57_7, n120, n121, g122_0, g122_4, g122_5, g122_6, g122_7, g122_8, g122_18, g122_19, g122_20, g122_21, g122_24, g122_25, g122_28, g122_29, g122_31, g122_32, g122_33, g122_39, g122_40, g122_41, g122_45, g122_46, g122_47, g122_48, n123, n124, n125, n126, n127, n128, n129, n130, n131, n132, n133, n134, n135, n136, n137, n138, n139, n140, n141, n142, n143, n144, n145, n146, cB1 rc]
theorem c_firstMeanOf {h : Hp} {A : Ho} {q c : Nat} (ok : HoOk q A) (rc : RcH h 3 A) (hc : c < 4) : F_X0_firstMeanOf h 10 (nI c) = some (oI (fst1 (isC (oB A) c) (bM (oB A)) 0)) := by
  have hB := ok.2.2.2.1
  have hM := hB.2.1
  have hC := hB.1
  refine iterW_fst (fun j => nI j) (isC (oB A) c) nI (-1) (bM (oB A)) 0 (fun j _ hj => ?_) ?_
  · show B_X0_firstMeanOf_2 _ _ _ _ = _
    unfold B_X0_firstMeanOf_2
    have := (hB.2.2.2.2.1 j (by omega)).1
    simp (disch := omega) only [↓m1_n, li_n, li_0, li_1, lt_y, lt_n, le_y, le_n, eq_n, nL, nLe, nEq, nEm, mEn, nLm, mLn, nLem, mLen, nI_add, nI_mul, nI_sub, nI_m, ib_nI, nx_nI, gd_tt, bnd_eq, Option.bind_some, ↓reduceIte, hI_uI_o, hI_uI_s, hI_uI_e, hL_uI, hI_uL, hL_uL_o, hL_uL_s, hL_uL_e, and1_a, and1_b, Bool.not_true, Bool.not_false, Nat.zero_add, Nat.add_zero, Nat.add_sub_cancel, eq_self, ne_b, g0_0, g0_1, g0_2, g0_3, g0_4, g0_5, g0_6, g0_7, g0_8, g0_9, n1, n2, g3_2, g3_3, g3_4, g3_5, g3_6, g3_7, g3_8, g3_9, n4, n5, n6, n7, n8, n9, g10_2, g10_3, g10_4, g10_5, n11, n12, n13, n14, g15_2, g15_3, g15_4, g15_5, n16, n17, n18, n19, g40_0, g40_1, g40_2, g44_0, g44_2, g44_3, g44_5, g44_6, g44_10, g51_3, g51_4, g51_5, g51_6, g51_7, g57_3, g57_4, g57_5, g57_6, g57_7, n120, n121, g122_0, g122_4, g122_5, g122_6, g122_7, g122_8, g122_18, g122_19, g122_20, g122_21, g122_24, g122_25, g122_28, g122_29, g122_31, g122_32, g122_33, g122_39, g122_40, g122_41, g122_45, g122_46, g122_47, g122_48, n123, n124, n125, n126, n127, n128, n129, n130, n131, n132, n133, n134, n135, n136, n137, n138, n139, n140, n141, n142, n143, n144, n145, n146, cB1 rc, cBc rc]
    by_cases e : bMc (oB A) j = c <;> simp [isC, e]
  · show B_X0_firstMeanOf_2 _ _ _ _ = _
    unfold B_X0_firstMeanOf_2
    simp (disch := omega) only [↓m1_n, li_n, li_0, li_1, lt_y, lt_n, le_y, le_n, eq_n, nL, nLe, nEq, nEm, mEn, nLm, mLn, nLem, mLen, nI_add, nI_mul, nI_sub, nI_m, ib_nI, nx_nI, gd_tt, bnd_eq, Option.bind_some, ↓reduceIte, hI_uI_o, hI_uI_s, hI_uI_e, hL_uI, hI_uL, hL_uL_o, hL_uL_s, hL_uL_e, and1_a, and1_b, Bool.not_true, Bool.not_false, Nat.zero_add, Nat.add_zero, Nat.add_sub_cancel, eq_self, ne_b, g0_0, g0_1, g0_2, g0_3, g0_4, g0_5, g0_6, g0_7, g0_8, g0_9, n1, n2, g3_2, g3_3, g3_4, g3_5, g3_6, g3_7, g3_8, g3_9, n4, n5, n6, n7, n8, n9, g10_2, g10_3, g10_4, g10_5, n11, n12, n13, n14, g15_2, g15_3, g15_4, g15_5, n16, n17, n18, n19, g40_0, g40_1, g40_2, g44_0, g44_2, g44_3, g44_5, g44_6, g44_10, g51_3, g51_4, g51_5, g51_6, g51_7, g57_3, g57_4, g57_5, g57_6, g57_7, n120, n121, g122_0, g122_4, g122_5, g122_6, g122_7, g122_8, g122_18, g122_19, g122_20, g122_21, g122_24, g122_25, g122_28, g122_29, g122_31, g122_32, g122_33, g122_39, g122_40, g122_41, g122_45, g122_46, g122_47, g122_48, n123, n124, n125, n126, n127, n128, n129, n130, n131, n132, n133, n134, n135, n136, n137, n138, n139, n140, n141, n142, n143, n144, n145, n146, cB1 rc]
theorem fst1_snoc {P : Nat → Bool} : ∀ n a, fst1 P (n + 1) a = (fst1 P n a).elim (if P (a + n) then some (a + n) else none) some := by
  intro n
  induction n with
  | zero => intro a; rfl
  | succ n ih =>
    intro a
    show (if P a then some a else fst1 P (n + 1) (a + 1)) = (if P a then some a else fst1 P n (a + 1)).elim _ _
    by_cases e : P a = true
    · rw [if_pos e, if_pos e]
      rfl
    · rw [if_neg e, if_neg e, ih (a + 1), show a + 1 + n = a + (n + 1) by omega]
theorem sub1 (x : Int32) : x - 1 = x + mN := Int32.sub_eq_add_neg x 1
theorem m_codeL {h : Hp} {A : Ho} {q c : Nat} {w : Int32} (ok : HoOk q A) (rm : RmH h 0 A) (hc : c < 4) : L_X12_code_57 h 122 (nI c) w (nI 0) mN (nI (bM (oB A)) - nI 1) = some (nI (cnt (isC (oB A) c) (bM (oB A))), oI (fst1 (isC (oB A) c) (bM (oB A)) 0)) := by
  have hB := ok.2.2.2.1
  have hM := hB.2.1
  have hC := hB.1
  have st : ∀ j, j ≤ bM (oB A) → ∀ n f, iterW (fun s : Int32 × Int32 × Int32 => B_X12_code_57 h 122 (nI c) w s.1 s.2.1 s.2.2) (nI n, f, nI j + mN) = some (nI (n + cnt (isC (oB A) c) j), (fst1 (isC (oB A) c) j 0).elim f nI) := by
    intro j
    induction j with
    | zero =>
      intro _ n f
      refine iterW_end ?_
      show B_X12_code_57 _ _ _ _ _ _ _ = _
      unfold B_X12_code_57
      rw [if_pos (show nI 0 + mN < 0 by decide)]
      rfl
    | succ j ih =>
      intro hj n f
      have := (hB.2.2.2.2.1 j (by omega)).1
      rw [nI_m (by omega), Nat.add_sub_cancel, fst1_snoc, Nat.zero_add, cnt]
      by_cases e : bMc (oB A) j = c
      · refine (iterW_go (s' := (nI (n + 1), nI j, nI j + mN)) ?_).trans ?_
        · show B_X12_code_57 _ _ _ _ _ _ _ = _
          unfold B_X12_code_57
          simp (disch := omega) only [↓m1_n, li_n, li_0, li_1, lt_y, lt_n, le_y, le_n, eq_n, nL, nLe, nEq, nEm, mEn, nLm, mLn, nLem, mLen, nI_add, nI_mul, nI_sub, nI_m, ib_nI, nx_nI, gd_tt, bnd_eq, Option.bind_some, ↓reduceIte, hI_uI_o, hI_uI_s, hI_uI_e, hL_uI, hI_uL, hL_uL_o, hL_uL_s, hL_uL_e, and1_a, and1_b, Bool.not_true, Bool.not_false, Nat.zero_add, Nat.add_zero, Nat.add_sub_cancel, eq_self, ne_b, g0_0, g0_1, g0_2, g0_3, g0_4, g0_5, g0_6, g0_7, g0_8, g0_9, n1, n2, g3_2, g3_3, g3_4, g3_5, g3_6, g3_7, g3_8, g3_9, n4, n5, n6, n7, n8, n9, g10_2, g10_3, g10_4, g10_5, n11, n12, n13, n14, g15_2, g15_3, g15_4, g15_5, n16, n17, n18, n19, g40_0, g40_1, g40_2, g44_0, g44_2, g44_3, g44_5, g44_6, g44_10, g51_3, g51_4, g51_5, g51_6, g51_7, g57_3, g57_4, g57_5, g57_6, g57_7, n120, n121, g122_0, g122_4, g122_5, g122_6, g122_7, g122_8, g122_18, g122_19, g122_20, g122_21, g122_24, g122_25, g122_28, g122_29, g122_31, g122_32, g122_33, g122_39, g122_40, g122_41, g122_45, g122_46, g122_47, g122_48, n123, n124, n125, n126, n127, n128, n129, n130, n131, n132, n133, n134, n135, n136, n137, n138, n139, n140, n141, n142, n143, n144, n145, n146, mBc rm, e]
        · rw [ih (by omega), show n + 1 + cnt (isC (oB A) c) j = n + (cnt (isC (oB A) c) j + 1) by omega]
          cases fst1 (isC (oB A) c) j 0 <;> simp [isC, e]
      · refine (iterW_go (s' := (nI n, f, nI j + mN)) ?_).trans ?_
        · show B_X12_code_57 _ _ _ _ _ _ _ = _
          unfold B_X12_code_57
          simp (disch := omega) only [↓m1_n, li_n, li_0, li_1, lt_y, lt_n, le_y, le_n, eq_n, nL, nLe, nEq, nEm, mEn, nLm, mLn, nLem, mLen, nI_add, nI_mul, nI_sub, nI_m, ib_nI, nx_nI, gd_tt, bnd_eq, Option.bind_some, ↓reduceIte, hI_uI_o, hI_uI_s, hI_uI_e, hL_uI, hI_uL, hL_uL_o, hL_uL_s, hL_uL_e, and1_a, and1_b, Bool.not_true, Bool.not_false, Nat.zero_add, Nat.add_zero, Nat.add_sub_cancel, eq_self, ne_b, g0_0, g0_1, g0_2, g0_3, g0_4, g0_5, g0_6, g0_7, g0_8, g0_9, n1, n2, g3_2, g3_3, g3_4, g3_5, g3_6, g3_7, g3_8, g3_9, n4, n5, n6, n7, n8, n9, g10_2, g10_3, g10_4, g10_5, n11, n12, n13, n14, g15_2, g15_3, g15_4, g15_5, n16, n17, n18, n19, g40_0, g40_1, g40_2, g44_0, g44_2, g44_3, g44_5, g44_6, g44_10, g51_3, g51_4, g51_5, g51_6, g51_7, g57_3, g57_4, g57_5, g57_6, g57_7, n120, n121, g122_0, g122_4, g122_5, g122_6, g122_7, g122_8, g122_18, g122_19, g122_20, g122_21, g122_24, g122_25, g122_28, g122_29, g122_31, g122_32, g122_33, g122_39, g122_40, g122_41, g122_45, g122_46, g122_47, g122_48, n123, n124, n125, n126, n127, n128, n129, n130, n131, n132, n133, n134, n135, n136, n137, n138, n139, n140, n141, n142, n143, n144, n145, n146, mBc rm, e]
        · rw [ih (by omega)]
          cases fst1 (isC (oB A) c) j 0 <;> simp [isC, e]
  have := st (bM (oB A)) (Nat.le_refl _) 0 (-1)
  rw [Nat.zero_add] at this
  rw [show nI (bM (oB A)) - nI 1 = _ from sub1 _]
  exact this
theorem op_code (q : Nat) (h : Hp) (a b : Int32) (_ : q < 512) (i : Inv q h) : ∃ h1 h2 r, F_X11_code h 0 a b = some (h1, r) ∧ F_X12_code h1 122 a b = some (h2, r) ∧ Inv (q + 1) h2 := by
  obtain ⟨A, m, Mk, ok, rc, rm, -⟩ := id i.1
  have hB := ok.2.2.2.1
  have hM := hB.2.1
  have hC := hB.1
  refine Ask.go (f := fun h => F_X11_code h 0 a b) (g := fun h => F_X12_code h 122 a b) i ?_
  show Ask h (F_X11_code h 0 a b) _
  unfold F_X11_code F_X12_code
  rw [g0_2, g3_8]
  rcases p_code ok rc rm a with ⟨e1, e2⟩ | ⟨⟨c, hc, rfl⟩, e1, e2⟩
  · exact ⟨(1, -1), by rw [e1]; rfl, fun h' u => by dsimp only; rw [e2 h' u]; rfl⟩
  · rw [e1]
    rcases nI_cases b (n := 3) (by decide) with (p | p) | ⟨k, hk, rfl⟩
    · exact ⟨(1, -1), by simp only [Option.bind_some, if_pos p, r_c] <;> rfl, fun h' u => by dsimp only; rw [e2 h' u]; simp only [Option.bind_some, if_pos p, r_m] <;> rfl⟩
    · have p1 : ¬ b ≤ 2 := fun x => absurd (Int32.le_trans p x) (by decide)
      exact ⟨(1, -1), by simp only [Option.bind_some, if_neg p1, r_c, ite_self] <;> rfl, fun h' u => by dsimp only; rw [e2 h' u]; simp only [Option.bind_some, if_neg p1, r_m, ite_self] <;> rfl⟩
    · have : k = 0 ∨ k = 1 ∨ k = 2 := by omega
      rcases this with rfl | rfl | rfl
      · exact ⟨(0, nI (bY (oB A) c)), by simp (disch := omega) only [↓m1_n, li_n, li_0, li_1, lt_y, lt_n, le_y, le_n, eq_n, nL, nLe, nEq, nEm, mEn, nLm, mLn, nLem, mLen, nI_add, nI_mul, nI_sub, nI_m, ib_nI, nx_nI, gd_tt, bnd_eq, Option.bind_some, ↓reduceIte, hI_uI_o, hI_uI_s, hI_uI_e, hL_uI, hI_uL, hL_uL_o, hL_uL_s, hL_uL_e, and1_a, and1_b, Bool.not_true, Bool.not_false, Nat.zero_add, Nat.add_zero, Nat.add_sub_cancel, eq_self, ne_b, g0_0, g0_1, g0_2, g0_3, g0_4, g0_5, g0_6, g0_7, g0_8, g0_9, n1, n2, g3_2, g3_3, g3_4, g3_5, g3_6, g3_7, g3_8, g3_9, n4, n5, n6, n7, n8, n9, g10_2, g10_3, g10_4, g10_5, n11, n12, n13, n14, g15_2, g15_3, g15_4, g15_5, n16, n17, n18, n19, g40_0, g40_1, g40_2, g44_0, g44_2, g44_3, g44_5, g44_6, g44_10, g51_3, g51_4, g51_5, g51_6, g51_7, g57_3, g57_4, g57_5, g57_6, g57_7, n120, n121, g122_0, g122_4, g122_5, g122_6, g122_7, g122_8, g122_18, g122_19, g122_20, g122_21, g122_24, g122_25, g122_28, g122_29, g122_31, g122_32, g122_33, g122_39, g122_40, g122_41, g122_45, g122_46, g122_47, g122_48, n123, n124, n125, n126, n127, n128, n129, n130, n131, n132, n133, n134, n135, n136, n137, n138, n139, n140, n141, n142, n143, n144, n145, n146, cBy rc] <;> rfl, fun h' u => by simp (disch := omega) only [↓m1_n, li_n, li_0, li_1, lt_y, lt_n, le_y, le_n, eq_n, nL, nLe, nEq, nEm, mEn, nLm, mLn, nLem, mLen, nI_add, nI_mul, nI_sub, nI_m, ib_nI, nx_nI, gd_tt, bnd_eq, Option.bind_some, ↓reduceIte, hI_uI_o, hI_uI_s, hI_uI_e, hL_uI, hI_uL, hL_uL_o, hL_uL_s, hL_uL_e, and1_a, and1_b, Bool.not_true, Bool.not_false, Nat.zero_add, Nat.add_zero, Nat.add_sub_cancel, eq_self, ne_b, g0_0, g0_1, g0_2, g0_3, g0_4, g0_5, g0_6, g0_7, g0_8, g0_9, n1, n2, g3_2, g3_3, g3_4, g3_5, g3_6, g3_7, g3_8, g3_9, n4, n5, n6, n7, n8, n9, g10_2, g10_3, g10_4, g10_5, n11, n12, n13, n14, g15_2, g15_3, g15_4, g15_5, n16, n17, n18, n19, g40_0, g40_1, g40_2, g44_0, g44_2, g44_3, g44_5, g44_6, g44_10, g51_3, g51_4, g51_5, g51_6, g51_7, g57_3, g57_4, g57_5, g57_6, g57_7, n120, n121, g122_0, g122_4, g122_5, g122_6, g122_7, g122_8, g122_18, g122_19, g122_20, g122_21, g122_24, g122_25, g122_28, g122_29, g122_31, g122_32, g122_33, g122_39, g122_40, g122_41, g122_45, g122_46, g122_47, g122_48, n123, n124, n125, n126, n127, n128, n129, n130, n131, n132, n133, n134, n135, n136, n137, n138, n139, n140, n141, n142, n143, n144, n145, n146, e2 h' u, mBy (u.rm rm)] <;> rfl⟩
      · cases ef : fst1 (isC (oB A) c) (bM (oB A)) 0 with
        | none => exact ⟨(6, -1), by simp (disch := omega) only [↓m1_n, li_n, li_0, li_1, lt_y, lt_n, le_y, le_n, eq_n, nL, nLe, nEq, nEm, mEn, nLm, mLn, nLem, mLen, nI_add, nI_mul, nI_sub, nI_m, ib_nI, nx_nI, gd_tt, bnd_eq, Option.bind_some, ↓reduceIte, hI_uI_o, hI_uI_s, hI_uI_e, hL_uI, hI_uL, hL_uL_o, hL_uL_s, hL_uL_e, and1_a, and1_b, Bool.not_true, Bool.not_false, Nat.zero_add, Nat.add_zero, Nat.add_sub_cancel, eq_self, ne_b, g0_0, g0_1, g0_2, g0_3, g0_4, g0_5, g0_6, g0_7, g0_8, g0_9, n1, n2, g3_2, g3_3, g3_4, g3_5, g3_6, g3_7, g3_8, g3_9, n4, n5, n6, n7, n8, n9, g10_2, g10_3, g10_4, g10_5, n11, n12, n13, n14, g15_2, g15_3, g15_4, g15_5, n16, n17, n18, n19, g40_0, g40_1, g40_2, g44_0, g44_2, g44_3, g44_5, g44_6, g44_10, g51_3, g51_4, g51_5, g51_6, g51_7, g57_3, g57_4, g57_5, g57_6, g57_7, n120, n121, g122_0, g122_4, g122_5, g122_6, g122_7, g122_8, g122_18, g122_19, g122_20, g122_21, g122_24, g122_25, g122_28, g122_29, g122_31, g122_32, g122_33, g122_39, g122_40, g122_41, g122_45, g122_46, g122_47, g122_48, n123, n124, n125, n126, n127, n128, n129, n130, n131, n132, n133, n134, n135, n136, n137, n138, n139, n140, n141, n142, n143, n144, n145, n146, c_firstMeanOf ok rc, ef, oI_none] <;> rfl, fun h' u => by simp (disch := omega) only [↓m1_n, li_n, li_0, li_1, lt_y, lt_n, le_y, le_n, eq_n, nL, nLe, nEq, nEm, mEn, nLm, mLn, nLem, mLen, nI_add, nI_mul, nI_sub, nI_m, ib_nI, nx_nI, gd_tt, bnd_eq, Option.bind_some, ↓reduceIte, hI_uI_o, hI_uI_s, hI_uI_e, hL_uI, hI_uL, hL_uL_o, hL_uL_s, hL_uL_e, and1_a, and1_b, Bool.not_true, Bool.not_false, Nat.zero_add, Nat.add_zero, Nat.add_sub_cancel, eq_self, ne_b, g0_0, g0_1, g0_2, g0_3, g0_4, g0_5, g0_6, g0_7, g0_8, g0_9, n1, n2, g3_2, g3_3, g3_4, g3_5, g3_6, g3_7, g3_8, g3_9, n4, n5, n6, n7, n8, n9, g10_2, g10_3, g10_4, g10_5, n11, n12, n13, n14, g15_2, g15_3, g15_4, g15_5, n16, n17, n18, n19, g40_0, g40_1, g40_2, g44_0, g44_2, g44_3, g44_5, g44_6, g44_10, g51_3, g51_4, g51_5, g51_6, g51_7, g57_3, g57_4, g57_5, g57_6, g57_7, n120, n121, g122_0, g122_4, g122_5, g122_6, g122_7, g122_8, g122_18, g122_19, g122_20, g122_21, g122_24, g122_25, g122_28, g122_29, g122_31, g122_32, g122_33, g122_39, g122_40, g122_41, g122_45, g122_46, g122_47, g122_48, n123, n124, n125, n126, n127, n128, n129, n130, n131, n132, n133, n134, n135, n136, n137, n138, n139, n140, n141, n142, n143, n144, n145, n146, e2 h' u, mB1 (u.rm rm), m_codeL ok (u.rm rm), ef, oI_none] <;> rfl⟩
        | some j =>
          have hj := fst1_lt _ _ _ ef
          refine ⟨(0, nI j), by simp (disch := omega) only [↓m1_n, li_n, li_0, li_1, lt_y, lt_n, le_y, le_n, eq_n, nL, nLe, nEq, nEm, mEn, nLm, mLn, nLem, mLen, nI_add, nI_mul, nI_sub, nI_m, ib_nI, nx_nI, gd_tt, bnd_eq, Option.bind_some, ↓reduceIte, hI_uI_o, hI_uI_s, hI_uI_e, hL_uI, hI_uL, hL_uL_o, hL_uL_s, hL_uL_e, and1_a, and1_b, Bool.not_true, Bool.not_false, Nat.zero_add, Nat.add_zero, Nat.add_sub_cancel, eq_self, ne_b, g0_0, g0_1, g0_2, g0_3, g0_4, g0_5, g0_6, g0_7, g0_8, g0_9, n1, n2, g3_2, g3_3, g3_4, g3_5, g3_6, g3_7, g3_8, g3_9, n4, n5, n6, n7, n8, n9, g10_2, g10_3, g10_4, g10_5, n11, n12, n13, n14, g15_2, g15_3, g15_4, g15_5, n16, n17, n18, n19, g40_0, g40_1, g40_2, g44_0, g44_2, g44_3, g44_5, g44_6, g44_10, g51_3, g51_4, g51_5, g51_6, g51_7, g57_3, g57_4, g57_5, g57_6, g57_7, n120, n121, g122_0, g122_4, g122_5, g122_6, g122_7, g122_8, g122_18, g122_19, g122_20, g122_21, g122_24, g122_25, g122_28, g122_29, g122_31, g122_32, g122_33, g122_39, g122_40, g122_41, g122_45, g122_46, g122_47, g122_48, n123, n124, n125, n126, n127, n128, n129, n130, n131, n132, n133, n134, n135, n136, n137, n138, n139, n140, n141, n142, n143, n144, n145, n146, c_firstMeanOf ok rc, ef, oI_some] <;> rfl, fun h' u => ?_⟩
          have M := m_codeL (w := nI 1) (c := c) ok (u.rm rm) (by omega)
          rw [nI_sub (by omega)] at M
          simp (disch := omega) only [↓m1_n, li_n, li_0, li_1, lt_y, lt_n, le_y, le_n, eq_n, nL, nLe, nEq, nEm, mEn, nLm, mLn, nLem, mLen, nI_add, nI_mul, nI_sub, nI_m, ib_nI, nx_nI, gd_tt, bnd_eq, Option.bind_some, ↓reduceIte, hI_uI_o, hI_uI_s, hI_uI_e, hL_uI, hI_uL, hL_uL_o, hL_uL_s, hL_uL_e, and1_a, and1_b, Bool.not_true, Bool.not_false, Nat.zero_add, Nat.add_zero, Nat.add_sub_cancel, eq_self, ne_b, g0_0, g0_1, g0_2, g0_3, g0_4, g0_5, g0_6, g0_7, g0_8, g0_9, n1, n2, g3_2, g3_3, g3_4, g3_5, g3_6, g3_7, g3_8, g3_9, n4, n5, n6, n7, n8, n9, g10_2, g10_3, g10_4, g10_5, n11, n12, n13, n14, g15_2, g15_3, g15_4, g15_5, n16, n17, n18, n19, g40_0, g40_1, g40_2, g44_0, g44_2, g44_3, g44_5, g44_6, g44_10, g51_3, g51_4, g51_5, g51_6, g51_7, g57_3, g57_4, g57_5, g57_6, g57_7, n120, n121, g122_0, g122_4, g122_5, g122_6, g122_7, g122_8, g122_18, g122_19, g122_20, g122_21, g122_24, g122_25, g122_28, g122_29, g122_31, g122_32, g122_33, g122_39, g122_40, g122_41, g122_45, g122_46, g122_47, g122_48, n123, n124, n125, n126, n127, n128, n129, n130, n131, n132, n133, n134, n135, n136, n137, n138, n139, n140, n141, n142, n143, n144, n145, n146, e2 h' u, mB1 (u.rm rm), M, ef, oI_some] <;> rfl
      · exact ⟨(0, nI (cnt (isC (oB A) c) (bM (oB A)))), by simp (disch := omega) only [↓m1_n, li_n, li_0, li_1, lt_y, lt_n, le_y, le_n, eq_n, nL, nLe, nEq, nEm, mEn, nLm, mLn, nLem, mLen, nI_add, nI_mul, nI_sub, nI_m, ib_nI, nx_nI, gd_tt, bnd_eq, Option.bind_some, ↓reduceIte, hI_uI_o, hI_uI_s, hI_uI_e, hL_uI, hI_uL, hL_uL_o, hL_uL_s, hL_uL_e, and1_a, and1_b, Bool.not_true, Bool.not_false, Nat.zero_add, Nat.add_zero, Nat.add_sub_cancel, eq_self, ne_b, g0_0, g0_1, g0_2, g0_3, g0_4, g0_5, g0_6, g0_7, g0_8, g0_9, n1, n2, g3_2, g3_3, g3_4, g3_5, g3_6, g3_7, g3_8, g3_9, n4, n5, n6, n7, n8, n9, g10_2, g10_3, g10_4, g10_5, n11, n12, n13, n14, g15_2, g15_3, g15_4, g15_5, n16, n17, n18, n19, g40_0, g40_1, g40_2, g44_0, g44_2, g44_3, g44_5, g44_6, g44_10, g51_3, g51_4, g51_5, g51_6, g51_7, g57_3, g57_4, g57_5, g57_6, g57_7, n120, n121, g122_0, g122_4, g122_5, g122_6, g122_7, g122_8, g122_18, g122_19, g122_20, g122_21, g122_24, g122_25, g122_28, g122_29, g122_31, g122_32, g122_33, g122_39, g122_40, g122_41, g122_45, g122_46, g122_47, g122_48, n123, n124, n125, n126, n127, n128, n129, n130, n131, n132, n133, n134, n135, n136, n137, n138, n139, n140, n141, n142, n143, n144, n145, n146, c_meansOf ok rc] <;> rfl, fun h' u => by simp (disch := omega) only [↓m1_n, li_n, li_0, li_1, lt_y, lt_n, le_y, le_n, eq_n, nL, nLe, nEq, nEm, mEn, nLm, mLn, nLem, mLen, nI_add, nI_mul, nI_sub, nI_m, ib_nI, nx_nI, gd_tt, bnd_eq, Option.bind_some, ↓reduceIte, hI_uI_o, hI_uI_s, hI_uI_e, hL_uI, hI_uL, hL_uL_o, hL_uL_s, hL_uL_e, and1_a, and1_b, Bool.not_true, Bool.not_false, Nat.zero_add, Nat.add_zero, Nat.add_sub_cancel, eq_self, ne_b, g0_0, g0_1, g0_2, g0_3, g0_4, g0_5, g0_6, g0_7, g0_8, g0_9, n1, n2, g3_2, g3_3, g3_4, g3_5, g3_6, g3_7, g3_8, g3_9, n4, n5, n6, n7, n8, n9, g10_2, g10_3, g10_4, g10_5, n11, n12, n13, n14, g15_2, g15_3, g15_4, g15_5, n16, n17, n18, n19, g40_0, g40_1, g40_2, g44_0, g44_2, g44_3, g44_5, g44_6, g44_10, g51_3, g51_4, g51_5, g51_6, g51_7, g57_3, g57_4, g57_5, g57_6, g57_7, n120, n121, g122_0, g122_4, g122_5, g122_6, g122_7, g122_8, g122_18, g122_19, g122_20, g122_21, g122_24, g122_25, g122_28, g122_29, g122_31, g122_32, g122_33, g122_39, g122_40, g122_41, g122_45, g122_46, g122_47, g122_48, n123, n124, n125, n126, n127, n128, n129, n130, n131, n132, n133, n134, n135, n136, n137, n138, n139, n140, n141, n142, n143, n144, n145, n146, e2 h' u, mB1 (u.rm rm), m_codeL ok (u.rm rm)] <;> rfl⟩
