/-! ===== parts: the table from the start, and its sum ===== -/
def tW (a0 a1 : Nat → Bool) (lt : Nat → Nat → Bool) : Nat → Nat → Nat
  | 0 => fun k => if k = 0 then 1 else 0
  | c + 1 => gW (c + 1) (ws a0 a1 lt c).1 (ws a0 a1 lt c).2
theorem tW_step {a0 a1 : Nat → Bool} {lt : Nat → Nat → Bool} {c r : Nat} (hc : c + 1 < 31) (hr : r < 961) (h0 : lt 0 1 = true) : smN (ctW (a0 (c + 1)) (a1 (c + 1)) lt (c + 1) (tW a0 a1 lt c) r) 961 = tW a0 a1 lt (c + 1) r := by
  cases c with
  | succ c => exact gW_step hc hr
  | zero =>
    rw [smN_one (i := 0) 961 (by decide) (fun k hk ne => by
      have : tW a0 a1 lt 0 k = 0 := if_neg ne
      unfold ctW
      rw [this]
      split <;> split <;> rfl)]
    show (if a0 1 = true ∧ lt 0 1 = true ∧ r = 31 then 1 else 0) + (if a1 1 = true ∧ lt 0 1 = true ∧ r = 1 then 1 else 0) = if r / 31 = 1 ∧ r % 31 < 1 then (if r % 31 = 0 ∧ a0 1 = true then 1 else 0) else if r % 31 = 1 ∧ r / 31 < 1 then (if r / 31 = 0 ∧ a1 1 = true then 1 else 0) else 0
    rw [h0]
    by_cases r1 : r = 31
    · subst r1
      cases a0 1 <;> cases a1 1 <;> rfl
    · by_cases r2 : r = 1
      · subst r2
        cases a0 1 <;> cases a1 1 <;> rfl
      · rw [if_neg (fun t => r1 t.2.2), if_neg (fun t => r2 t.2.2), if_neg (by omega), if_neg (by omega)]
theorem tW_sup {a0 a1 : Nat → Bool} {lt : Nat → Nat → Bool} {c k : Nat} (h : tW a0 a1 lt c k ≠ 0) : k / 31 ≤ c ∧ k % 31 ≤ c := by
  cases c with
  | zero =>
    by_cases e : k = 0
    · subst e; decide
    · exact absurd (if_neg e) h
  | succ c =>
    have h : gW (c + 1) (ws a0 a1 lt c).1 (ws a0 a1 lt c).2 k ≠ 0 := h
    unfold gW at h
    by_cases e : k / 31 = c + 1 ∧ k % 31 < c + 1
    · omega
    · rw [if_neg e] at h
      by_cases e2 : k % 31 = c + 1 ∧ k / 31 < c + 1
      · omega
      · rw [if_neg e2] at h
        exact absurd rfl h
theorem gW_sum {c : Nat} {Z O : Nat → Nat} (hc : c < 31) : smN (gW c Z O) 961 = smN (fun y => Z y + O y) c := by
  have e := smN_add (f := fun k => if k / 31 = c ∧ k % 31 < c then Z (k % 31) else 0) (g := fun k => if k % 31 = c ∧ k / 31 < c then O (k / 31) else 0) 961
  rw [smN_add, smN_congr (f := gW c Z O) (g := fun k => (if k / 31 = c ∧ k % 31 < c then Z (k % 31) else 0) + (if k % 31 = c ∧ k / 31 < c then O (k / 31) else 0)) 961 (fun k _ => by
    unfold gW
    by_cases p : k / 31 = c ∧ k % 31 < c
    · rw [if_pos p, if_pos p, if_neg (by omega), Nat.add_zero]
    · rw [if_neg p, if_neg p, Nat.zero_add]), e]
  have s0 : smN (fun k => if k / 31 = c ∧ k % 31 < c then Z (k % 31) else 0) 961 = smN Z c := by
    rw [show (961 : Nat) = 31 * 31 from rfl, smN_two, smN_one (i := c) 31 hc (fun x hx ne => smN_0 31 (fun y hy => if_neg (fun t => ne (by have := (kdm (x := x) hy).1; omega)))), smN_cut (k := c) (by omega) (fun y p q => if_neg (fun t => by have := (kdm (x := c) q).2; omega))]
    refine smN_congr c (fun y hy => ?_)
    show (if (31 * c + y) / 31 = c ∧ (31 * c + y) % 31 < c then Z ((31 * c + y) % 31) else 0) = Z y
    have k := kdm (x := c) (y := y) (by omega)
    rw [k.1, k.2, if_pos ⟨rfl, hy⟩]
  have s1 : smN (fun k => if k % 31 = c ∧ k / 31 < c then O (k / 31) else 0) 961 = smN O c := by
    rw [show (961 : Nat) = 31 * 31 from rfl, smN_two, smN_cut (k := c) (by omega) (fun x p q => smN_0 31 (fun y hy => if_neg (fun t => by have := (kdm (x := x) hy).1; omega)))]
    refine smN_congr c (fun x hx => ?_)
    show smN (fun y => if (31 * x + y) % 31 = c ∧ (31 * x + y) / 31 < c then O ((31 * x + y) / 31) else 0) 31 = O x
    rw [smN_one (i := c) 31 hc (fun y hy ne => if_neg (fun t => ne (by have := (kdm (x := x) hy).2; omega)))]
    have k := kdm (x := x) (y := c) hc
    rw [k.1, k.2, if_pos ⟨rfl, hx⟩]
  rw [s0, s1]
theorem tW_sum {a0 a1 : Nat → Bool} {lt : Nat → Nat → Bool} {c : Nat} (hc : c < 31) : smN (tW a0 a1 lt c) 961 = if c = 0 then 1 else wt a0 a1 lt (c - 1) := by
  cases c with
  | zero =>
    rw [if_pos rfl, smN_one (f := tW a0 a1 lt 0) (i := 0) 961 (by decide) (fun k hk ne => if_neg ne)]
    rfl
  | succ c =>
    rw [if_neg (by omega)]
    exact gW_sum hc
/-! ===== parts: the reference's loops over the table ===== -/
def TBw (h : Hp) (d : Nat) (W : Nat → Nat) : Prop := ∀ k, k < 961 → hI h d k = nI (W k)
/-- a loop that writes cell d slot by slot -/
theorem fill_d {f : Hp × Int32 → Option ((Hp × Int32) ⊕ Hp)} {d : Nat} {h : Hp} {v : Nat → Int32} (hs : ∀ hx m, m < 961 → (∀ e, e ≠ d → hI hx e = hI h e) → f (hx, nI m) = some (.inl (uI hx d m (v m), nI (m + 1)))) (he : ∀ hx, f (hx, nI 961) = some (.inr hx)) : ∃ h', iterW f (h, nI 0) = some h' ∧ (∀ k, k < 961 → hI h' d k = v k) ∧ (∀ e, e ≠ d → hI h' e = hI h e) ∧ hL h' = hL h := by
  have key := iterW_inv (f := f) (fun m s => s.2 = nI m ∧ (∀ k, k < m → hI s.1 d k = v k) ∧ (∀ e, e ≠ d → hI s.1 e = hI h e) ∧ hL s.1 = hL h) (fun r => (∀ k, k < 961 → hI r d k = v k) ∧ (∀ e, e ≠ d → hI r e = hI h e) ∧ hL r = hL h) 961 (fun m s hm P => ?_) (fun s P => ?_) (s := (h, nI 0)) ⟨rfl, fun k hk => absurd hk (Nat.not_lt_zero k), fun _ _ => rfl, rfl⟩
  · exact key
  · obtain ⟨hx, x5⟩ := s
    obtain ⟨e5, p1, p2, p3⟩ := P
    have e5 : x5 = nI m := e5
    subst e5
    refine ⟨(uI hx d m (v m), nI (m + 1)), hs hx m hm p2, rfl, fun k hk => ?_, fun e he => ?_, p3⟩
    · show hI (uI hx d m (v m)) d k = _
      by_cases ek : k = m
      · subst ek
        exact hI_uI_e
      · rw [hI_uI_s ek]
        exact p1 k (by omega)
    · show hI (uI hx d m (v m)) e = _
      rw [hI_uI_o he]
      exact p2 e he
  · obtain ⟨hx, x5⟩ := s
    obtain ⟨e5, P⟩ := P
    have e5 : x5 = nI 961 := e5
    subst e5
    exact ⟨hx, he hx, P⟩
theorem m_w10 {h : Hp} {x1 x2 x3 : Int32} : ∃ h', L_X12_waysOf_10 h 122 x1 x2 x3 (nI 0) = some h' ∧ TBw h' 144 (fun k => if k = 0 then 1 else 0) ∧ (∀ e, e ≠ 144 → hI h' e = hI h e) ∧ hL h' = hL h := by
  refine fill_d (f := fun s : Hp × Int32 => B_X12_waysOf_10 s.1 122 x1 x2 x3 s.2) (v := fun k => nI (if k = 0 then 1 else 0)) (fun hx m hm _ => ?_) (fun hx => ?_)
  · show B_X12_waysOf_10 hx 122 x1 x2 x3 (nI m) = _
    unfold B_X12_waysOf_10
    by_cases m0 : m = 0
    · subst m0
      simp (disch := omega) only [↓m1_n, li_n, li_0, li_1, lt_y, lt_n, le_y, le_n, eq_n, nL, nLe, nEq, nEm, mEn, nLm, mLn, nLem, mLen, nI_add, nI_mul, nI_sub, nI_m, ib_nI, nx_nI, gd_y, bnd_e, bind_y, ↓reduceIte, hI_uI_o, hI_uI_s, hI_uI_e, hL_uI, hI_uL, hL_uL_o, hL_uL_s, hL_uL_e, and1_a, and1_b, Bool.not_true, Bool.not_false, Nat.zero_add, Nat.add_zero, Nat.add_sub_cancel, eq_self, ne_b, g0_0, g0_1, g0_2, g0_3, g0_4, g0_5, g0_6, g0_7, g0_8, g0_9, n1, n2, g3_2, g3_3, g3_4, g3_5, g3_6, g3_7, g3_8, g3_9, n4, n5, n6, n7, n8, n9, g10_2, g10_3, g10_4, g10_5, n11, n12, n13, n14, g15_2, g15_3, g15_4, g15_5, n16, n17, n18, n19, g40_0, g40_1, g40_2, g44_0, g44_2, g44_3, g44_5, g44_6, g44_10, g51_3, g51_4, g51_5, g51_6, g51_7, g57_3, g57_4, g57_5, g57_6, g57_7, n120, n121, g122_0, g122_4, g122_5, g122_6, g122_7, g122_8, g122_18, g122_19, g122_20, g122_21, g122_24, g122_25, g122_28, g122_29, g122_31, g122_32, g122_33, g122_39, g122_40, g122_41, g122_45, g122_46, g122_47, g122_48, n123, n124, n125, n126, n127, n128, n129, n130, n131, n132, n133, n134, n135, n136, n137, n138, n139, n140, n141, n142, n143, n144, n145, n146, n144]
    · simp (disch := omega) only [↓m1_n, li_n, li_0, li_1, lt_y, lt_n, le_y, le_n, eq_n, nL, nLe, nEq, nEm, mEn, nLm, mLn, nLem, mLen, nI_add, nI_mul, nI_sub, nI_m, ib_nI, nx_nI, gd_y, bnd_e, bind_y, ↓reduceIte, hI_uI_o, hI_uI_s, hI_uI_e, hL_uI, hI_uL, hL_uL_o, hL_uL_s, hL_uL_e, and1_a, and1_b, Bool.not_true, Bool.not_false, Nat.zero_add, Nat.add_zero, Nat.add_sub_cancel, eq_self, ne_b, g0_0, g0_1, g0_2, g0_3, g0_4, g0_5, g0_6, g0_7, g0_8, g0_9, n1, n2, g3_2, g3_3, g3_4, g3_5, g3_6, g3_7, g3_8, g3_9, n4, n5, n6, n7, n8, n9, g10_2, g10_3, g10_4, g10_5, n11, n12, n13, n14, g15_2, g15_3, g15_4, g15_5, n16, n17, n18, n19, g40_0, g40_1, g40_2, g44_0, g44_2, g44_3, g44_5, g44_6, g44_10, g51_3, g51_4, g51_5, g51_6, g51_7, g57_3, g57_4, g57_5, g57_6, g57_7, n120, n121, g122_0, g122_4, g122_5, g122_6, g122_7, g122_8, g122_18, g122_19, g122_20, g122_21, g122_24, g122_25, g122_28, g122_29, g122_31, g122_32, g122_33, g122_39, g122_40, g122_41, g122_45, g122_46, g122_47, g122_48, n123, n124, n125, n126, n127, n128, n129, n130, n131, n132, n133, n134, n135, n136, n137, n138, n139, n140, n141, n142, n143, n144, n145, n146, n144, m0]
  · show B_X12_waysOf_10 hx 122 x1 x2 x3 (nI 961) = _
    unfold B_X12_waysOf_10
    simp (disch := omega) only [↓m1_n, li_n, li_0, li_1, lt_y, lt_n, le_y, le_n, eq_n, nL, nLe, nEq, nEm, mEn, nLm, mLn, nLem, mLen, nI_add, nI_mul, nI_sub, nI_m, ib_nI, nx_nI, gd_y, bnd_e, bind_y, ↓reduceIte, hI_uI_o, hI_uI_s, hI_uI_e, hL_uI, hI_uL, hL_uL_o, hL_uL_s, hL_uL_e, and1_a, and1_b, Bool.not_true, Bool.not_false, Nat.zero_add, Nat.add_zero, Nat.add_sub_cancel, eq_self, ne_b, g0_0, g0_1, g0_2, g0_3, g0_4, g0_5, g0_6, g0_7, g0_8, g0_9, n1, n2, g3_2, g3_3, g3_4, g3_5, g3_6, g3_7, g3_8, g3_9, n4, n5, n6, n7, n8, n9, g10_2, g10_3, g10_4, g10_5, n11, n12, n13, n14, g15_2, g15_3, g15_4, g15_5, n16, n17, n18, n19, g40_0, g40_1, g40_2, g44_0, g44_2, g44_3, g44_5, g44_6, g44_10, g51_3, g51_4, g51_5, g51_6, g51_7, g57_3, g57_4, g57_5, g57_6, g57_7, n120, n121, g122_0, g122_4, g122_5, g122_6, g122_7, g122_8, g122_18, g122_19, g122_20, g122_21, g122_24, g122_25, g122_28, g122_29, g122_31, g122_32, g122_33, g122_39, g122_40, g122_41, g122_45, g122_46, g122_47, g122_48, n123, n124, n125, n126, n127, n128, n129, n130, n131, n132, n133, n134, n135, n136, n137, n138, n139, n140, n141, n142, n143, n144, n145, n146]
theorem m_w68 {h : Hp} {x1 x2 x3 x4 x5 : Int32} : ∃ h', L_X12_waysOf_68 h 122 x1 x2 x3 x4 x5 (nI 0) = some h' ∧ TBw h' 145 (fun _ => 0) ∧ (∀ e, e ≠ 145 → hI h' e = hI h e) ∧ hL h' = hL h := by
  refine fill_d (f := fun s : Hp × Int32 => B_X12_waysOf_68 s.1 122 x1 x2 x3 x4 x5 s.2) (v := fun k => nI 0) (fun hx m hm _ => ?_) (fun hx => ?_)
  · show B_X12_waysOf_68 hx 122 x1 x2 x3 x4 x5 (nI m) = _
    unfold B_X12_waysOf_68
    simp (disch := omega) only [↓m1_n, li_n, li_0, li_1, lt_y, lt_n, le_y, le_n, eq_n, nL, nLe, nEq, nEm, mEn, nLm, mLn, nLem, mLen, nI_add, nI_mul, nI_sub, nI_m, ib_nI, nx_nI, gd_y, bnd_e, bind_y, ↓reduceIte, hI_uI_o, hI_uI_s, hI_uI_e, hL_uI, hI_uL, hL_uL_o, hL_uL_s, hL_uL_e, and1_a, and1_b, Bool.not_true, Bool.not_false, Nat.zero_add, Nat.add_zero, Nat.add_sub_cancel, eq_self, ne_b, g0_0, g0_1, g0_2, g0_3, g0_4, g0_5, g0_6, g0_7, g0_8, g0_9, n1, n2, g3_2, g3_3, g3_4, g3_5, g3_6, g3_7, g3_8, g3_9, n4, n5, n6, n7, n8, n9, g10_2, g10_3, g10_4, g10_5, n11, n12, n13, n14, g15_2, g15_3, g15_4, g15_5, n16, n17, n18, n19, g40_0, g40_1, g40_2, g44_0, g44_2, g44_3, g44_5, g44_6, g44_10, g51_3, g51_4, g51_5, g51_6, g51_7, g57_3, g57_4, g57_5, g57_6, g57_7, n120, n121, g122_0, g122_4, g122_5, g122_6, g122_7, g122_8, g122_18, g122_19, g122_20, g122_21, g122_24, g122_25, g122_28, g122_29, g122_31, g122_32, g122_33, g122_39, g122_40, g122_41, g122_45, g122_46, g122_47, g122_48, n123, n124, n125, n126, n127, n128, n129, n130, n131, n132, n133, n134, n135, n136, n137, n138, n139, n140, n141, n142, n143, n144, n145, n146, n145]
  · show B_X12_waysOf_68 hx 122 x1 x2 x3 x4 x5 (nI 961) = _
    unfold B_X12_waysOf_68
    simp (disch := omega) only [↓m1_n, li_n, li_0, li_1, lt_y, lt_n, le_y, le_n, eq_n, nL, nLe, nEq, nEm, mEn, nLm, mLn, nLem, mLen, nI_add, nI_mul, nI_sub, nI_m, ib_nI, nx_nI, gd_y, bnd_e, bind_y, ↓reduceIte, hI_uI_o, hI_uI_s, hI_uI_e, hL_uI, hI_uL, hL_uL_o, hL_uL_s, hL_uL_e, and1_a, and1_b, Bool.not_true, Bool.not_false, Nat.zero_add, Nat.add_zero, Nat.add_sub_cancel, eq_self, ne_b, g0_0, g0_1, g0_2, g0_3, g0_4, g0_5, g0_6, g0_7, g0_8, g0_9, n1, n2, g3_2, g3_3, g3_4, g3_5, g3_6, g3_7, g3_8, g3_9, n4, n5, n6, n7, n8, n9, g10_2, g10_3, g10_4, g10_5, n11, n12, n13, n14, g15_2, g15_3, g15_4, g15_5, n16, n17, n18, n19, g40_0, g40_1, g40_2, g44_0, g44_2, g44_3, g44_5, g44_6, g44_10, g51_3, g51_4, g51_5, g51_6, g51_7, g57_3, g57_4, g57_5, g57_6, g57_7, n120, n121, g122_0, g122_4, g122_5, g122_6, g122_7, g122_8, g122_18, g122_19, g122_20, g122_21, g122_24, g122_25, g122_28, g122_29, g122_31, g122_32, g122_33, g122_39, g122_40, g122_41, g122_45, g122_46, g122_47, g122_48, n123, n124, n125, n126, n127, n128, n129, n130, n131, n132, n133, n134, n135, n136, n137, n138, n139, n140, n141, n142, n143, n144, n145, n146]
theorem m_w276 {h : Hp} {x1 x2 x3 x4 : Int32} {W : Nat → Nat} (t : TBw h 145 W) : ∃ h', L_X12_waysOf_276 h 122 x1 x2 x3 x4 (nI 0) = some h' ∧ TBw h' 144 W ∧ (∀ e, e ≠ 144 → hI h' e = hI h e) ∧ hL h' = hL h := by
  refine fill_d (f := fun s : Hp × Int32 => B_X12_waysOf_276 s.1 122 x1 x2 x3 x4 s.2) (v := fun k => nI (W k)) (fun hx m hm g => ?_) (fun hx => ?_)
  · show B_X12_waysOf_276 hx 122 x1 x2 x3 x4 (nI m) = _
    have e := t m hm
    rw [← g 145 (by decide)] at e
    unfold B_X12_waysOf_276
    simp (disch := omega) only [↓m1_n, li_n, li_0, li_1, lt_y, lt_n, le_y, le_n, eq_n, nL, nLe, nEq, nEm, mEn, nLm, mLn, nLem, mLen, nI_add, nI_mul, nI_sub, nI_m, ib_nI, nx_nI, gd_y, bnd_e, bind_y, ↓reduceIte, hI_uI_o, hI_uI_s, hI_uI_e, hL_uI, hI_uL, hL_uL_o, hL_uL_s, hL_uL_e, and1_a, and1_b, Bool.not_true, Bool.not_false, Nat.zero_add, Nat.add_zero, Nat.add_sub_cancel, eq_self, ne_b, g0_0, g0_1, g0_2, g0_3, g0_4, g0_5, g0_6, g0_7, g0_8, g0_9, n1, n2, g3_2, g3_3, g3_4, g3_5, g3_6, g3_7, g3_8, g3_9, n4, n5, n6, n7, n8, n9, g10_2, g10_3, g10_4, g10_5, n11, n12, n13, n14, g15_2, g15_3, g15_4, g15_5, n16, n17, n18, n19, g40_0, g40_1, g40_2, g44_0, g44_2, g44_3, g44_5, g44_6, g44_10, g51_3, g51_4, g51_5, g51_6, g51_7, g57_3, g57_4, g57_5, g57_6, g57_7, n120, n121, g122_0, g122_4, g122_5, g122_6, g122_7, g122_8, g122_18, g122_19, g122_20, g122_21, g122_24, g122_25, g122_28, g122_29, g122_31, g122_32, g122_33, g122_39, g122_40, g122_41, g122_45, g122_46, g122_47, g122_48, n123, n124, n125, n126, n127, n128, n129, n130, n131, n132, n133, n134, n135, n136, n137, n138, n139, n140, n141, n142, n143, n144, n145, n146, n144, n145, e]
  · show B_X12_waysOf_276 hx 122 x1 x2 x3 x4 (nI 961) = _
    unfold B_X12_waysOf_276
    simp (disch := omega) only [↓m1_n, li_n, li_0, li_1, lt_y, lt_n, le_y, le_n, eq_n, nL, nLe, nEq, nEm, mEn, nLm, mLn, nLem, mLen, nI_add, nI_mul, nI_sub, nI_m, ib_nI, nx_nI, gd_y, bnd_e, bind_y, ↓reduceIte, hI_uI_o, hI_uI_s, hI_uI_e, hL_uI, hI_uL, hL_uL_o, hL_uL_s, hL_uL_e, and1_a, and1_b, Bool.not_true, Bool.not_false, Nat.zero_add, Nat.add_zero, Nat.add_sub_cancel, eq_self, ne_b, g0_0, g0_1, g0_2, g0_3, g0_4, g0_5, g0_6, g0_7, g0_8, g0_9, n1, n2, g3_2, g3_3, g3_4, g3_5, g3_6, g3_7, g3_8, g3_9, n4, n5, n6, n7, n8, n9, g10_2, g10_3, g10_4, g10_5, n11, n12, n13, n14, g15_2, g15_3, g15_4, g15_5, n16, n17, n18, n19, g40_0, g40_1, g40_2, g44_0, g44_2, g44_3, g44_5, g44_6, g44_10, g51_3, g51_4, g51_5, g51_6, g51_7, g57_3, g57_4, g57_5, g57_6, g57_7, n120, n121, g122_0, g122_4, g122_5, g122_6, g122_7, g122_8, g122_18, g122_19, g122_20, g122_21, g122_24, g122_25, g122_28, g122_29, g122_31, g122_32, g122_33, g122_39, g122_40, g122_41, g122_45, g122_46, g122_47, g122_48, n123, n124, n125, n126, n127, n128, n129, n130, n131, n132, n133, n134, n135, n136, n137, n138, n139, n140, n141, n142, n143, n144, n145, n146]
theorem m_w316 {h : Hp} {W : Nat → Nat} (t : TBw h 144 W) : L_X12_waysOf_316 h 122 (nI 0) (nI 0) = some (h, nI (smN W 961)) := by
  refine iterW_for (f := fun s : Int32 × Int32 => B_X12_waysOf_316 h 122 s.1 s.2) (fun j => (nI (smN W j), nI j)) 961 (fun j hj => ?_) ?_
  · show B_X12_waysOf_316 h 122 (nI (smN W j)) (nI j) = some (.inl (nI (smN W (j + 1)), nI (j + 1)))
    have e := t j hj
    rw [smN]
    unfold B_X12_waysOf_316
    simp (disch := omega) only [↓m1_n, li_n, li_0, li_1, lt_y, lt_n, le_y, le_n, eq_n, nL, nLe, nEq, nEm, mEn, nLm, mLn, nLem, mLen, nI_add, nI_mul, nI_sub, nI_m, ib_nI, nx_nI, gd_y, bnd_e, bind_y, ↓reduceIte, hI_uI_o, hI_uI_s, hI_uI_e, hL_uI, hI_uL, hL_uL_o, hL_uL_s, hL_uL_e, and1_a, and1_b, Bool.not_true, Bool.not_false, Nat.zero_add, Nat.add_zero, Nat.add_sub_cancel, eq_self, ne_b, g0_0, g0_1, g0_2, g0_3, g0_4, g0_5, g0_6, g0_7, g0_8, g0_9, n1, n2, g3_2, g3_3, g3_4, g3_5, g3_6, g3_7, g3_8, g3_9, n4, n5, n6, n7, n8, n9, g10_2, g10_3, g10_4, g10_5, n11, n12, n13, n14, g15_2, g15_3, g15_4, g15_5, n16, n17, n18, n19, g40_0, g40_1, g40_2, g44_0, g44_2, g44_3, g44_5, g44_6, g44_10, g51_3, g51_4, g51_5, g51_6, g51_7, g57_3, g57_4, g57_5, g57_6, g57_7, n120, n121, g122_0, g122_4, g122_5, g122_6, g122_7, g122_8, g122_18, g122_19, g122_20, g122_21, g122_24, g122_25, g122_28, g122_29, g122_31, g122_32, g122_33, g122_39, g122_40, g122_41, g122_45, g122_46, g122_47, g122_48, n123, n124, n125, n126, n127, n128, n129, n130, n131, n132, n133, n134, n135, n136, n137, n138, n139, n140, n141, n142, n143, n144, n145, n146, n144, e]
  · show B_X12_waysOf_316 h 122 (nI (smN W 961)) (nI 961) = some (.inr (h, nI (smN W 961)))
    generalize smN W 961 = v
    unfold B_X12_waysOf_316
    simp (disch := omega) only [↓m1_n, li_n, li_0, li_1, lt_y, lt_n, le_y, le_n, eq_n, nL, nLe, nEq, nEm, mEn, nLm, mLn, nLem, mLen, nI_add, nI_mul, nI_sub, nI_m, ib_nI, nx_nI, gd_y, bnd_e, bind_y, ↓reduceIte, hI_uI_o, hI_uI_s, hI_uI_e, hL_uI, hI_uL, hL_uL_o, hL_uL_s, hL_uL_e, and1_a, and1_b, Bool.not_true, Bool.not_false, Nat.zero_add, Nat.add_zero, Nat.add_sub_cancel, eq_self, ne_b, g0_0, g0_1, g0_2, g0_3, g0_4, g0_5, g0_6, g0_7, g0_8, g0_9, n1, n2, g3_2, g3_3, g3_4, g3_5, g3_6, g3_7, g3_8, g3_9, n4, n5, n6, n7, n8, n9, g10_2, g10_3, g10_4, g10_5, n11, n12, n13, n14, g15_2, g15_3, g15_4, g15_5, n16, n17, n18, n19, g40_0, g40_1, g40_2, g44_0, g44_2, g44_3, g44_5, g44_6, g44_10, g51_3, g51_4, g51_5, g51_6, g51_7, g57_3, g57_4, g57_5, g57_6, g57_7, n120, n121, g122_0, g122_4, g122_5, g122_6, g122_7, g122_8, g122_18, g122_19, g122_20, g122_21, g122_24, g122_25, g122_28, g122_29, g122_31, g122_32, g122_33, g122_39, g122_40, g122_41, g122_45, g122_46, g122_47, g122_48, n123, n124, n125, n126, n127, n128, n129, n130, n131, n132, n133, n134, n135, n136, n137, n138, n139, n140, n141, n142, n143, n144, n145, n146]
