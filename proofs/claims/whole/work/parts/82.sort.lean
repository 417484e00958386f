/-! ===== the same rows, not by computing ===== -/
theorem gd_y {τ : Type} {t : Option τ} : gd true t = t := Eq.trans (b := t) rfl rfl
theorem bnd_e {α τ : Type} {e : α} {f : α → Option τ} : bnd e f = f e := Eq.trans (b := f e) rfl rfl
theorem bind_y {α τ : Type} {e : α} {f : α → Option τ} : (some e).bind f = f e := Eq.trans (b := f e) rfl rfl
/-! ===== sorting by readings: where each card goes ===== -/
def blw (R : Nat → Nat) (p n : Nat) : Nat := cnt (fun k => decide (R k < p)) n
def inp (R : Nat → Nat) (p n : Nat) : Nat := cnt (fun k => decide (R k = p)) n
theorem inp_s {R : Nat → Nat} {p n : Nat} : inp R p (n + 1) = inp R p n + if R n = p then 1 else 0 := by
  unfold inp
  rw [cnt]
  by_cases e : R n = p <;> simp [e]
theorem inp_0 {R : Nat → Nat} {p : Nat} : inp R p 0 = 0 := rfl
theorem blw_s {R : Nat → Nat} {p : Nat} : ∀ n, blw R (p + 1) n = blw R p n + inp R p n := by
  intro n
  induction n with
  | zero => rfl
  | succ n ih =>
    rw [inp_s]
    unfold blw at *
    rw [cnt, cnt, ih]
    by_cases e : R n = p
    · simp [e]
      omega
    · by_cases l : R n < p
      · have : R n < p + 1 := by omega
        simp [e, l, this]
        omega
      · have : ¬ R n < p + 1 := by omega
        simp [e, l, this]
theorem blw_0 {R : Nat → Nat} : ∀ n, blw R 0 n = 0 := by
  intro n
  induction n with
  | zero => rfl
  | succ n ih =>
    unfold blw at *
    rw [cnt, ih]
    simp
theorem blw_le {R : Nat → Nat} {p n : Nat} : blw R p n ≤ n := cnt_le _ _
theorem blw_mono {R : Nat → Nat} {p p' n : Nat} (h : p ≤ p') : blw R p n ≤ blw R p' n := cnt_mono (fun j e => by simp at *; omega) n
theorem inp_le {R : Nat → Nat} {p n : Nat} : inp R p n ≤ n := cnt_le _ _
theorem inp_mono {R : Nat → Nat} {p i j : Nat} (h : i ≤ j) : inp R p i ≤ inp R p j := by
  obtain ⟨d, rfl⟩ : ∃ d, j = i + d := ⟨j - i, by omega⟩
  induction d with
  | zero => exact Nat.le_refl _
  | succ d ih =>
    rw [← Nat.add_assoc, inp_s]
    have := ih (by omega)
    omega
def psn (R : Nat → Nat) (t i : Nat) : Nat := blw R (R i) t + inp R (R i) i
theorem psn_blw {R : Nat → Nat} {t i : Nat} (hi : i < t) : psn R t i < blw R (R i + 1) t := by
  unfold psn
  rw [blw_s]
  have h1 : inp R (R i) (i + 1) = inp R (R i) i + 1 := by rw [inp_s, if_pos rfl]
  have h2 := inp_mono (R := R) (p := R i) (show i + 1 ≤ t from hi)
  omega
theorem psn_lt {R : Nat → Nat} {t i : Nat} (hi : i < t) : psn R t i < t := Nat.lt_of_lt_of_le (psn_blw hi) blw_le
theorem psn_inj {R : Nat → Nat} {t i j : Nat} (hi : i < t) (hj : j < t) (e : psn R t i = psn R t j) : i = j := by
  have a1 := psn_blw (R := R) hi
  have a2 := psn_blw (R := R) hj
  rcases Nat.lt_trichotomy (R i) (R j) with l | l | l
  · have := blw_mono (R := R) (n := t) (show R i + 1 ≤ R j from l)
    unfold psn at *
    omega
  · rcases Nat.lt_trichotomy i j with m | m | m
    · have h1 : inp R (R i) (i + 1) = inp R (R i) i + 1 := by rw [inp_s, if_pos rfl]
      have h2 := inp_mono (R := R) (p := R i) (show i + 1 ≤ j from m)
      unfold psn at e
      rw [← l] at e
      omega
    · exact m
    · have h1 : inp R (R j) (j + 1) = inp R (R j) j + 1 := by rw [inp_s, if_pos rfl]
      have h2 := inp_mono (R := R) (p := R j) (show j + 1 ≤ i from m)
      unfold psn at e
      rw [l] at e
      omega
  · have := blw_mono (R := R) (n := t) (show R j + 1 ≤ R i from l)
    unfold psn at *
    omega
def srt (R D : Nat → Nat) (t y : Nat) : Nat := if y < t then D ((fst1 (fun k => decide (psn R t k = y)) t 0).getD 0) else D y
theorem fst1_ex {P : Nat → Bool} : ∀ n a j, a ≤ j → j < a + n → P j = true → ∃ k, fst1 P n a = some k := by
  intro n
  induction n with
  | zero => intro a j h1 h2; omega
  | succ n ih =>
    intro a j h1 h2 h3
    unfold fst1
    by_cases e : P a = true
    · exact ⟨a, by rw [if_pos e]⟩
    · rw [if_neg e]
      refine ih (a + 1) j ?_ (by omega) h3
      by_cases c : a = j
      · subst c; exact absurd h3 e
      · omega
theorem srt_psn {R D : Nat → Nat} {t k : Nat} (hk : k < t) : srt R D t (psn R t k) = D k := by
  unfold srt
  rw [if_pos (psn_lt hk)]
  obtain ⟨j, hj⟩ := fst1_ex (P := fun j => decide (psn R t j = psn R t k)) t 0 k (by omega) (by omega) (by simp)
  have h2 := fst1_lt _ _ _ hj
  have h3 : psn R t j = psn R t k := of_decide_eq_true h2.2.2
  rw [hj, psn_inj (by omega) hk h3]
  rfl
theorem psn_sur {R : Nat → Nat} {t y : Nat} (hy : y < t) : ∃ k, k < t ∧ psn R t k = y := pig t (psn R t) (fun i hi => psn_lt hi) (fun i j hi hj e => psn_inj hi hj e) y hy
theorem srt_all {R D : Nat → Nat} {t : Nat} {H : Nat → Int32} (h : ∀ k, k < t → H (psn R t k) = nI (D k)) {y : Nat} (hy : y < t) : H y = nI (srt R D t y) := by
  obtain ⟨k, hk, rfl⟩ := psn_sur (R := R) hy
  rw [srt_psn hk]
  exact h k hk
theorem srt_lt {R D : Nat → Nat} {t n N y : Nat} (ht : t ≤ n) (hD : ∀ k, k < n → D k < N) (hy : y < n) : srt R D t y < N := by
  by_cases c : y < t
  · obtain ⟨k, hk, rfl⟩ := psn_sur (R := R) c
    rw [srt_psn hk]
    exact hD k (by omega)
  · unfold srt
    rw [if_neg c]
    exact hD y hy
theorem srt_inj {R D : Nat → Nat} {t n : Nat} (ht : t ≤ n) (hD : ∀ i j, i < n → j < n → D i = D j → i = j) {x y : Nat} (hx : x < n) (hy : y < n) (e : srt R D t x = srt R D t y) : x = y := by
  by_cases c : x < t
  · obtain ⟨k, hk, rfl⟩ := psn_sur (R := R) c
    rw [srt_psn hk] at e
    by_cases c' : y < t
    · obtain ⟨j, hj, rfl⟩ := psn_sur (R := R) c'
      rw [srt_psn hj] at e
      rw [hD k j (by omega) (by omega) e]
    · unfold srt at e
      rw [if_neg c'] at e
      have := hD k y (by omega) hy e
      omega
  · unfold srt at e
    rw [if_neg c] at e
    by_cases c' : y < t
    · rw [if_pos c'] at e
      obtain ⟨j, hj, rfl⟩ := psn_sur (R := R) c'
      have e2 := srt_psn (R := R) (D := D) hj
      unfold srt at e2
      rw [if_pos c'] at e2
      rw [e2] at e
      have := hD x j hx (by omega) e
      omega
    · rw [if_neg c'] at e
      exact hD x y hx hy e
/-- how many pockets were not empty -/
def fil (R : Nat → Nat) (t p : Nat) : Nat := cnt (fun p => decide (0 < inp R p t)) p
theorem fil_s {R : Nat → Nat} {t p : Nat} : fil R t (p + 1) = fil R t p + if 0 < inp R p t then 1 else 0 := by
  unfold fil
  rw [cnt]
  by_cases e : 0 < inp R p t <;> simp [e]
theorem c_fillI {h : Hp} {c n : Nat} {v : Int32} (hl : LEN c = n) (hn : n < 2 ^ 31) : ∃ h', F_J7_fill_53178 h c v = some h' ∧ hL h' = hL h ∧ (∀ d, d ≠ c → hI h' d = hI h d) ∧ ∀ k, k < n → hI h' c k = v := by
  refine iterW_inv (fun j s => s.2 = nI j ∧ hL s.1 = hL h ∧ (∀ d, d ≠ c → hI s.1 d = hI h d) ∧ ∀ k, k < j → hI s.1 c k = v) _ n (fun j s hj p => ?_) (fun s p => ?_) ⟨rfl, rfl, fun _ _ => rfl, fun k hk => by omega⟩
  · obtain ⟨p1, p2, p3, p4⟩ := p
    refine ⟨(uI s.1 c j v, nI (j + 1)), ?_, rfl, p2, fun d hd => by rw [hI_uI_o hd]; exact p3 d hd, fun k hk => ?_⟩
    · show B_J7_fill_53178_5 _ _ _ _ _ = _
      unfold B_J7_fill_53178_5
      rw [p1, hl, if_neg (nI_ge hj hn), gd_on (ib_nI hj hn), nx_nI (by omega), nI_s]
    · by_cases e : k = j
      · rw [e, hI_uI_e]
      · rw [hI_uI_s e]
        exact p4 k (by omega)
  · obtain ⟨p1, p2, p3, p4⟩ := p
    refine ⟨s.1, ?_, p2, p3, p4⟩
    show B_J7_fill_53178_5 _ _ _ _ _ = _
    unfold B_J7_fill_53178_5
    rw [p1, hl, if_pos (Int32.le_refl _)]
/-- cells of the sorter alone -/
def FrS (h h' : Hp) : Prop := (∀ d, d ≠ 41 → d ≠ 42 → hI h' d = hI h d) ∧ hL h' = hL h
theorem FrS.rc {h h' : Hp} {A : Ho} (f : FrS h h') (r : RcH h 3 A) : RcH h' 3 A := RcH_congr (fun d a b => f.1 d (by omega) (by omega)) r
theorem c_sort1 {h : Hp} {x n col : Nat} {D R : Nat → Nat} (hx4 : x ≠ 41 ∧ x ≠ 42) (hl : LEN x = 30) (hn : n ≤ 30) (hR11 : ∀ k, R k ≤ 11) (RD : ∀ h', FrS h h' → ∀ k, k < n → F_X2_reading h' 3 (nI (D k)) (nI col) = some (nI (R k))) (XD : ∀ h', FrS h h' → ∀ k, k < n → hI h' x k = nI (D k)) {h1 : Hp} (f1 : FrS h h1) (a4 : ∀ k, k < 13 → hI h1 42 k = nI 0) : ∃ h2, L_X3_sortRow_11 h1 40 3 x (nI n) (nI col) (nI 0) = some h2 ∧ FrS h h2 ∧ (∀ p, p < 13 → hI h2 42 p = nI (if p = 0 then 0 else inp R (p - 1) n)) := by
  refine iterW_inv (fun j s => s.2 = nI j ∧ FrS h s.1 ∧ ∀ p, p < 13 → hI s.1 42 p = nI (if p = 0 then 0 else inp R (p - 1) j)) _ n (fun j s hj p => ?_) (fun s p => ?_) ⟨rfl, f1, fun p hp => ?_⟩
  · obtain ⟨p1, p2, p3⟩ := p
    have hr := hR11 j
    refine ⟨(uI s.1 42 (R j + 1) (nI (inp R (R j) j + 1)), nI (j + 1)), ?_, rfl, ⟨fun d d1 d2 => by rw [hI_uI_o d2]; exact p2.1 d d1 d2, p2.2⟩, fun p hp => ?_⟩
    · show B_X3_sortRow_11 _ _ _ _ _ _ _ = _
      unfold B_X3_sortRow_11
      rw [p1]
      have e := p3 (R j + 1) (by omega)
      rw [if_neg (by omega), Nat.add_sub_cancel] at e
      simp (disch := omega) only [↓m1_n, li_n, li_0, li_1, lt_y, lt_n, le_y, le_n, eq_n, nL, nLe, nEq, nEm, mEn, nLm, mLn, nLem, mLen, nI_add, nI_mul, nI_sub, nI_m, ib_nI, nx_nI, gd_y, bnd_e, bind_y, ↓reduceIte, hI_uI_o, hI_uI_s, hI_uI_e, hL_uI, hI_uL, hL_uL_o, hL_uL_s, hL_uL_e, and1_a, and1_b, Bool.not_true, Bool.not_false, Nat.zero_add, Nat.add_zero, Nat.add_sub_cancel, eq_self, ne_b, g0_0, g0_1, g0_2, g0_3, g0_4, g0_5, g0_6, g0_7, g0_8, g0_9, n1, n2, g3_2, g3_3, g3_4, g3_5, g3_6, g3_7, g3_8, g3_9, n4, n5, n6, n7, n8, n9, g10_2, g10_3, g10_4, g10_5, n11, n12, n13, n14, g15_2, g15_3, g15_4, g15_5, n16, n17, n18, n19, g40_0, g40_1, g40_2, g44_0, g44_2, g44_3, g44_5, g44_6, g44_10, g51_3, g51_4, g51_5, g51_6, g51_7, g57_3, g57_4, g57_5, g57_6, g57_7, n120, n121, g122_0, g122_4, g122_5, g122_6, g122_7, g122_8, g122_18, g122_19, g122_20, g122_21, g122_24, g122_25, g122_28, g122_29, g122_31, g122_32, g122_33, g122_39, g122_40, g122_41, g122_45, g122_46, g122_47, g122_48, n123, n124, n125, n126, n127, n128, n129, n130, n131, n132, n133, n134, n135, n136, n137, n138, n139, n140, n141, n142, n143, n144, n145, n146, hl, XD s.1 p2 j hj, RD s.1 p2 j hj, g40_1, n42, e]
    · rw [inp_s]
      by_cases c : p = R j + 1
      · subst c
        rw [hI_uI_e, if_neg (by omega), Nat.add_sub_cancel, if_pos rfl]
      · rw [hI_uI_s c, p3 p hp]
        by_cases c0 : p = 0
        · rw [if_pos c0, if_pos c0]
        · rw [if_neg c0, if_neg c0, if_neg (by omega), Nat.add_zero]
  · obtain ⟨p1, p2, p3⟩ := p
    refine ⟨s.1, ?_, p2, p3⟩
    show B_X3_sortRow_11 _ _ _ _ _ _ _ = _
    unfold B_X3_sortRow_11
    rw [p1]
    simp (disch := omega) only [↓m1_n, li_n, li_0, li_1, lt_y, lt_n, le_y, le_n, eq_n, nL, nLe, nEq, nEm, mEn, nLm, mLn, nLem, mLen, nI_add, nI_mul, nI_sub, nI_m, ib_nI, nx_nI, gd_y, bnd_e, bind_y, ↓reduceIte, hI_uI_o, hI_uI_s, hI_uI_e, hL_uI, hI_uL, hL_uL_o, hL_uL_s, hL_uL_e, and1_a, and1_b, Bool.not_true, Bool.not_false, Nat.zero_add, Nat.add_zero, Nat.add_sub_cancel, eq_self, ne_b, g0_0, g0_1, g0_2, g0_3, g0_4, g0_5, g0_6, g0_7, g0_8, g0_9, n1, n2, g3_2, g3_3, g3_4, g3_5, g3_6, g3_7, g3_8, g3_9, n4, n5, n6, n7, n8, n9, g10_2, g10_3, g10_4, g10_5, n11, n12, n13, n14, g15_2, g15_3, g15_4, g15_5, n16, n17, n18, n19, g40_0, g40_1, g40_2, g44_0, g44_2, g44_3, g44_5, g44_6, g44_10, g51_3, g51_4, g51_5, g51_6, g51_7, g57_3, g57_4, g57_5, g57_6, g57_7, n120, n121, g122_0, g122_4, g122_5, g122_6, g122_7, g122_8, g122_18, g122_19, g122_20, g122_21, g122_24, g122_25, g122_28, g122_29, g122_31, g122_32, g122_33, g122_39, g122_40, g122_41, g122_45, g122_46, g122_47, g122_48, n123, n124, n125, n126, n127, n128, n129, n130, n131, n132, n133, n134, n135, n136, n137, n138, n139, n140, n141, n142, n143, n144, n145, n146]
  · rw [a4 p hp]
    by_cases c0 : p = 0
    · rw [if_pos c0]
    · rw [if_neg c0, inp_0]
theorem c_sort2 {h : Hp} {x n col : Nat} {D R : Nat → Nat} (hx4 : x ≠ 41 ∧ x ≠ 42) (hl : LEN x = 30) (hn : n ≤ 30) (hR11 : ∀ k, R k ≤ 11) (RD : ∀ h', FrS h h' → ∀ k, k < n → F_X2_reading h' 3 (nI (D k)) (nI col) = some (nI (R k))) (XD : ∀ h', FrS h h' → ∀ k, k < n → hI h' x k = nI (D k)) {h2 : Hp} (b2 : FrS h h2) (b3 : ∀ p, p < 13 → hI h2 42 p = nI (if p = 0 then 0 else inp R (p - 1) n)) : ∃ h3, L_X3_sortRow_50 h2 40 3 x (nI n) (nI col) (nI 0) (nI 0) = some (h3, nI (fil R n 12)) ∧ FrS h h3 ∧ (∀ p, p < 13 → hI h3 42 p = nI (blw R p n)) := by
  have key : ∃ r, L_X3_sortRow_50 h2 40 3 x (nI n) (nI col) (nI 0) (nI 0) = some r ∧ ∃ h3, r = (h3, nI (fil R n 12)) ∧ FrS h h3 ∧ (∀ p, p < 13 → hI h3 42 p = nI (blw R p n)) := by
    refine iterW_inv (fun j s => s.2.2 = nI j ∧ s.2.1 = nI (fil R n j) ∧ FrS h s.1 ∧ ∀ p, p < 13 → hI s.1 42 p = nI (if p ≤ j then blw R p n else inp R (p - 1) n)) _ 12 (fun j s hj p => ?_) (fun s p => ?_) ⟨rfl, by rw [show fil R n 0 = 0 from rfl], b2, fun p hp => ?_⟩
    · obtain ⟨p1, p2, p3, p4⟩ := p
      have e1 := p4 j (by omega)
      rw [if_pos (Nat.le_refl _)] at e1
      have e2 := p4 (j + 1) (by omega)
      rw [if_neg (by omega), Nat.add_sub_cancel] at e2
      have l1 := inp_le (R := R) (p := j) (n := n)
      refine ⟨(uI s.1 42 (j + 1) (nI (inp R j n + blw R j n)), nI (fil R n (j + 1)), nI (j + 1)), ?_, rfl, rfl, ⟨fun d d1 d2 => by rw [hI_uI_o d2]; exact p3.1 d d1 d2, p3.2⟩, fun p hp => ?_⟩
      · show B_X3_sortRow_50 _ _ _ _ _ _ _ _ = _
        unfold B_X3_sortRow_50 J_X3_sortRow_72
        rw [p1, p2, fil_s]
        by_cases z : 0 < inp R j n
        · simp (disch := omega) only [↓m1_n, li_n, li_0, li_1, lt_y, lt_n, le_y, le_n, eq_n, nL, nLe, nEq, nEm, mEn, nLm, mLn, nLem, mLen, nI_add, nI_mul, nI_sub, nI_m, ib_nI, nx_nI, gd_y, bnd_e, bind_y, ↓reduceIte, hI_uI_o, hI_uI_s, hI_uI_e, hL_uI, hI_uL, hL_uL_o, hL_uL_s, hL_uL_e, and1_a, and1_b, Bool.not_true, Bool.not_false, Nat.zero_add, Nat.add_zero, Nat.add_sub_cancel, eq_self, ne_b, g0_0, g0_1, g0_2, g0_3, g0_4, g0_5, g0_6, g0_7, g0_8, g0_9, n1, n2, g3_2, g3_3, g3_4, g3_5, g3_6, g3_7, g3_8, g3_9, n4, n5, n6, n7, n8, n9, g10_2, g10_3, g10_4, g10_5, n11, n12, n13, n14, g15_2, g15_3, g15_4, g15_5, n16, n17, n18, n19, g40_0, g40_1, g40_2, g44_0, g44_2, g44_3, g44_5, g44_6, g44_10, g51_3, g51_4, g51_5, g51_6, g51_7, g57_3, g57_4, g57_5, g57_6, g57_7, n120, n121, g122_0, g122_4, g122_5, g122_6, g122_7, g122_8, g122_18, g122_19, g122_20, g122_21, g122_24, g122_25, g122_28, g122_29, g122_31, g122_32, g122_33, g122_39, g122_40, g122_41, g122_45, g122_46, g122_47, g122_48, n123, n124, n125, n126, n127, n128, n129, n130, n131, n132, n133, n134, n135, n136, n137, n138, n139, n140, n141, n142, n143, n144, n145, n146, g40_1, n42, e1, e2, z]
        · simp (disch := omega) only [↓m1_n, li_n, li_0, li_1, lt_y, lt_n, le_y, le_n, eq_n, nL, nLe, nEq, nEm, mEn, nLm, mLn, nLem, mLen, nI_add, nI_mul, nI_sub, nI_m, ib_nI, nx_nI, gd_y, bnd_e, bind_y, ↓reduceIte, hI_uI_o, hI_uI_s, hI_uI_e, hL_uI, hI_uL, hL_uL_o, hL_uL_s, hL_uL_e, and1_a, and1_b, Bool.not_true, Bool.not_false, Nat.zero_add, Nat.add_zero, Nat.add_sub_cancel, eq_self, ne_b, g0_0, g0_1, g0_2, g0_3, g0_4, g0_5, g0_6, g0_7, g0_8, g0_9, n1, n2, g3_2, g3_3, g3_4, g3_5, g3_6, g3_7, g3_8, g3_9, n4, n5, n6, n7, n8, n9, g10_2, g10_3, g10_4, g10_5, n11, n12, n13, n14, g15_2, g15_3, g15_4, g15_5, n16, n17, n18, n19, g40_0, g40_1, g40_2, g44_0, g44_2, g44_3, g44_5, g44_6, g44_10, g51_3, g51_4, g51_5, g51_6, g51_7, g57_3, g57_4, g57_5, g57_6, g57_7, n120, n121, g122_0, g122_4, g122_5, g122_6, g122_7, g122_8, g122_18, g122_19, g122_20, g122_21, g122_24, g122_25, g122_28, g122_29, g122_31, g122_32, g122_33, g122_39, g122_40, g122_41, g122_45, g122_46, g122_47, g122_48, n123, n124, n125, n126, n127, n128, n129, n130, n131, n132, n133, n134, n135, n136, n137, n138, n139, n140, n141, n142, n143, n144, n145, n146, g40_1, n42, e1, e2, z]
      · by_cases c : p = j + 1
        · subst c
          rw [hI_uI_e, if_pos (Nat.le_refl _), blw_s, Nat.add_comm]
        · rw [hI_uI_s c, p4 p hp]
          by_cases c0 : p ≤ j
          · rw [if_pos c0, if_pos (by omega)]
          · rw [if_neg c0, if_neg (by omega)]
    · obtain ⟨p1, p2, p3, p4⟩ := p
      refine ⟨(s.1, nI (fil R n 12)), ?_, s.1, rfl, p3, fun p hp => ?_⟩
      · show B_X3_sortRow_50 _ _ _ _ _ _ _ _ = _
        unfold B_X3_sortRow_50
        rw [p1, p2]
        simp (disch := omega) only [↓m1_n, li_n, li_0, li_1, lt_y, lt_n, le_y, le_n, eq_n, nL, nLe, nEq, nEm, mEn, nLm, mLn, nLem, mLen, nI_add, nI_mul, nI_sub, nI_m, ib_nI, nx_nI, gd_y, bnd_e, bind_y, ↓reduceIte, hI_uI_o, hI_uI_s, hI_uI_e, hL_uI, hI_uL, hL_uL_o, hL_uL_s, hL_uL_e, and1_a, and1_b, Bool.not_true, Bool.not_false, Nat.zero_add, Nat.add_zero, Nat.add_sub_cancel, eq_self, ne_b, g0_0, g0_1, g0_2, g0_3, g0_4, g0_5, g0_6, g0_7, g0_8, g0_9, n1, n2, g3_2, g3_3, g3_4, g3_5, g3_6, g3_7, g3_8, g3_9, n4, n5, n6, n7, n8, n9, g10_2, g10_3, g10_4, g10_5, n11, n12, n13, n14, g15_2, g15_3, g15_4, g15_5, n16, n17, n18, n19, g40_0, g40_1, g40_2, g44_0, g44_2, g44_3, g44_5, g44_6, g44_10, g51_3, g51_4, g51_5, g51_6, g51_7, g57_3, g57_4, g57_5, g57_6, g57_7, n120, n121, g122_0, g122_4, g122_5, g122_6, g122_7, g122_8, g122_18, g122_19, g122_20, g122_21, g122_24, g122_25, g122_28, g122_29, g122_31, g122_32, g122_33, g122_39, g122_40, g122_41, g122_45, g122_46, g122_47, g122_48, n123, n124, n125, n126, n127, n128, n129, n130, n131, n132, n133, n134, n135, n136, n137, n138, n139, n140, n141, n142, n143, n144, n145, n146]
      · rw [p4 p hp, if_pos (by omega)]
    · rw [b3 p hp]
      by_cases c0 : p = 0
      · subst c0
        rw [if_pos rfl, if_pos (Nat.le_refl _), blw_0]
      · rw [if_neg c0, if_neg (by omega)]
  obtain ⟨r, e1, h3, e2, e3⟩ := key
  exact ⟨h3, by rw [e1, e2], e3⟩
theorem c_sort3 {h : Hp} {x n col : Nat} {D R : Nat → Nat} (hx4 : x ≠ 41 ∧ x ≠ 42) (hl : LEN x = 30) (hn : n ≤ 30) (hR11 : ∀ k, R k ≤ 11) (RD : ∀ h', FrS h h' → ∀ k, k < n → F_X2_reading h' 3 (nI (D k)) (nI col) = some (nI (R k))) (XD : ∀ h', FrS h h' → ∀ k, k < n → hI h' x k = nI (D k)) {h3 : Hp} (c2 : FrS h h3) (c3 : ∀ p, p < 13 → hI h3 42 p = nI (blw R p n)) : ∃ h4, L_X3_sortRow_100 h3 40 3 x (nI n) (nI col) (nI (fil R n 12)) (nI 0) = some (h4, nI (fil R n 12)) ∧ (∀ y, y < n → hI h4 x y = nI (srt R D n y)) ∧ (∀ y, n ≤ y → hI h4 x y = hI h x y) ∧ (∀ d, d ≠ 41 → d ≠ 42 → d ≠ x → hI h4 d = hI h d) ∧ hL h4 = hL h := by
  have key : ∃ r, L_X3_sortRow_100 h3 40 3 x (nI n) (nI col) (nI (fil R n 12)) (nI 0) = some r ∧ ∃ h4, r = (h4, nI (fil R n 12)) ∧ (∀ y, y < n → hI h4 x y = nI (srt R D n y)) ∧ (∀ y, n ≤ y → hI h4 x y = hI h x y) ∧ (∀ d, d ≠ 41 → d ≠ 42 → d ≠ x → hI h4 d = hI h d) ∧ hL h4 = hL h := by
    refine iterW_inv (fun j s => s.2 = nI j ∧ FrS h s.1 ∧ (∀ p, p < 12 → hI s.1 42 p = nI (blw R p n + inp R p j)) ∧ ∀ k, k < j → hI s.1 41 (psn R n k) = nI (D k)) _ n (fun j s hj p => ?_) (fun s p => ?_) ⟨rfl, c2, fun p hp => by rw [c3 p (by omega), inp_0, Nat.add_zero], fun k hk => by omega⟩
    · obtain ⟨p1, p2, p3, p4⟩ := p
      have hr := hR11 j
      have e := p3 (R j) (by omega)
      have hp := psn_lt (R := R) hj
      rw [show blw R (R j) n + inp R (R j) j = psn R n j from rfl] at e
      refine ⟨(uI (uI s.1 41 (psn R n j) (nI (D j))) 42 (R j) (nI (psn R n j + 1)), nI (j + 1)), ?_, rfl, ⟨fun d d1 d2 => by rw [hI_uI_o d2, hI_uI_o d1]; exact p2.1 d d1 d2, p2.2⟩, fun p hp => ?_, fun k hk => ?_⟩
      · show B_X3_sortRow_100 _ _ _ _ _ _ _ _ = _
        unfold B_X3_sortRow_100
        rw [p1]
        simp (disch := omega) only [↓m1_n, li_n, li_0, li_1, lt_y, lt_n, le_y, le_n, eq_n, nL, nLe, nEq, nEm, mEn, nLm, mLn, nLem, mLen, nI_add, nI_mul, nI_sub, nI_m, ib_nI, nx_nI, gd_y, bnd_e, bind_y, ↓reduceIte, hI_uI_o, hI_uI_s, hI_uI_e, hL_uI, hI_uL, hL_uL_o, hL_uL_s, hL_uL_e, and1_a, and1_b, Bool.not_true, Bool.not_false, Nat.zero_add, Nat.add_zero, Nat.add_sub_cancel, eq_self, ne_b, g0_0, g0_1, g0_2, g0_3, g0_4, g0_5, g0_6, g0_7, g0_8, g0_9, n1, n2, g3_2, g3_3, g3_4, g3_5, g3_6, g3_7, g3_8, g3_9, n4, n5, n6, n7, n8, n9, g10_2, g10_3, g10_4, g10_5, n11, n12, n13, n14, g15_2, g15_3, g15_4, g15_5, n16, n17, n18, n19, g40_0, g40_1, g40_2, g44_0, g44_2, g44_3, g44_5, g44_6, g44_10, g51_3, g51_4, g51_5, g51_6, g51_7, g57_3, g57_4, g57_5, g57_6, g57_7, n120, n121, g122_0, g122_4, g122_5, g122_6, g122_7, g122_8, g122_18, g122_19, g122_20, g122_21, g122_24, g122_25, g122_28, g122_29, g122_31, g122_32, g122_33, g122_39, g122_40, g122_41, g122_45, g122_46, g122_47, g122_48, n123, n124, n125, n126, n127, n128, n129, n130, n131, n132, n133, n134, n135, n136, n137, n138, n139, n140, n141, n142, n143, n144, n145, n146, hl, XD s.1 p2 j hj, RD s.1 p2 j hj, g40_1, g40_0, n41, n42, e]
      · rw [inp_s]
        by_cases c : p = R j
        · subst c
          rw [hI_uI_e, if_pos rfl, psn, Nat.add_assoc]
        · rw [hI_uI_s c, hI_uI_o (by decide), p3 p hp, if_neg (fun e => c e.symm), Nat.add_zero]
      · rw [hI_uI_o (by decide)]
        by_cases c : k = j
        · subst c
          rw [hI_uI_e]
        · rw [hI_uI_s (fun e => c (psn_inj (by omega) hj e))]
          exact p4 k (by omega)
    · obtain ⟨p1, p2, p3, p4⟩ := p
      refine ⟨(sI s.1 x (va_cpy (hI s.1 41) (hI s.1 x) 0 0 n), nI (fil R n 12)), ?_, _, rfl, fun y hy => ?_, fun y hy => ?_, fun d d1 d2 d3 => ?_, ?_⟩
      · show B_X3_sortRow_100 _ _ _ _ _ _ _ _ = _
        unfold B_X3_sortRow_100
        rw [p1]
        simp (disch := omega) only [↓m1_n, li_n, li_0, li_1, lt_y, lt_n, le_y, le_n, eq_n, nL, nLe, nEq, nEm, mEn, nLm, mLn, nLem, mLen, nI_add, nI_mul, nI_sub, nI_m, ib_nI, nx_nI, gd_y, bnd_e, bind_y, ↓reduceIte, hI_uI_o, hI_uI_s, hI_uI_e, hL_uI, hI_uL, hL_uL_o, hL_uL_s, hL_uL_e, and1_a, and1_b, Bool.not_true, Bool.not_false, Nat.zero_add, Nat.add_zero, Nat.add_sub_cancel, eq_self, ne_b, g0_0, g0_1, g0_2, g0_3, g0_4, g0_5, g0_6, g0_7, g0_8, g0_9, n1, n2, g3_2, g3_3, g3_4, g3_5, g3_6, g3_7, g3_8, g3_9, n4, n5, n6, n7, n8, n9, g10_2, g10_3, g10_4, g10_5, n11, n12, n13, n14, g15_2, g15_3, g15_4, g15_5, n16, n17, n18, n19, g40_0, g40_1, g40_2, g44_0, g44_2, g44_3, g44_5, g44_6, g44_10, g51_3, g51_4, g51_5, g51_6, g51_7, g57_3, g57_4, g57_5, g57_6, g57_7, n120, n121, g122_0, g122_4, g122_5, g122_6, g122_7, g122_8, g122_18, g122_19, g122_20, g122_21, g122_24, g122_25, g122_28, g122_29, g122_31, g122_32, g122_33, g122_39, g122_40, g122_41, g122_45, g122_46, g122_47, g122_48, n123, n124, n125, n126, n127, n128, n129, n130, n131, n132, n133, n134, n135, n136, n137, n138, n139, n140, n141, n142, n143, n144, n145, n146, g40_0, n41, hl, cpk]
      · rw [hI_sI_e, cpy0 hy]
        exact srt_all p4 hy
      · rw [hI_sI_e, pk_cpy_out (by omega), p2.1 x hx4.1 hx4.2]
      · rw [hI_sI_o d3]
        exact p2.1 d d1 d2
      · rw [hL_sI]
        exact p2.2
  obtain ⟨r, e1, h4, e2, e3⟩ := key
  exact ⟨h4, by rw [e1, e2], e3⟩
theorem c_sort {h : Hp} {A : Ho} {q x n col : Nat} {D : Nat → Nat} (ok : HoOk q A) (rc : RcH h 3 A) (hx : x = 9 ∨ x = 49) (hn : n ≤ 30) (hc : col < 8) (hD : ∀ k, k < n → hI h x k = nI (D k) ∧ D k < oN A) : ∃ h', F_X3_sortRow h 40 3 x (nI n) (nI col) = some (h', nI (fil (fun k => rdN (oH A (D k) col)) n 12)) ∧ (∀ y, y < n → hI h' x y = nI (srt (fun k => rdN (oH A (D k) col)) D n y)) ∧ (∀ y, n ≤ y → hI h' x y = hI h x y) ∧ (∀ d, d ≠ 41 → d ≠ 42 → d ≠ x → hI h' d = hI h d) ∧ hL h' = hL h := by
  have hA := ok.1
  have hl : LEN x = 30 := by rcases hx with rfl | rfl <;> decide +kernel
  have hx4 : x ≠ 41 ∧ x ≠ 42 := by omega
  obtain ⟨h1, a1, a2, a3, a4⟩ := c_fillI (h := h) (c := 42) (n := 13) (v := nI 0) n42 (by decide)
  have f1 : FrS h h1 := ⟨fun d _ d2 => a3 d d2, a2⟩
  generalize hR : (fun k => rdN (oH A (D k) col)) = R
  have hR11 : ∀ k, R k ≤ 11 := fun k => by rw [← hR]; exact rdN_le _
  have RD : ∀ h', FrS h h' → ∀ k, k < n → F_X2_reading h' 3 (nI (D k)) (nI col) = some (nI (R k)) := fun h' f k hk => by
    rw [c_reading ok (f.rc rc) (hD k hk).2 hc, ← hR]
  have XD : ∀ h', FrS h h' → ∀ k, k < n → hI h' x k = nI (D k) := fun h' f k hk => by
    rw [f.1 x hx4.1 hx4.2]; exact (hD k hk).1
  obtain ⟨h2, b1, b2, b3⟩ := c_sort1 hx4 hl hn hR11 RD XD f1 a4
  obtain ⟨h3, c1, c2, c3⟩ := c_sort2 hx4 hl hn hR11 RD XD b2 b3
  obtain ⟨h4, d1, d2, d3, d4, d5⟩ := c_sort3 hx4 hl hn hR11 RD XD c2 c3
  refine ⟨h4, ?_, d2, d3, d4, d5⟩
  unfold F_X3_sortRow
  simp (disch := omega) only [↓m1_n, li_n, li_0, li_1, lt_y, lt_n, le_y, le_n, eq_n, nL, nLe, nEq, nEm, mEn, nLm, mLn, nLem, mLen, nI_add, nI_mul, nI_sub, nI_m, ib_nI, nx_nI, gd_y, bnd_e, bind_y, ↓reduceIte, hI_uI_o, hI_uI_s, hI_uI_e, hL_uI, hI_uL, hL_uL_o, hL_uL_s, hL_uL_e, and1_a, and1_b, Bool.not_true, Bool.not_false, Nat.zero_add, Nat.add_zero, Nat.add_sub_cancel, eq_self, ne_b, g0_0, g0_1, g0_2, g0_3, g0_4, g0_5, g0_6, g0_7, g0_8, g0_9, n1, n2, g3_2, g3_3, g3_4, g3_5, g3_6, g3_7, g3_8, g3_9, n4, n5, n6, n7, n8, n9, g10_2, g10_3, g10_4, g10_5, n11, n12, n13, n14, g15_2, g15_3, g15_4, g15_5, n16, n17, n18, n19, g40_0, g40_1, g40_2, g44_0, g44_2, g44_3, g44_5, g44_6, g44_10, g51_3, g51_4, g51_5, g51_6, g51_7, g57_3, g57_4, g57_5, g57_6, g57_7, n120, n121, g122_0, g122_4, g122_5, g122_6, g122_7, g122_8, g122_18, g122_19, g122_20, g122_21, g122_24, g122_25, g122_28, g122_29, g122_31, g122_32, g122_33, g122_39, g122_40, g122_41, g122_45, g122_46, g122_47, g122_48, n123, n124, n125, n126, n127, n128, n129, n130, n131, n132, n133, n134, n135, n136, n137, n138, n139, n140, n141, n142, n143, n144, n145, n146, g40_1, a1, b1, c1, d1]
