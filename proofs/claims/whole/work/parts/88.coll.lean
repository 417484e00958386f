/-! ===== collate: which place comes when ===== -/
def nxP (P : Nat → Bool) (n f : Nat) : Nat := (fst1 P (n - f) f).getD n
theorem cnt_skip {P : Nat → Bool} : ∀ m f, (∀ j, fst1 P m f = some j → cnt P j = cnt P f) ∧ (fst1 P m f = none → cnt P (f + m) = cnt P f) := by
  intro m
  induction m with
  | zero => intro f; exact ⟨fun j e => (by cases e), fun _ => rfl⟩
  | succ m ih =>
    intro f
    unfold fst1
    by_cases e : P f = true
    · rw [if_pos e]
      exact ⟨fun j e => (by cases e; rfl), fun e => (by cases e)⟩
    · rw [if_neg e]
      have h1 : cnt P (f + 1) = cnt P f := by rw [cnt, if_neg e, Nat.add_zero]
      have := ih (f + 1)
      rw [h1, show f + 1 + m = f + (m + 1) by omega] at this
      exact this
theorem nxP_x {P : Nat → Bool} {n f : Nat} (hf : f ≤ n) : f ≤ nxP P n f ∧ nxP P n f ≤ n ∧ (nxP P n f < n → P (nxP P n f) = true) ∧ cnt P (nxP P n f) = cnt P f := by
  unfold nxP
  have s := cnt_skip (P := P) (n - f) f
  cases e : fst1 P (n - f) f with
  | none =>
    have := s.2 e
    rw [show f + (n - f) = n by omega] at this
    exact ⟨hf, Nat.le_refl _, fun h => absurd h (Nat.lt_irrefl _), this⟩
  | some j =>
    have l := fst1_lt _ _ _ e
    exact ⟨l.1, by show j ≤ n; omega, fun _ => l.2.2, s.1 j e⟩
theorem cnt_lt {P : Nat → Bool} {x n : Nat} (hx : x < n) (hp : P x = true) : cnt P x + 1 ≤ cnt P n := by
  obtain ⟨d, rfl⟩ : ∃ d, n = x + 1 + d := ⟨n - (x + 1), by omega⟩
  induction d with
  | zero => rw [Nat.add_zero, cnt, if_pos hp]; exact Nat.le_refl _
  | succ d ih =>
    rw [← Nat.add_assoc, cnt]
    have := ih (by omega)
    omega
theorem cnt_sur {P : Nat → Bool} : ∀ n m, m < cnt P n → ∃ j, j < n ∧ P j = true ∧ cnt P j = m := by
  intro n
  induction n with
  | zero => intro m h; exact absurd h (Nat.not_lt_zero _)
  | succ n ih =>
    intro m h
    rw [cnt] at h
    by_cases e : P n = true
    · rw [if_pos e] at h
      by_cases c : m < cnt P n
      · obtain ⟨j, h1, h2, h3⟩ := ih m c
        exact ⟨j, by omega, h2, h3⟩
      · exact ⟨n, by omega, e, by omega⟩
    · rw [if_neg e] at h
      obtain ⟨j, h1, h2, h3⟩ := ih m (by omega)
      exact ⟨j, by omega, h2, h3⟩
section CO
variable (P0 P1 : Nat → Bool) (V : Nat → Nat) (n : Nat)
def frs (s : Nat × Nat) : Bool := decide (s.2 = n ∨ (s.1 < n ∧ V s.1 ≤ V s.2))
def cst : Nat → Nat × Nat
  | 0 => (nxP P0 n 0, nxP P1 n 0)
  | k + 1 => if frs V n (cst k) then (nxP P0 n ((cst k).1 + 1), (cst k).2) else ((cst k).1, nxP P1 n ((cst k).2 + 1))
def cT : Nat := cnt P0 n + cnt P1 n
def out (k : Nat) : Nat := if frs V n (cst P0 P1 V n k) then (cst P0 P1 V n k).1 else (cst P0 P1 V n k).2
def rst (j : Nat) : Bool := !(P0 j) && !(P1 j)
def plc1 (k : Nat) : Nat := if k < cT P0 P1 n then out P0 P1 V n k else (fst1 (fun j => rst P0 P1 j && decide (cnt (rst P0 P1) j = k - cT P0 P1 n)) n 0).getD 0
theorem cst_ok : ∀ k, k ≤ cT P0 P1 n → (cst P0 P1 V n k).1 ≤ n ∧ (cst P0 P1 V n k).2 ≤ n ∧ ((cst P0 P1 V n k).1 < n → P0 (cst P0 P1 V n k).1 = true) ∧ ((cst P0 P1 V n k).2 < n → P1 (cst P0 P1 V n k).2 = true) ∧ cnt P0 (cst P0 P1 V n k).1 + cnt P1 (cst P0 P1 V n k).2 = k := by
  intro k
  induction k with
  | zero =>
    intro _
    have a := nxP_x (P := P0) (Nat.zero_le n)
    have b := nxP_x (P := P1) (Nat.zero_le n)
    refine ⟨a.2.1, b.2.1, a.2.2.1, b.2.2.1, ?_⟩
    show cnt P0 (nxP P0 n 0) + cnt P1 (nxP P1 n 0) = 0
    rw [a.2.2.2, b.2.2.2]
    rfl
  | succ k ih =>
    intro hk
    obtain ⟨i1, i2, i3, i4, i5⟩ := ih (by omega)
    have nb : ¬ ((cst P0 P1 V n k).1 = n ∧ (cst P0 P1 V n k).2 = n) := by
      rintro ⟨e1, e2⟩
      rw [e1, e2] at i5
      unfold cT at hk
      omega
    rw [cst]
    by_cases f : frs V n (cst P0 P1 V n k) = true
    · rw [if_pos f]
      have f' := of_decide_eq_true f
      have l : (cst P0 P1 V n k).1 < n := by
        rcases f' with e | e
        · have : (cst P0 P1 V n k).1 ≠ n := fun x => nb ⟨x, e⟩
          omega
        · exact e.1
      have a := nxP_x (P := P0) (n := n) (f := (cst P0 P1 V n k).1 + 1) (by omega)
      refine ⟨a.2.1, i2, a.2.2.1, i4, ?_⟩
      show cnt P0 (nxP P0 n ((cst P0 P1 V n k).1 + 1)) + cnt P1 (cst P0 P1 V n k).2 = k + 1
      rw [a.2.2.2, cnt, if_pos (i3 l)]
      omega
    · rw [if_neg f]
      have l : (cst P0 P1 V n k).2 < n := by
        have : ¬ (cst P0 P1 V n k).2 = n := fun e => f (decide_eq_true (Or.inl e))
        omega
      have a := nxP_x (P := P1) (n := n) (f := (cst P0 P1 V n k).2 + 1) (by omega)
      refine ⟨i1, a.2.1, i3, a.2.2.1, ?_⟩
      show cnt P0 (cst P0 P1 V n k).1 + cnt P1 (nxP P1 n ((cst P0 P1 V n k).2 + 1)) = k + 1
      rw [a.2.2.2, cnt, if_pos (i4 l)]
      omega
theorem cst_lt {k : Nat} (hk : k < cT P0 P1 n) : (frs V n (cst P0 P1 V n k) = true → (cst P0 P1 V n k).1 < n) ∧ (frs V n (cst P0 P1 V n k) = false → (cst P0 P1 V n k).2 < n) ∧ ((cst P0 P1 V n k).1 < n ∨ (cst P0 P1 V n k).2 < n) := by
  obtain ⟨i1, i2, i3, i4, i5⟩ := cst_ok P0 P1 V n k (by omega)
  have nb : ¬ ((cst P0 P1 V n k).1 = n ∧ (cst P0 P1 V n k).2 = n) := by
    rintro ⟨e1, e2⟩
    rw [e1, e2] at i5
    unfold cT at hk
    omega
  refine ⟨fun f => ?_, fun f => ?_, by omega⟩
  · rcases of_decide_eq_true f with e | e
    · have : (cst P0 P1 V n k).1 ≠ n := fun x => nb ⟨x, e⟩
      omega
    · exact e.1
  · have : ¬ (cst P0 P1 V n k).2 = n := fun e => absurd (decide_eq_true (Or.inl e)) (Bool.eq_false_iff.mp f)
    omega
theorem cst_end : (cst P0 P1 V n (cT P0 P1 n)).1 = n ∧ (cst P0 P1 V n (cT P0 P1 n)).2 = n := by
  obtain ⟨i1, i2, i3, i4, i5⟩ := cst_ok P0 P1 V n (cT P0 P1 n) (Nat.le_refl _)
  have a : ¬ (cst P0 P1 V n (cT P0 P1 n)).1 < n := fun l => by
    have := cnt_lt l (i3 l)
    have b : cnt P1 (cst P0 P1 V n (cT P0 P1 n)).2 ≤ cnt P1 n := by
      by_cases c : (cst P0 P1 V n (cT P0 P1 n)).2 < n
      · have := cnt_lt c (i4 c); omega
      · rw [show (cst P0 P1 V n (cT P0 P1 n)).2 = n by omega]; exact Nat.le_refl _
    have e : cT P0 P1 n = cnt P0 n + cnt P1 n := rfl
    omega
  have a1 : (cst P0 P1 V n (cT P0 P1 n)).1 = n := by omega
  refine ⟨a1, ?_⟩
  have c : ¬ (cst P0 P1 V n (cT P0 P1 n)).2 < n := fun l => by
    have := cnt_lt l (i4 l)
    rw [a1] at i5
    have e : cT P0 P1 n = cnt P0 n + cnt P1 n := rfl
    omega
  omega
theorem cst_mono {k k' : Nat} (h : k ≤ k') (hk : k' ≤ cT P0 P1 n) : (cst P0 P1 V n k).1 ≤ (cst P0 P1 V n k').1 ∧ (cst P0 P1 V n k).2 ≤ (cst P0 P1 V n k').2 := by
  obtain ⟨d, rfl⟩ : ∃ d, k' = k + d := ⟨k' - k, by omega⟩
  induction d with
  | zero => exact ⟨Nat.le_refl _, Nat.le_refl _⟩
  | succ d ih =>
    have i := ih (by omega) (by omega)
    have l := cst_lt P0 P1 V n (k := k + d) (by omega)
    rw [← Nat.add_assoc, cst]
    by_cases f : frs V n (cst P0 P1 V n (k + d)) = true
    · rw [if_pos f]
      have := nxP_x (P := P0) (n := n) (f := (cst P0 P1 V n (k + d)).1 + 1) (l.1 f)
      exact ⟨by have := this.1; show _ ≤ nxP P0 n _; omega, i.2⟩
    · rw [if_neg f]
      have := nxP_x (P := P1) (n := n) (f := (cst P0 P1 V n (k + d)).2 + 1) (l.2.1 (Bool.eq_false_iff.mpr f))
      exact ⟨i.1, by have := this.1; show _ ≤ nxP P1 n _; omega⟩
theorem out_lt {k : Nat} (hk : k < cT P0 P1 n) : out P0 P1 V n k < n ∧ (frs V n (cst P0 P1 V n k) = true → P0 (out P0 P1 V n k) = true) ∧ (frs V n (cst P0 P1 V n k) = false → P1 (out P0 P1 V n k) = true) := by
  have l := cst_lt P0 P1 V n hk
  have i := cst_ok P0 P1 V n k (by omega)
  unfold out
  cases f : frs V n (cst P0 P1 V n k) with
  | true => exact ⟨l.1 f, fun _ => i.2.2.1 (l.1 f), fun e => (by cases e)⟩
  | false => exact ⟨l.2.1 f, fun e => (by cases e), fun _ => i.2.2.2.1 (l.2.1 f)⟩
theorem out_inj (dj : ∀ j, P0 j = true → P1 j = true → False) {k k' : Nat} (h : k < k') (hk : k' < cT P0 P1 n) : out P0 P1 V n k ≠ out P0 P1 V n k' := by
  have o1 := out_lt P0 P1 V n (k := k) (by omega)
  have o2 := out_lt P0 P1 V n (k := k') hk
  have l := cst_lt P0 P1 V n (k := k) (by omega)
  have m := cst_mono P0 P1 V n (k := k + 1) (k' := k') h (by omega)
  intro e
  cases f : frs V n (cst P0 P1 V n k) with
  | true =>
    have x1 := nxP_x (P := P0) (n := n) (f := (cst P0 P1 V n k).1 + 1) (l.1 f)
    rw [cst, if_pos f] at m
    have e1 : out P0 P1 V n k = (cst P0 P1 V n k).1 := by unfold out; rw [if_pos f]
    cases f' : frs V n (cst P0 P1 V n k') with
    | true =>
      have e2 : out P0 P1 V n k' = (cst P0 P1 V n k').1 := by unfold out; rw [if_pos f']
      have := m.1
      have h2 : nxP P0 n ((cst P0 P1 V n k).1 + 1) ≤ (cst P0 P1 V n k').1 := this
      omega
    | false => exact dj _ (o1.2.1 f) (by rw [e]; exact o2.2.2 f')
  | false =>
    have x1 := nxP_x (P := P1) (n := n) (f := (cst P0 P1 V n k).2 + 1) (l.2.1 f)
    have f0 : ¬ frs V n (cst P0 P1 V n k) = true := by rw [f]; exact Bool.false_ne_true
    rw [cst, if_neg f0] at m
    have e1 : out P0 P1 V n k = (cst P0 P1 V n k).2 := by unfold out; rw [if_neg f0]
    cases f' : frs V n (cst P0 P1 V n k') with
    | false =>
      have f0' : ¬ frs V n (cst P0 P1 V n k') = true := by rw [f']; exact Bool.false_ne_true
      have e2 : out P0 P1 V n k' = (cst P0 P1 V n k').2 := by unfold out; rw [if_neg f0']
      have h2 : nxP P1 n ((cst P0 P1 V n k).2 + 1) ≤ (cst P0 P1 V n k').2 := m.2
      omega
    | true => exact dj _ (by rw [e]; exact o2.2.1 f') (o1.2.2 f)
theorem cT_rst (dj : ∀ j, P0 j = true → P1 j = true → False) : ∀ n, cnt P0 n + cnt P1 n + cnt (rst P0 P1) n = n := by
  intro n
  induction n with
  | zero => rfl
  | succ n ih =>
    rw [cnt, cnt, cnt]
    have := dj n
    unfold rst at *
    cases a : P0 n <;> cases b : P1 n <;> simp [a, b] at this ⊢ <;> omega
theorem plc1_r (dj : ∀ j, P0 j = true → P1 j = true → False) {j : Nat} (hj : j < n) (hr : rst P0 P1 j = true) : plc1 P0 P1 V n (cT P0 P1 n + cnt (rst P0 P1) j) = j := by
  unfold plc1
  rw [if_neg (by omega), Nat.add_sub_cancel_left]
  obtain ⟨k, hk⟩ := fst1_ex (P := fun i => rst P0 P1 i && decide (cnt (rst P0 P1) i = cnt (rst P0 P1) j)) n 0 j (by omega) (by omega) (by simp [hr])
  have l := fst1_lt _ _ _ hk
  rw [hk]
  show k = j
  have l2 := l.2.2
  simp only [Bool.and_eq_true, decide_eq_true_eq] at l2
  rcases Nat.lt_trichotomy k j with c | c | c
  · have := cnt_lt c l2.1; omega
  · exact c
  · have := cnt_lt c hr; omega
theorem plc1_c (dj : ∀ j, P0 j = true → P1 j = true → False) {k : Nat} (hk : k < n) : k < cT P0 P1 n ∨ ∃ j, j < n ∧ rst P0 P1 j = true ∧ k = cT P0 P1 n + cnt (rst P0 P1) j := by
  by_cases c : k < cT P0 P1 n
  · exact Or.inl c
  · have e := cT_rst P0 P1 dj n
    have e2 : cT P0 P1 n = cnt P0 n + cnt P1 n := rfl
    obtain ⟨j, h1, h2, h3⟩ := cnt_sur (P := rst P0 P1) n (k - cT P0 P1 n) (by omega)
    exact Or.inr ⟨j, h1, h2, by omega⟩
theorem plc1_lt (dj : ∀ j, P0 j = true → P1 j = true → False) {k : Nat} (hk : k < n) : plc1 P0 P1 V n k < n := by
  rcases plc1_c P0 P1 n dj hk with c | ⟨j, h1, h2, rfl⟩
  · unfold plc1
    rw [if_pos c]
    exact (out_lt P0 P1 V n c).1
  · rw [plc1_r P0 P1 V n dj h1 h2]
    exact h1
theorem plc1_inj (dj : ∀ j, P0 j = true → P1 j = true → False) {k k' : Nat} (hk : k < n) (hk' : k' < n) (e : plc1 P0 P1 V n k = plc1 P0 P1 V n k') : k = k' := by
  have cr : ∀ k j, k < cT P0 P1 n → rst P0 P1 j = true → out P0 P1 V n k = j → False := by
    intro k j c hr e
    have o := out_lt P0 P1 V n c
    unfold rst at hr
    simp at hr
    cases f : frs V n (cst P0 P1 V n k) with
    | true => have := o.2.1 f; rw [e, hr.1] at this; cases this
    | false => have := o.2.2 f; rw [e, hr.2] at this; cases this
  rcases plc1_c P0 P1 n dj hk with c | ⟨j, h1, h2, rfl⟩
  · have e1 : plc1 P0 P1 V n k = out P0 P1 V n k := by unfold plc1; rw [if_pos c]
    rcases plc1_c P0 P1 n dj hk' with c' | ⟨j', h1', h2', rfl⟩
    · have e2 : plc1 P0 P1 V n k' = out P0 P1 V n k' := by unfold plc1; rw [if_pos c']
      rw [e1, e2] at e
      rcases Nat.lt_trichotomy k k' with l | l | l
      · exact absurd e (out_inj P0 P1 V n dj l c')
      · exact l
      · exact absurd e.symm (out_inj P0 P1 V n dj l c)
    · rw [e1, plc1_r P0 P1 V n dj h1' h2'] at e
      exact (cr k j' c h2' e).elim
  · rw [plc1_r P0 P1 V n dj h1 h2] at e
    rcases plc1_c P0 P1 n dj hk' with c' | ⟨j', h1', h2', rfl⟩
    · have e2 : plc1 P0 P1 V n k' = out P0 P1 V n k' := by unfold plc1; rw [if_pos c']
      rw [e2] at e
      exact (cr k' j c' h2 e.symm).elim
    · rw [plc1_r P0 P1 V n dj h1' h2'] at e
      rw [e]
theorem plc1_all (dj : ∀ j, P0 j = true → P1 j = true → False) {D : Nat → Nat} {H : Nat → Int32} (h1 : ∀ k, k < cT P0 P1 n → H k = nI (D (out P0 P1 V n k))) (h2 : ∀ j, j < n → rst P0 P1 j = true → H (cT P0 P1 n + cnt (rst P0 P1) j) = nI (D j)) {k : Nat} (hk : k < n) : H k = nI (D (plc1 P0 P1 V n k)) := by
  rcases plc1_c P0 P1 n dj hk with c | ⟨j, c1, c2, rfl⟩
  · unfold plc1
    rw [if_pos c]
    exact h1 k c
  · rw [plc1_r P0 P1 V n dj c1 c2]
    exact h2 j c1 c2
end CO
