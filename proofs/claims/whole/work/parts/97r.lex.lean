/-! ===== heaps, written twice ===== -/
theorem Hp_ext {a b : Hp} (h1 : ∀ d k, hI a d k = hI b d k) (h2 : hL a = hL b) (h3 : hT a = hT b) : a = b := by
  obtain ⟨a1, a2, a3⟩ := a
  obtain ⟨b1, b2, b3⟩ := b
  have e1 : a1 = b1 := funext (fun d => funext (fun k => h1 d k))
  have e2 : a2 = b2 := h2
  have e3 : a3 = b3 := h3
  rw [e1, e2, e3]
theorem uI_uI {h : Hp} {c k : Nat} {v w : Int32} : uI (uI h c k v) c k w = uI h c k w := by
  refine Hp_ext (fun d j => ?_) rfl rfl
  by_cases e : d = c
  · subst e
    by_cases x : j = k
    · subst x; rw [hI_uI_e, hI_uI_e]
    · rw [hI_uI_s x, hI_uI_s x, hI_uI_s x]
  · rw [hI_uI_o e, hI_uI_o e, hI_uI_o e]
theorem uI_self {h : Hp} {c k : Nat} {v : Int32} (e : hI h c k = v) : uI h c k v = h := by
  refine Hp_ext (fun d j => ?_) rfl rfl
  by_cases x : d = c
  · subst x
    by_cases y : j = k
    · subst y; rw [hI_uI_e, e]
    · rw [hI_uI_s y]
  · rw [hI_uI_o x]
theorem uI_comm {h : Hp} {c k j : Nat} {v w : Int32} (e : j ≠ k) : uI (uI h c k v) c j w = uI (uI h c j w) c k v := by
  refine Hp_ext (fun d i => ?_) rfl rfl
  by_cases x : d = c
  · subst x
    by_cases y : i = k
    · subst y; rw [hI_uI_s (fun z => e z.symm), hI_uI_e, hI_uI_e]
    · by_cases z : i = j
      · subst z; rw [hI_uI_e, hI_uI_s y, hI_uI_e]
      · rw [hI_uI_s z, hI_uI_s y, hI_uI_s y, hI_uI_s z]
  · rw [hI_uI_o x, hI_uI_o x, hI_uI_o x, hI_uI_o x]
/-! ===== texts and tokens ===== -/
def lwB (x : Nat) : Bool := decide (97 ≤ x ∧ x ≤ 122)
def dgB (x : Nat) : Bool := decide (48 ≤ x ∧ x ≤ 57)
def blB (x : Nat) : Bool := decide (x = 32 ∨ x = 10)
/-- the first place from p on that has not P, or the end -/
def rnE (f : Nat → Nat) (n : Nat) (P : Nat → Bool) (p : Nat) : Nat := (fst1 (fun k => !P (f k)) (n - p) p).getD n
def tS (f : Nat → Nat) (n p : Nat) : Nat := rnE f n blB p
def tE (f : Nat → Nat) (n p : Nat) : Nat := if tS f n p < n then (if lwB (f (tS f n p)) then rnE f n lwB (tS f n p) else if dgB (f (tS f n p)) then rnE f n dgB (tS f n p) else tS f n p + 1) else tS f n p
/-- 0 the end, 1 a word, 2 a number, 3 a sign, 4 none of them -/
def tK (f : Nat → Nat) (n p : Nat) : Nat := if tS f n p < n then (if lwB (f (tS f n p)) then 1 else if dgB (f (tS f n p)) then (if tE f n p - tS f n p ≤ 3 then 2 else 4) else if f (tS f n p) = 59 then 3 else 4) else 0
theorem rnE_all {f : Nat → Nat} {n p : Nat} {P : Nat → Bool} (hp : p ≤ n) : p ≤ rnE f n P p ∧ rnE f n P p ≤ n ∧ (∀ k, p ≤ k → k < rnE f n P p → P (f k) = true) ∧ (rnE f n P p < n → P (f (rnE f n P p)) = false) := by
  unfold rnE
  cases e : fst1 (fun k => !P (f k)) (n - p) p with
  | none =>
    have := fst1_no _ _ e
    refine ⟨hp, Nat.le_refl _, fun k h1 h2 => ?_, fun h => absurd h (Nat.lt_irrefl n)⟩
    have h2 : k < n := h2
    have := this k h1 (by omega)
    cases x : P (f k) with
    | true => rfl
    | false => rw [x] at this; exact absurd this (by decide)
  | some j =>
    have h := fst1_lt _ _ _ e
    refine ⟨h.1, by show j ≤ n; omega, fun k h1 h2 => ?_, fun _ => ?_⟩
    · have h2 : k < j := h2
      have q : ∀ m a j, fst1 (fun k => !P (f k)) m a = some j → ∀ k, a ≤ k → k < j → P (f k) = true := by
        intro m
        induction m with
        | zero => intro a j e; cases e
        | succ m ih =>
          intro a j e k h1 h2
          unfold fst1 at e
          by_cases c : (!P (f a)) = true
          · rw [if_pos c] at e
            cases e
            omega
          · rw [if_neg c] at e
            by_cases y : k = a
            · subst y
              cases x : P (f k) with
              | true => rfl
              | false => rw [x] at c; exact absurd rfl c
            · exact ih (a + 1) j e k (by omega) h2
      exact q _ _ _ e k h1 h2
    · have := h.2.2
      show P (f j) = false
      cases x : P (f j) with
      | false => rfl
      | true => rw [x] at this; exact absurd this (by decide)
theorem rnE_g {α : Type} {f : Nat → Nat} {n p : Nat} {P : Nat → Bool} (g : Nat → α) : (fst1 (fun k => !P (f k)) (n - p) p).elim (g n) g = g (rnE f n P p) := by
  unfold rnE
  cases fst1 (fun k => !P (f k)) (n - p) p <;> rfl
section TK
variable {f : Nat → Nat} {n p : Nat}
theorem tS_b (hp : p ≤ n) : p ≤ tS f n p ∧ tS f n p ≤ n := ⟨(rnE_all hp).1, (rnE_all hp).2.1⟩
theorem tE_b (hp : p ≤ n) : tS f n p ≤ tE f n p ∧ tE f n p ≤ n ∧ (tS f n p < n → tS f n p < tE f n p) := by
  have b := tS_b (f := f) hp
  unfold tE
  by_cases c : tS f n p < n
  · rw [if_pos c]
    have st : ∀ P : Nat → Bool, P (f (tS f n p)) = true → tS f n p < rnE f n P (tS f n p) ∧ rnE f n P (tS f n p) ≤ n := by
      intro P hP
      have a := rnE_all (f := f) (P := P) b.2
      refine ⟨?_, a.2.1⟩
      by_cases e : rnE f n P (tS f n p) = tS f n p
      · have := a.2.2.2 (by omega)
        rw [e, hP] at this
        exact absurd this (by decide)
      · have := a.1
        omega
    by_cases l : lwB (f (tS f n p)) = true
    · rw [if_pos l]
      have := st lwB l
      omega
    · rw [if_neg l]
      by_cases g : dgB (f (tS f n p)) = true
      · rw [if_pos g]
        have := st dgB g
        omega
      · rw [if_neg g]
        omega
  · rw [if_neg c]
    omega
theorem tK_le : tK f n p ≤ 4 := by
  unfold tK
  split
  · split
    · omega
    · split
      · split <;> omega
      · split <;> omega
  · omega
theorem tK_0 (hp : p ≤ n) : tK f n p = 0 ↔ tS f n p = n := by
  have b := tS_b (f := f) hp
  unfold tK
  by_cases c : tS f n p < n
  · rw [if_pos c]
    constructor
    · intro h
      exfalso
      revert h
      split
      · omega
      · split
        · split <;> omega
        · split <;> omega
    · omega
  · rw [if_neg c]
    constructor
    · omega
    · intro _; rfl
/-- a word: letters alone -/
theorem tK_1 (hp : p ≤ n) (h : tK f n p = 1) : tS f n p < tE f n p ∧ tE f n p ≤ n ∧ ∀ k, tS f n p ≤ k → k < tE f n p → lwB (f k) = true := by
  have b := tS_b (f := f) hp
  have t := tE_b (f := f) hp
  unfold tK at h
  by_cases c : tS f n p < n
  · refine ⟨t.2.2 c, t.2.1, ?_⟩
    rw [if_pos c] at h
    by_cases l : lwB (f (tS f n p)) = true
    · unfold tE
      rw [if_pos c, if_pos l]
      exact (rnE_all b.2).2.2.1
    · rw [if_neg l] at h
      exfalso
      revert h
      split
      · split <;> omega
      · split <;> omega
  · rw [if_neg c] at h
    omega
/-- a number: one to three digits -/
theorem tK_2 (hp : p ≤ n) (h : tK f n p = 2) : tS f n p < tE f n p ∧ tE f n p ≤ tS f n p + 3 ∧ tE f n p ≤ n ∧ ∀ k, tS f n p ≤ k → k < tE f n p → dgB (f k) = true := by
  have b := tS_b (f := f) hp
  have t := tE_b (f := f) hp
  unfold tK at h
  by_cases c : tS f n p < n
  · rw [if_pos c] at h
    by_cases l : lwB (f (tS f n p)) = true
    · rw [if_pos l] at h; omega
    · rw [if_neg l] at h
      by_cases g : dgB (f (tS f n p)) = true
      · rw [if_pos g] at h
        by_cases x : tE f n p - tS f n p ≤ 3
        · refine ⟨t.2.2 c, by omega, t.2.1, ?_⟩
          unfold tE
          rw [if_pos c, if_neg l, if_pos g]
          exact (rnE_all b.2).2.2.1
        · rw [if_neg x] at h; omega
      · rw [if_neg g] at h
        exfalso
        revert h
        split <;> omega
  · rw [if_neg c] at h
    omega
end TK
theorem lw_i {x : Nat} : lwB x = true ↔ 97 ≤ x ∧ x ≤ 122 := ⟨of_decide_eq_true, fun h => decide_eq_true h⟩
theorem dg_i {x : Nat} : dgB x = true ↔ 48 ≤ x ∧ x ≤ 57 := ⟨of_decide_eq_true, fun h => decide_eq_true h⟩
/-- letters or digits as one number: base b, counted from o -/
def nmB (f : Nat → Nat) (b o s : Nat) : Nat → Nat
  | 0 => 0
  | k + 1 => nmB f b o s k * b + (f (s + k) - o)
theorem nmB_lt {f : Nat → Nat} {b o s : Nat} : ∀ k, (∀ i, i < k → f (s + i) - o < b) → nmB f b o s k < b ^ k := by
  intro k
  induction k with
  | zero => intro _; exact Nat.one_pos
  | succ k ih =>
    intro h
    have h1 := ih (fun i hi => h i (by omega))
    have h2 := h k (by omega)
    have h3 : (nmB f b o s k + 1) * b ≤ b ^ k * b := Nat.mul_le_mul_right b h1
    rw [Nat.succ_mul] at h3
    rw [Nat.pow_succ, nmB]
    omega
/-- the same number, the same letters -/
theorem nmB_eq {f : Nat → Nat} {b o s s' : Nat} : ∀ k k', (∀ i, i < k → o < f (s + i) ∧ f (s + i) - o < b) → (∀ i, i < k' → o < f (s' + i) ∧ f (s' + i) - o < b) → (nmB f b o s k = nmB f b o s' k' ↔ k = k' ∧ ∀ i, i < k → f (s + i) = f (s' + i)) := by
  intro k
  induction k with
  | zero =>
    intro k' _ h'
    cases k' with
    | zero => exact ⟨fun _ => ⟨rfl, fun i hi => absurd hi (Nat.not_lt_zero i)⟩, fun _ => rfl⟩
    | succ k' =>
      have := h' k' (by omega)
      constructor
      · intro e
        have e : 0 = nmB f b o s' k' * b + (f (s' + k') - o) := e
        omega
      · intro e; omega
  | succ k ih =>
    intro k' h h'
    cases k' with
    | zero =>
      have := h k (by omega)
      constructor
      · intro e
        have e : nmB f b o s k * b + (f (s + k) - o) = 0 := e
        omega
      · intro e; omega
    | succ k' =>
      have i1 := ih k' (fun i hi => h i (by omega)) (fun i hi => h' i (by omega))
      have a := h k (by omega)
      have a' := h' k' (by omega)
      rw [nmB, nmB]
      constructor
      · intro e
        have m1 : f (s + k) - o = f (s' + k') - o := by
          have := congrArg (fun x => x % b) e
          rw [Nat.mul_comm, Nat.mul_add_mod, Nat.mul_comm (nmB f b o s' k'), Nat.mul_add_mod, Nat.mod_eq_of_lt a.2, Nat.mod_eq_of_lt a'.2] at this
          exact this
        have d1 : nmB f b o s k = nmB f b o s' k' := by
          rw [m1] at e
          have e2 : nmB f b o s k * b = nmB f b o s' k' * b := by omega
          exact Nat.eq_of_mul_eq_mul_right (by omega) e2
        obtain ⟨y1, y2⟩ := i1.mp d1
        refine ⟨by omega, fun i hi => ?_⟩
        by_cases c : i = k
        · subst c
          subst y1
          omega
        · exact y2 i (by omega)
      · rintro ⟨y1, y2⟩
        have y1 : k = k' := by omega
        subst y1
        rw [i1.mpr ⟨rfl, fun i hi => y2 i (by omega)⟩, y2 k (by omega)]
