/-! ===== plan: rows of passes, and idle ones ===== -/
/-- the same cards in the same order -/
def EqD (D D' : Nat → Nat) (n : Nat) : Prop := (∀ x, rgD D n x ↔ rgD D' n x) ∧ ∀ x y, bfD D n x y ↔ bfD D' n x y
theorem EqD_any {re D D' : Nat → Nat} {n : Nat} (r : EqD D D' n) : EqD (srt (fun k => re (D k)) D n) (srt (fun k => re (D' k)) D' n) n := by
  refine ⟨fun x => by rw [rg_srt, rg_srt]; exact r.1 x, fun x y => ?_⟩
  rw [bf_srt, bf_srt, r.1 x, r.1 y, r.2 x y]
theorem Rel_eq {rd D D' : Nat → Nat} {n : Nat} (r : RelD rd D D' n) : EqD (srt (fun k => rd (D k)) D n) (srt (fun k => rd (D' k)) D' n) n := ⟨fun x => by rw [rg_srt, rg_srt]; exact r.1 x, fun _ _ => Rel_same r⟩
theorem des_iff {rk D : Nat → Nat} {n : Nat} : exB (desB rk D) (n - 1) = false ↔ ∀ x y, bfD D n x y → rk x ≤ rk y := by
  constructor
  · intro e x y
    rintro ⟨i, j, l, hj, rfl, rfl⟩
    have st : ∀ k, k + 1 < n → rk (D k) ≤ rk (D (k + 1)) := by
      intro k hk
      by_cases c : rk (D (k + 1)) < rk (D k)
      · have : exB (desB rk D) (n - 1) = true := (exB_iff _).mpr ⟨k, by omega, decide_eq_true c⟩
        rw [e] at this
        exact absurd this Bool.false_ne_true
      · omega
    obtain ⟨d, rfl⟩ : ∃ d, j = i + d := ⟨j - i, by omega⟩
    clear l
    induction d with
    | zero => exact Nat.le_refl _
    | succ d ih => exact Nat.le_trans (ih (by omega)) (st (i + d) (by omega))
  · intro h
    refine exB_f (fun k hk => decide_eq_false ?_)
    have := h (D k) (D (k + 1)) ⟨k, k + 1, by omega, by omega, rfl, rfl⟩
    omega
theorem des_eq {rk D D' : Nat → Nat} {n : Nat} (r : EqD D D' n) : exB (desB rk D) (n - 1) = exB (desB rk D') (n - 1) := by
  have : exB (desB rk D) (n - 1) = false ↔ exB (desB rk D') (n - 1) = false := by
    rw [des_iff, des_iff]
    exact ⟨fun h x y b => h x y ((r.2 x y).mpr b), fun h x y b => h x y ((r.2 x y).mp b)⟩
  cases e1 : exB (desB rk D) (n - 1) <;> cases e2 : exB (desB rk D') (n - 1) <;> simp [e1, e2] at this <;> rfl
/-- the deck behind the first k passes of the row c, and their hands together -/
def dkR (A : Ho) (c : Nat → Nat) : Nat → Nat → Nat
  | 0 => oD A
  | k + 1 => srt (fun i => rdN (oH A (dkR A c k i) (c k))) (dkR A c k) (oN A)
def hdR (A : Ho) (c : Nat → Nat) : Nat → Nat
  | 0 => 0
  | k + 1 => hdR A c k + fil (fun i => rdN (oH A (dkR A c k i) (c k))) (oN A) 12
theorem hdR_le {A : Ho} {c : Nat → Nat} : ∀ k, hdR A c k ≤ 12 * k := by
  intro k
  induction k with
  | zero => exact Nat.le_refl _
  | succ k ih =>
    have : fil (fun i => rdN (oH A (dkR A c k i) (c k))) (oN A) 12 ≤ 12 := cnt_le _ _
    show hdR A c k + _ ≤ _
    omega
theorem dkR_lt {A : Ho} {c : Nat → Nat} {q : Nat} (ok : HoOk q A) : ∀ k y, y < oN A → dkR A c k y < oN A := by
  intro k
  induction k with
  | zero => intro y hy; exact (ok.2.1 y hy).2.2.2.2
  | succ k ih => intro y hy; exact srt_lt (Nat.le_refl _) ih hy
theorem dkR_congr {A : Ho} {c c' : Nat → Nat} : ∀ k, (∀ i, i < k → c i = c' i) → dkR A c k = dkR A c' k ∧ hdR A c k = hdR A c' k := by
  intro k
  induction k with
  | zero => intro _; exact ⟨rfl, rfl⟩
  | succ k ih =>
    intro h
    have := ih (fun i hi => h i (by omega))
    refine ⟨?_, ?_⟩
    · rw [dkR, dkR, this.1, h k (by omega)]
    · rw [hdR, hdR, this.1, this.2, h k (by omega)]
def cutR (c : Nat → Nat) (i k : Nat) : Nat := if k < i then c k else c (k + 1)
theorem idle {A : Ho} {c : Nat → Nat} {i j m : Nat} (hij : i < j) (hj : j < m) (e : c i = c j) : EqD (dkR A (cutR c i) (m - 1)) (dkR A c m) (oN A) := by
  have p0 : dkR A (cutR c i) i = dkR A c i := (dkR_congr i (fun k hk => by unfold cutR; rw [if_pos hk])).1
  have st : ∀ k, i ≤ k → dkR A (cutR c i) (k + 1) = srt (fun y => rdN (oH A (dkR A (cutR c i) k y) (c (k + 1)))) (dkR A (cutR c i) k) (oN A) := by
    intro k hk
    rw [dkR]
    unfold cutR
    rw [if_neg (by omega)]
  have p1 : ∀ d, i + d < j → RelD (fun x => rdN (oH A x (c i))) (dkR A (cutR c i) (i + d)) (dkR A c (i + d + 1)) (oN A) := by
    intro d
    induction d with
    | zero =>
      intro _
      show RelD _ (dkR A (cutR c i) i) (dkR A c (i + 1)) _
      rw [p0, dkR]
      exact Rel_self
    | succ d ih =>
      intro h
      have := ih (by omega)
      show RelD _ (dkR A (cutR c i) (i + d + 1)) (dkR A c (i + d + 1 + 1)) _
      rw [st (i + d) (by omega), dkR]
      exact Rel_any (re := fun x => rdN (oH A x (c (i + d + 1)))) this
  have p2 : EqD (dkR A (cutR c i) j) (dkR A c (j + 1)) (oN A) := by
    have := p1 (j - 1 - i) (by omega)
    rw [show i + (j - 1 - i) = j - 1 by omega, show j - 1 + 1 = j by omega] at this
    have s := st (j - 1) (by omega)
    rw [show j - 1 + 1 = j by omega] at s
    rw [s, dkR]
    rw [← e]
    exact Rel_eq this
  have p3 : ∀ d, EqD (dkR A (cutR c i) (j + d)) (dkR A c (j + d + 1)) (oN A) := by
    intro d
    induction d with
    | zero => exact p2
    | succ d ih =>
      show EqD (dkR A (cutR c i) (j + d + 1)) (dkR A c (j + d + 1 + 1)) _
      rw [st (j + d) (by omega), dkR]
      exact EqD_any (re := fun x => rdN (oH A x (c (j + d + 1)))) ih
  have := p3 (m - 1 - j)
  rw [show j + (m - 1 - j) = m - 1 by omega, show m - 1 + 1 = m by omega] at this
  exact this
/-! ===== rows by number ===== -/
/-- r divided j times by d -/
def dvN (d r : Nat) : Nat → Nat
  | 0 => r
  | j + 1 => dvN d r j / d
theorem dvN_le {d r : Nat} : ∀ j, dvN d r j ≤ r := by
  intro j
  induction j with
  | zero => exact Nat.le_refl _
  | succ j ih => exact Nat.le_trans (Nat.div_le_self _ _) ih
/-- the row of number r, with m columns out of cl -/
def rwN (cl : Nat → Nat) (d m r k : Nat) : Nat := cl (dvN d r (m - 1 - k) % d)
def numN (d : Nat) (e : Nat → Nat) : Nat → Nat
  | 0 => 0
  | m + 1 => numN d e m * d + e m
theorem numN_lt {d : Nat} {e : Nat → Nat} : ∀ m, (∀ k, k < m → e k < d) → numN d e m < d ^ m := by
  intro m
  induction m with
  | zero => intro _; exact Nat.one_pos
  | succ m ih =>
    intro h
    have h1 := ih (fun k hk => h k (by omega))
    have h2 := h m (by omega)
    have h3 : (numN d e m + 1) * d ≤ d ^ m * d := Nat.mul_le_mul_right d h1
    rw [Nat.succ_mul] at h3
    rw [Nat.pow_succ, numN]
    omega
theorem numN_dv {d : Nat} {e : Nat → Nat} {m : Nat} (h : ∀ k, k < m → e k < d) : ∀ j, j ≤ m → dvN d (numN d e m) j = numN d e (m - j) := by
  intro j
  induction j with
  | zero => intro _; rfl
  | succ j ih =>
    intro hj
    rw [dvN, ih (by omega), show m - j = (m - (j + 1)) + 1 by omega, numN]
    have := h (m - (j + 1)) (by omega)
    rw [Nat.mul_comm, Nat.mul_add_div (by omega), Nat.div_eq_of_lt this, Nat.add_zero]
theorem numN_rw {cl e : Nat → Nat} {d m k : Nat} (h : ∀ k, k < m → e k < d) (hk : k < m) : rwN cl d m (numN d e m) k = cl (e k) := by
  unfold rwN
  have := h k hk
  rw [numN_dv h _ (by omega), show m - (m - 1 - k) = k + 1 by omega, numN, Nat.mul_comm, Nat.mul_add_mod, Nat.mod_eq_of_lt this]
/-- hands of a row of number r, if it leaves the deck in order -/
def vlR (A : Ho) (rk cl : Nat → Nat) (d m r : Nat) : Option Nat := if exB (desB rk (dkR A (rwN cl d m r) m)) (oN A - 1) then none else some (hdR A (rwN cl d m r) m)
/-- a column twice, among the places from a on -/
def rpB (c : Nat → Nat) (m a : Nat) : Bool := exB (fun i => decide (a ≤ i) && exB (fun k => decide (i < k) && decide (c k = c i)) m) m
theorem rpB_iff {c : Nat → Nat} {m a : Nat} : rpB c m a = true ↔ ∃ i k, a ≤ i ∧ i < k ∧ k < m ∧ c k = c i := by
  unfold rpB
  rw [exB_iff]
  constructor
  · rintro ⟨i, hi, e⟩
    rw [Bool.and_eq_true, exB_iff] at e
    obtain ⟨e1, k, hk, e2⟩ := e
    rw [Bool.and_eq_true] at e2
    exact ⟨i, k, of_decide_eq_true e1, of_decide_eq_true e2.1, hk, of_decide_eq_true e2.2⟩
  · rintro ⟨i, k, h1, h2, h3, h4⟩
    refine ⟨i, by omega, ?_⟩
    rw [Bool.and_eq_true, exB_iff]
    refine ⟨decide_eq_true h1, k, h3, ?_⟩
    rw [Bool.and_eq_true]
    exact ⟨decide_eq_true h2, decide_eq_true h4⟩
def vlC (A : Ho) (rk cl : Nat → Nat) (d m r : Nat) : Option Nat := if rpB (rwN cl d m r) m 0 then none else vlR A rk cl d m r
/-- the first of the least hands, of the first r rows -/
def selR (V : Nat → Option Nat) : Nat → Option (Nat × Nat)
  | 0 => none
  | r + 1 => match V r with
    | none => selR V r
    | some v => match selR V r with
      | none => some (v, r)
      | some p => if v < p.1 then some (v, r) else some p
theorem selR_congr {V V' : Nat → Option Nat} : ∀ r, (∀ k, k < r → V k = V' k) → selR V r = selR V' r := by
  intro r
  induction r with
  | zero => intro _; rfl
  | succ r ih =>
    intro h
    rw [selR, selR, ih (fun k hk => h k (by omega)), h r (by omega)]
theorem selR_none {V : Nat → Option Nat} : ∀ r, selR V r = none → ∀ k, k < r → V k = none := by
  intro r
  induction r with
  | zero => intro _ k hk; omega
  | succ r ih =>
    intro h k hk
    rw [selR] at h
    cases e : V r with
    | none =>
      rw [e] at h
      by_cases c : k = r
      · rw [c, e]
      · exact ih h k (by omega)
    | some v =>
      rw [e] at h
      cases e2 : selR V r with
      | none => rw [e2] at h; cases h
      | some p =>
        rw [e2] at h
        dsimp only at h
        by_cases c : v < p.1
        · rw [if_pos c] at h; cases h
        · rw [if_neg c] at h; cases h
theorem selR_nil {V : Nat → Option Nat} : ∀ r, (∀ k, k < r → V k = none) → selR V r = none := by
  intro r
  induction r with
  | zero => intro _; rfl
  | succ r ih =>
    intro h
    rw [selR, h r (by omega)]
    exact ih (fun k hk => h k (by omega))
theorem selR_lt {V : Nat → Option Nat} {p : Nat × Nat} : ∀ r, selR V r = some p → p.2 < r ∧ V p.2 = some p.1 := by
  intro r
  induction r with
  | zero => intro h; cases h
  | succ r ih =>
    intro h
    rw [selR] at h
    cases e : V r with
    | none =>
      rw [e] at h
      have := ih h
      exact ⟨by omega, this.2⟩
    | some v =>
      rw [e] at h
      cases e2 : selR V r with
      | none =>
        rw [e2] at h
        cases h
        exact ⟨by show r < r + 1; omega, e⟩
      | some p' =>
        rw [e2] at h
        dsimp only at h
        by_cases c : v < p'.1
        · rw [if_pos c] at h
          cases h
          exact ⟨by show r < r + 1; omega, e⟩
        · rw [if_neg c] at h
          cases h
          have := ih e2
          exact ⟨by omega, this.2⟩
section RR
variable {A : Ho} {rk cl : Nat → Nat} {d : Nat}
theorem rp_idle {m r : Nat} (hd : 0 < d) (h : rpB (rwN cl d m r) m 0 = true) (hs : selR (vlR A rk cl d (m - 1)) (d ^ (m - 1)) = none) : vlR A rk cl d m r = none := by
  obtain ⟨i, j, -, hij, hj, e⟩ := rpB_iff.mp h
  have id := idle (A := A) hij hj e.symm
  have he : ∀ k, k < m - 1 → cutR (fun k => dvN d r (m - 1 - k) % d) i k < d := by
    intro k _
    unfold cutR
    by_cases c : k < i
    · rw [if_pos c]; exact Nat.mod_lt _ hd
    · rw [if_neg c]; exact Nat.mod_lt _ hd
  have n := selR_none _ hs _ (numN_lt _ he)
  have rw1 : ∀ k, k < m - 1 → rwN cl d (m - 1) (numN d (cutR (fun k => dvN d r (m - 1 - k) % d) i) (m - 1)) k = cutR (rwN cl d m r) i k := by
    intro k hk
    rw [numN_rw he hk]
    unfold cutR rwN
    by_cases c : k < i
    · rw [if_pos c, if_pos c]
    · rw [if_neg c, if_neg c]
  unfold vlR at *
  rw [(dkR_congr (m - 1) rw1).1, des_eq id] at n
  by_cases c : exB (desB rk (dkR A (rwN cl d m r) m)) (oN A - 1) = true
  · rw [if_pos c]
  · rw [if_neg c] at n
    cases n
theorem rp_big {m r : Nat} (hd : 0 < d) (hm : d < m) : rpB (rwN cl d m r) m 0 = true := by
  by_cases h : rpB (rwN cl d m r) m 0 = true
  · exact h
  · have inj : ∀ i k, i < k → k < m → dvN d r (m - 1 - k) % d ≠ dvN d r (m - 1 - i) % d := by
      intro i k h1 h2 e
      refine h (rpB_iff.mpr ⟨i, k, Nat.zero_le _, h1, h2, ?_⟩)
      unfold rwN
      rw [e]
    obtain ⟨i, hi, e⟩ := pig d (fun k => dvN d r (m - 1 - k) % d) (fun i _ => Nat.mod_lt _ hd) (fun i j hi hj e => by
      rcases Nat.lt_trichotomy i j with l | l | l
      · exact absurd e.symm (inj i j l (by omega))
      · exact l
      · exact absurd e (inj j i l (by omega))) (dvN d r (m - 1 - d) % d) (Nat.mod_lt _ hd)
    exact absurd e.symm (inj i d hi hm)
theorem vl_eq {m r : Nat} (hd : 0 < d) (hs : 0 < m → selR (vlR A rk cl d (m - 1)) (d ^ (m - 1)) = none) : vlC A rk cl d m r = vlR A rk cl d m r := by
  unfold vlC
  by_cases h : rpB (rwN cl d m r) m 0 = true
  · rw [if_pos h]
    have : 0 < m := by
      obtain ⟨i, j, -, hij, hj, e⟩ := rpB_iff.mp h
      omega
    exact (rp_idle hd h (hs this)).symm
  · rw [if_neg h]
theorem sel_eq {m : Nat} (hd : 0 < d) (hs : 0 < m → selR (vlR A rk cl d (m - 1)) (d ^ (m - 1)) = none) : selR (vlC A rk cl d m) (d ^ m) = selR (vlR A rk cl d m) (d ^ m) := selR_congr _ (fun _ _ => vl_eq hd hs)
theorem sel_big {m : Nat} (hd : 0 < d) (hm : d < m) : selR (vlC A rk cl d m) (d ^ m) = none := selR_nil _ (fun r _ => by unfold vlC; rw [if_pos (rp_big hd hm)])
/-- nothing below m for the one, then nothing for the other -/
theorem sel_both (hd : 0 < d) : ∀ m, (∀ k, k < m → selR (vlC A rk cl d k) (d ^ k) = none) → ∀ k, k < m → selR (vlR A rk cl d k) (d ^ k) = none := by
  intro m h k
  induction k with
  | zero =>
    intro hk
    rw [← sel_eq hd (fun x => absurd x (Nat.lt_irrefl 0))]
    exact h 0 hk
  | succ k ih =>
    intro hk
    rw [← sel_eq hd (fun _ => ih (by omega))]
    exact h (k + 1) hk
end RR
