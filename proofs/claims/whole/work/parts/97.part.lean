/-! ===== parts: ways in numbers ===== -/
def smN (f : Nat → Nat) : Nat → Nat
  | 0 => 0
  | n + 1 => smN f n + f n
theorem smN_congr {f g : Nat → Nat} : ∀ n, (∀ j, j < n → f j = g j) → smN f n = smN g n := by
  intro n
  induction n with
  | zero => intro _; rfl
  | succ n ih =>
    intro e
    rw [smN, smN, ih (fun j hj => e j (by omega)), e n (by omega)]
theorem smN_0 {f : Nat → Nat} : ∀ n, (∀ j, j < n → f j = 0) → smN f n = 0 := by
  intro n
  induction n with
  | zero => intro _; rfl
  | succ n ih =>
    intro e
    rw [smN, ih (fun j hj => e j (by omega)), e n (by omega)]
theorem smN_add {f g : Nat → Nat} : ∀ n, smN (fun j => f j + g j) n = smN f n + smN g n := by
  intro n
  induction n with
  | zero => rfl
  | succ n ih =>
    rw [smN, smN, smN, ih]
    omega
theorem smN_le {f g : Nat → Nat} : ∀ n, (∀ j, j < n → f j ≤ g j) → smN f n ≤ smN g n := by
  intro n
  induction n with
  | zero => intro _; exact Nat.le_refl 0
  | succ n ih =>
    intro e
    have := ih (fun j hj => e j (by omega))
    have := e n (by omega)
    rw [smN, smN]
    omega
theorem smN_one {f : Nat → Nat} {i : Nat} : ∀ n, i < n → (∀ j, j < n → j ≠ i → f j = 0) → smN f n = f i := by
  intro n
  induction n with
  | zero => intro h; exact absurd h (Nat.not_lt_zero _)
  | succ n ih =>
    intro hi e
    rw [smN]
    by_cases c : i = n
    · subst c
      rw [smN_0 i (fun j hj => e j (by omega) (by omega)), Nat.zero_add]
    · rw [ih (by omega) (fun j hj => e j (by omega)), e n (by omega) (by omega), Nat.add_zero]
theorem smN_mid {f : Nat → Nat} {k : Nat} : ∀ m, smN f (k + m) = smN f k + smN (fun j => f (k + j)) m := by
  intro m
  induction m with
  | zero => rfl
  | succ m ih => rw [← Nat.add_assoc, smN, smN, ih, Nat.add_assoc]
theorem smN_cut {f : Nat → Nat} {k n : Nat} (h : k ≤ n) (z : ∀ j, k ≤ j → j < n → f j = 0) : smN f n = smN f k := by
  obtain ⟨m, rfl⟩ : ∃ m, n = k + m := ⟨n - k, by omega⟩
  rw [smN_mid, smN_0 m (fun j hj => z (k + j) (by omega) (by omega)), Nat.add_zero]
theorem smN_two {f : Nat → Nat} {b : Nat} : ∀ n, smN f (b * n) = smN (fun x => smN (fun y => f (b * x + y)) b) n := by
  intro n
  induction n with
  | zero => rfl
  | succ n ih => rw [Nat.mul_succ, smN_mid, ih, smN]
section WY
variable (a0 a1 : Nat → Bool) (lt : Nat → Nat → Bool)
/-- card c + 1 is put upon one deck: the new ways, by the last card of the other -/
def stW (a : Nat → Bool) (Z O : Nat → Nat) (c : Nat) : Nat → Nat := fun y => if a (c + 1) then (if y < c then (if lt c (c + 1) then Z y else 0) else if y = c then smN (fun x => if lt x (c + 1) then O x else 0) c else 0) else 0
/-- after card c + 1 -/
def ws : Nat → (Nat → Nat) × (Nat → Nat)
  | 0 => (fun y => if y = 0 ∧ a0 1 = true then 1 else 0, fun x => if x = 0 ∧ a1 1 = true then 1 else 0)
  | c + 1 => (stW lt a0 (ws c).1 (ws c).2 (c + 1), stW lt a1 (ws c).2 (ws c).1 (c + 1))
def wt (c : Nat) : Nat := smN (fun y => (ws a0 a1 lt c).1 y + (ws a0 a1 lt c).2 y) (c + 1)
theorem stW_le {a : Nat → Bool} {Z O : Nat → Nat} {c : Nat} : smN (stW lt a Z O c) (c + 1) ≤ smN Z c + smN O c := by
  rw [smN]
  have h1 : smN (stW lt a Z O c) c ≤ smN Z c := smN_le c (fun j hj => by
    unfold stW
    split
    · split <;> omega
    · omega)
  have h2 : stW lt a Z O c c ≤ smN O c := by
    unfold stW
    split
    · rw [if_neg (Nat.lt_irrefl c), if_pos rfl]
      refine smN_le c (fun j _ => ?_)
      show (if lt j (c + 1) then O j else 0) ≤ O j
      split <;> omega
    · omega
  omega
theorem wt_le : ∀ c, wt a0 a1 lt c ≤ 2 ^ (c + 1) := by
  intro c
  induction c with
  | zero =>
    show 0 + ((if 0 = 0 ∧ a0 1 = true then 1 else 0) + (if 0 = 0 ∧ a1 1 = true then 1 else 0)) ≤ 2
    split <;> split <;> omega
  | succ c ih =>
    unfold wt at *
    rw [smN_add] at *
    have h1 := stW_le lt (a := a0) (Z := (ws a0 a1 lt c).1) (O := (ws a0 a1 lt c).2) (c := c + 1)
    have h2 := stW_le lt (a := a1) (Z := (ws a0 a1 lt c).2) (O := (ws a0 a1 lt c).1) (c := c + 1)
    rw [show (2 : Nat) ^ (c + 1 + 1) = 2 * 2 ^ (c + 1) from by rw [Nat.pow_succ, Nat.mul_comm]]
    show smN (stW lt a0 (ws a0 a1 lt c).1 (ws a0 a1 lt c).2 (c + 1)) (c + 1 + 1) + smN (stW lt a1 (ws a0 a1 lt c).2 (ws a0 a1 lt c).1 (c + 1)) (c + 1 + 1) ≤ _
    omega
theorem ws_z {c y : Nat} (h : c < y) : (ws a0 a1 lt c).1 y = 0 ∧ (ws a0 a1 lt c).2 y = 0 := by
  cases c with
  | zero => exact ⟨if_neg (by omega), if_neg (by omega)⟩
  | succ c =>
    refine ⟨?_, ?_⟩
    · show stW lt a0 (ws a0 a1 lt c).1 (ws a0 a1 lt c).2 (c + 1) y = 0
      unfold stW
      split
      · rw [if_neg (by omega), if_neg (by omega)]
      · rfl
    · show stW lt a1 (ws a0 a1 lt c).2 (ws a0 a1 lt c).1 (c + 1) y = 0
      unfold stW
      split
      · rw [if_neg (by omega), if_neg (by omega)]
      · rfl
/-- the other deck is shut for card f -/
def shut (a : Nat → Bool) (f : Nat) : Nat → Bool := fun c => a c && decide (c ≠ f)
theorem stW_add {a : Nat → Bool} {Z O Z' O' : Nat → Nat} {c : Nat} : stW lt a (fun y => Z y + Z' y) (fun x => O x + O' x) c = fun y => stW lt a Z O c y + stW lt a Z' O' c y := by
  funext y
  unfold stW
  have e : smN (fun x => if lt x (c + 1) then O x + O' x else 0) c = smN (fun x => if lt x (c + 1) then O x else 0) c + smN (fun x => if lt x (c + 1) then O' x else 0) c := by
    rw [← smN_add]
    refine smN_congr c (fun j _ => ?_)
    show (if lt j (c + 1) then O j + O' j else 0) = (if lt j (c + 1) then O j else 0) + (if lt j (c + 1) then O' j else 0)
    split <;> rfl
  rw [e]
  split
  · split
    · split <;> rfl
    · split <;> rfl
  · rfl
theorem stW_a {a b : Nat → Bool} {Z O : Nat → Nat} {c : Nat} (e : a (c + 1) = b (c + 1)) : stW lt a Z O c = stW lt b Z O c := by
  unfold stW
  rw [e]
theorem stW_f {a : Nat → Bool} {Z O : Nat → Nat} {c : Nat} (e : a (c + 1) = false) : stW lt a Z O c = fun _ => 0 := by
  unfold stW
  rw [e]
  rfl
theorem shut_o {a : Nat → Bool} {f c : Nat} (h : c ≠ f) : shut a f c = a c := by
  unfold shut
  rw [decide_eq_true h, Bool.and_true]
theorem shut_e {a : Nat → Bool} {f : Nat} : shut a f f = false := by
  unfold shut
  rw [decide_eq_false (fun h => h rfl), Bool.and_false]
theorem ws_before {f : Nat} : ∀ c, c + 1 < f → ws a0 (shut a1 f) lt c = ws a0 a1 lt c ∧ ws (shut a0 f) a1 lt c = ws a0 a1 lt c := by
  intro c
  induction c with
  | zero =>
    intro h
    refine ⟨?_, ?_⟩
    · rw [ws, ws, shut_o (by omega)]
    · rw [ws, ws, shut_o (by omega)]
  | succ c ih =>
    intro h
    have := ih (by omega)
    refine ⟨?_, ?_⟩
    · rw [ws, ws, this.1, stW_a lt (a := shut a1 f) (b := a1) (shut_o (by omega))]
    · rw [ws, ws, this.2, stW_a lt (a := shut a0 f) (b := a0) (shut_o (by omega))]
theorem ws_after {f : Nat} (hf : 0 < f) : ∀ c, f ≤ c + 1 → (∀ y, (ws a0 a1 lt c).1 y = (ws a0 (shut a1 f) lt c).1 y + (ws (shut a0 f) a1 lt c).1 y) ∧ ∀ x, (ws a0 a1 lt c).2 x = (ws a0 (shut a1 f) lt c).2 x + (ws (shut a0 f) a1 lt c).2 x := by
  intro c
  induction c with
  | zero =>
    intro h
    have : f = 1 := by omega
    subst this
    refine ⟨fun y => ?_, fun x => ?_⟩
    · show (if y = 0 ∧ a0 1 = true then 1 else 0) = (if y = 0 ∧ a0 1 = true then 1 else 0) + (if y = 0 ∧ shut a0 1 1 = true then 1 else 0)
      rw [shut_e, if_neg (c := y = 0 ∧ false = true) (fun h => Bool.false_ne_true h.2), Nat.add_zero]
    · show (if x = 0 ∧ a1 1 = true then 1 else 0) = (if x = 0 ∧ shut a1 1 1 = true then 1 else 0) + (if x = 0 ∧ a1 1 = true then 1 else 0)
      rw [shut_e, if_neg (c := x = 0 ∧ false = true) (fun h => Bool.false_ne_true h.2), Nat.zero_add]
  | succ c ih =>
    intro h
    by_cases e : f = c + 2
    · have b := ws_before a0 a1 lt (f := f) c (by omega)
      rw [ws, ws, ws, b.1, b.2]
      subst e
      rw [stW_f lt (a := shut a1 (c + 2)) shut_e, stW_f lt (a := shut a0 (c + 2)) shut_e]
      exact ⟨fun y => (Nat.add_zero _).symm, fun x => (Nat.zero_add _).symm⟩
    · have b := ih (by omega)
      have b1 : (ws a0 a1 lt c).1 = fun y => (ws a0 (shut a1 f) lt c).1 y + (ws (shut a0 f) a1 lt c).1 y := funext b.1
      have b2 : (ws a0 a1 lt c).2 = fun y => (ws a0 (shut a1 f) lt c).2 y + (ws (shut a0 f) a1 lt c).2 y := funext b.2
      rw [ws, ws, ws, b1, b2, stW_add, stW_add, stW_a lt (a := shut a1 f) (b := a1) (shut_o (by omega)), stW_a lt (a := shut a0 f) (b := a0) (shut_o (by omega))]
      exact ⟨fun y => rfl, fun x => rfl⟩
theorem wt_split {f c : Nat} (hf : 0 < f) (h : f ≤ c + 1) : wt a0 a1 lt c = wt a0 (shut a1 f) lt c + wt (shut a0 f) a1 lt c := by
  have b := ws_after a0 a1 lt hf c h
  unfold wt
  rw [← smN_add]
  refine smN_congr (c + 1) (fun j _ => ?_)
  show (ws a0 a1 lt c).1 j + (ws a0 a1 lt c).2 j = ((ws a0 (shut a1 f) lt c).1 j + (ws a0 (shut a1 f) lt c).2 j) + ((ws (shut a0 f) a1 lt c).1 j + (ws (shut a0 f) a1 lt c).2 j)
  rw [b.1 j, b.2 j]
  omega
end WY
