/-! ===== parts: the reference's table of ways ===== -/
/-- the table after c cards -/
def gW (c : Nat) (Z O : Nat → Nat) (k : Nat) : Nat := if k / 31 = c ∧ k % 31 < c then Z (k % 31) else if k % 31 = c ∧ k / 31 < c then O (k / 31) else 0
/-- what way k of the old table gives to way r of the new one, at card c -/
def ctW (b0 b1 : Bool) (lt : Nat → Nat → Bool) (c : Nat) (W : Nat → Nat) (r k : Nat) : Nat := (if b0 = true ∧ lt (k / 31) c = true ∧ r = 31 * c + k % 31 then W k else 0) + (if b1 = true ∧ lt (k % 31) c = true ∧ r = 31 * (k / 31) + c then W k else 0)
theorem kdm {x y : Nat} (h : y < 31) : (31 * x + y) / 31 = x ∧ (31 * x + y) % 31 = y := by omega
theorem sum0 {b0 : Bool} {lt : Nat → Nat → Bool} {c : Nat} {W : Nat → Nat} {r : Nat} (hc : c < 31) : smN (fun k => if b0 = true ∧ lt (k / 31) c = true ∧ r = 31 * c + k % 31 then W k else 0) 961 = if r / 31 = c ∧ b0 = true then smN (fun x => if lt x c = true then W (31 * x + r % 31) else 0) 31 else 0 := by
  by_cases e : r / 31 = c ∧ b0 = true
  · rw [if_pos e, show (961 : Nat) = 31 * 31 from rfl, smN_two]
    refine smN_congr 31 (fun x hx => ?_)
    show smN (fun y => if b0 = true ∧ lt ((31 * x + y) / 31) c = true ∧ r = 31 * c + (31 * x + y) % 31 then W (31 * x + y) else 0) 31 = if lt x c = true then W (31 * x + r % 31) else 0
    rw [smN_one (i := r % 31) 31 (Nat.mod_lt _ (by decide)) (fun y hy ne => if_neg (fun t => ne (by have := (kdm (x := x) hy).2; omega)))]
    have k1 := (kdm (x := x) (Nat.mod_lt r (by decide : 31 > 0)))
    by_cases l : lt x c = true
    · rw [if_pos l, if_pos ⟨e.2, by rw [k1.1]; exact l, by omega⟩]
    · rw [if_neg l, if_neg (fun t => l (by rw [← k1.1]; exact t.2.1))]
  · rw [if_neg e]
    refine smN_0 961 (fun k hk => if_neg (fun t => e ⟨?_, t.1⟩))
    have := t.2.2
    omega
theorem sum1 {b1 : Bool} {lt : Nat → Nat → Bool} {c : Nat} {W : Nat → Nat} {r : Nat} (hc : c < 31) (hr : r < 961) : smN (fun k => if b1 = true ∧ lt (k % 31) c = true ∧ r = 31 * (k / 31) + c then W k else 0) 961 = if r % 31 = c ∧ b1 = true then smN (fun y => if lt y c = true then W (31 * (r / 31) + y) else 0) 31 else 0 := by
  by_cases e : r % 31 = c ∧ b1 = true
  · rw [if_pos e, show (961 : Nat) = 31 * 31 from rfl, smN_two]
    rw [smN_one (i := r / 31) 31 (by omega) (fun x hx ne => smN_0 31 (fun y hy => if_neg (fun t => ne (by have := (kdm (x := x) hy).1; omega))))]
    refine smN_congr 31 (fun y hy => ?_)
    show (if b1 = true ∧ lt ((31 * (r / 31) + y) % 31) c = true ∧ r = 31 * ((31 * (r / 31) + y) / 31) + c then W (31 * (r / 31) + y) else 0) = _
    have k1 := kdm (x := r / 31) hy
    by_cases l : lt y c = true
    · rw [if_pos l, if_pos ⟨e.2, by rw [k1.2]; exact l, by rw [k1.1]; omega⟩]
    · rw [if_neg l, if_neg (fun t => l (by rw [← k1.2]; exact t.2.1))]
  · rw [if_neg e]
    refine smN_0 961 (fun k hk => if_neg (fun t => e ⟨?_, t.1⟩))
    have := t.2.2
    omega
/-- a sum over the last card of a deck -/
theorem row_st {a : Nat → Bool} {lt : Nat → Nat → Bool} {c y : Nat} {Z O : Nat → Nat} {V : Nat → Nat} (hc : c + 1 < 31) (h1 : y < c → V c = Z y ∧ ∀ x, x ≠ c → V x = 0) (h2 : y = c → (∀ x, x < c → V x = O x) ∧ ∀ x, c ≤ x → V x = 0) (h3 : c < y → ∀ x, V x = 0) : (if a (c + 1) = true then smN (fun x => if lt x (c + 1) = true then V x else 0) 31 else 0) = stW lt a Z O c y := by
  unfold stW
  by_cases ea : a (c + 1) = true
  · rw [if_pos ea, if_pos ea]
    by_cases l1 : y < c
    · rw [if_pos l1, smN_one (i := c) 31 (by omega) (fun x hx ne => by show (if lt x (c + 1) = true then V x else 0) = 0; rw [(h1 l1).2 x ne]; split <;> rfl), (h1 l1).1]
    · rw [if_neg l1]
      by_cases l2 : y = c
      · rw [if_pos l2, smN_cut (k := c) (by omega) (fun x p q => by show (if lt x (c + 1) = true then V x else 0) = 0; rw [(h2 l2).2 x p]; split <;> rfl)]
        refine smN_congr c (fun x hx => ?_)
        show (if lt x (c + 1) = true then V x else 0) = _
        rw [(h2 l2).1 x hx]
      · rw [if_neg l2]
        refine smN_0 31 (fun x hx => ?_)
        show (if lt x (c + 1) = true then V x else 0) = 0
        rw [h3 (by omega) x]
        split <;> rfl
  · rw [if_neg ea, if_neg ea]
theorem stW_hi {a : Nat → Bool} {lt : Nat → Nat → Bool} {Z O : Nat → Nat} {c y : Nat} (h : c < y) : stW lt a Z O c y = 0 := by
  unfold stW
  split
  · rw [if_neg (by omega), if_neg (by omega)]
  · rfl
theorem gW_step {a0 a1 : Nat → Bool} {lt : Nat → Nat → Bool} {c r : Nat} {Z O : Nat → Nat} (hc : c + 1 < 31) (hr : r < 961) : smN (ctW (a0 (c + 1)) (a1 (c + 1)) lt (c + 1) (gW c Z O) r) 961 = gW (c + 1) (stW lt a0 Z O c) (stW lt a1 O Z c) r := by
  have e := smN_add (f := fun k => if a0 (c + 1) = true ∧ lt (k / 31) (c + 1) = true ∧ r = 31 * (c + 1) + k % 31 then gW c Z O k else 0) (g := fun k => if a1 (c + 1) = true ∧ lt (k % 31) (c + 1) = true ∧ r = 31 * (k / 31) + (c + 1) then gW c Z O k else 0) 961
  refine Eq.trans e ?_
  rw [sum0 hc, sum1 hc hr]
  have y31 : r % 31 < 31 := Nat.mod_lt _ (by decide)
  have x31 : r / 31 < 31 := by omega
  have A0 : (if a0 (c + 1) = true then smN (fun x => if lt x (c + 1) = true then gW c Z O (31 * x + r % 31) else 0) 31 else 0) = stW lt a0 Z O c (r % 31) := by
    refine row_st (V := fun x => gW c Z O (31 * x + r % 31)) hc (fun l => ⟨?_, fun x ne => ?_⟩) (fun l => ⟨fun x hx => ?_, fun x hx => ?_⟩) (fun l x => ?_)
    · show gW c Z O (31 * c + r % 31) = _
      unfold gW
      rw [(kdm y31).1, (kdm y31).2, if_pos ⟨rfl, l⟩]
    · show gW c Z O (31 * x + r % 31) = _
      unfold gW
      rw [(kdm y31).1, (kdm y31).2, if_neg (by omega), if_neg (by omega)]
    · show gW c Z O (31 * x + r % 31) = _
      unfold gW
      rw [(kdm y31).1, (kdm y31).2, if_neg (by omega), if_pos ⟨l, hx⟩]
    · show gW c Z O (31 * x + r % 31) = _
      unfold gW
      rw [(kdm y31).1, (kdm y31).2, if_neg (by omega), if_neg (by omega)]
    · show gW c Z O (31 * x + r % 31) = _
      unfold gW
      rw [(kdm y31).1, (kdm y31).2, if_neg (by omega), if_neg (by omega)]
  have A1 : (if a1 (c + 1) = true then smN (fun y => if lt y (c + 1) = true then (if y < 31 then gW c Z O (31 * (r / 31) + y) else 0) else 0) 31 else 0) = stW lt a1 O Z c (r / 31) := by
    refine row_st (V := fun y => if y < 31 then gW c Z O (31 * (r / 31) + y) else 0) hc (fun l => ⟨?_, fun x ne => ?_⟩) (fun l => ⟨fun x hx => ?_, fun x hx => ?_⟩) (fun l x => ?_)
    · show (if c < 31 then gW c Z O (31 * (r / 31) + c) else 0) = _
      rw [if_pos (by omega)]
      unfold gW
      rw [(kdm (by omega)).1, (kdm (by omega)).2, if_neg (by omega), if_pos ⟨rfl, l⟩]
    · show (if x < 31 then gW c Z O (31 * (r / 31) + x) else 0) = _
      by_cases x1 : x < 31
      · rw [if_pos x1]
        unfold gW
        rw [(kdm x1).1, (kdm x1).2, if_neg (by omega), if_neg (by omega)]
      · rw [if_neg x1]
    · show (if x < 31 then gW c Z O (31 * (r / 31) + x) else 0) = _
      rw [if_pos (by omega)]
      unfold gW
      rw [(kdm (by omega)).1, (kdm (by omega)).2, if_pos ⟨l, hx⟩]
    · show (if x < 31 then gW c Z O (31 * (r / 31) + x) else 0) = _
      by_cases x1 : x < 31
      · rw [if_pos x1]
        unfold gW
        rw [(kdm x1).1, (kdm x1).2, if_neg (by omega), if_neg (by omega)]
      · rw [if_neg x1]
    · show (if x < 31 then gW c Z O (31 * (r / 31) + x) else 0) = _
      by_cases x1 : x < 31
      · rw [if_pos x1]
        unfold gW
        rw [(kdm x1).1, (kdm x1).2, if_neg (by omega), if_neg (by omega)]
      · rw [if_neg x1]
  rw [smN_congr (f := fun y => if lt y (c + 1) = true then (if y < 31 then gW c Z O (31 * (r / 31) + y) else 0) else 0) (g := fun y => if lt y (c + 1) = true then gW c Z O (31 * (r / 31) + y) else 0) 31 (fun j hj => by
    show (if lt j (c + 1) = true then (if j < 31 then gW c Z O (31 * (r / 31) + j) else 0) else 0) = _
    rw [if_pos hj])] at A1
  have s0 : (if r / 31 = c + 1 ∧ a0 (c + 1) = true then smN (fun x => if lt x (c + 1) = true then gW c Z O (31 * x + r % 31) else 0) 31 else 0) = if r / 31 = c + 1 then stW lt a0 Z O c (r % 31) else 0 := by
    rw [← A0]
    by_cases p : r / 31 = c + 1 <;> by_cases p2 : a0 (c + 1) = true <;> simp [p, p2]
  have s1 : (if r % 31 = c + 1 ∧ a1 (c + 1) = true then smN (fun y => if lt y (c + 1) = true then gW c Z O (31 * (r / 31) + y) else 0) 31 else 0) = if r % 31 = c + 1 then stW lt a1 O Z c (r / 31) else 0 := by
    rw [← A1]
    by_cases p : r % 31 = c + 1 <;> by_cases p2 : a1 (c + 1) = true <;> simp [p, p2]
  rw [s0, s1]
  unfold gW
  by_cases p : r / 31 = c + 1
  · rw [if_pos p]
    by_cases p2 : r % 31 < c + 1
    · rw [if_neg (by omega), if_pos ⟨p, p2⟩, Nat.add_zero]
    · rw [if_neg (c := r / 31 = c + 1 ∧ r % 31 < c + 1) (by omega), stW_hi (by omega), stW_hi (by omega), if_neg (c := r % 31 = c + 1 ∧ r / 31 < c + 1) (by omega)]
      split <;> rfl
  · rw [if_neg p, if_neg (c := r / 31 = c + 1 ∧ r % 31 < c + 1) (by omega), Nat.zero_add]
    by_cases p2 : r % 31 = c + 1
    · rw [if_pos p2]
      by_cases p3 : r / 31 < c + 1
      · rw [if_pos ⟨p2, p3⟩]
      · rw [if_neg (by omega), stW_hi (by omega)]
    · rw [if_neg p2, if_neg (by omega)]
