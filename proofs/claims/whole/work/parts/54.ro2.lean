/-! ===== calls that only ask, II ===== -/
/-- the reference's cells are as they were -/
def Up (h h' : Hp) : Prop := ∀ d, 122 ≤ d → hI h' d = hI h d ∧ hL h' d = hL h d
theorem Up_uI {h : Hp} {c k : Nat} {v : Int32} (hc : c < 122) : Up h (uI h c k v) := fun d hd => ⟨hI_uI_o (by omega), rfl⟩
theorem Up.rm {h h' : Hp} {b : Nat} {A : Ho} (u : Up h h') (r : RmH h b A) : RmH h' b A := RmH_congr (u 123 (by decide)).1 r
theorem op_2 {α : Type} {q : Nat} {h : Hp} {f g : Hp → Option (Hp × α)} (x : Int32 × α) (i : Inv q h) (hf : f h = some (ans h 0 10 x)) (hg : ∀ h', Up h h' → g h' = some (ans h' 122 1 x)) : ∃ h1 h2 r, f h = some (h1, r) ∧ g h1 = some (h2, r) ∧ Inv (q + 1) h2 := op_an i hf (hg _ (Up_uI (by decide)))
theorem nI_nonneg {n : Nat} (hn : n < 2 ^ 31) : (0 : Int32) ≤ nI n := nI_le (Nat.zero_le n) hn
theorem nI_m1 {n : Nat} (hn : n < 2 ^ 31) : ¬ nI n = -1 := fun e => by
  have := nI_nonneg hn
  rw [e] at this
  exact absurd this (by decide)
theorem nI_n0 {n : Nat} (hn : n < 2 ^ 31) : ¬ nI n < 0 := Int32.not_lt.mpr (nI_nonneg hn)
theorem nI_m1le {n : Nat} (hn : n < 2 ^ 31) : -1 ≤ nI n := Int32.le_trans (b := 0) (by decide) (nI_nonneg hn)
theorem i32_lt0 {a : Int32} (h : a < 0) : a ≤ -1 := by
  rw [Int32.lt_iff_toInt_lt] at h
  rw [Int32.le_iff_toInt_le]
  have e0 : (0 : Int32).toInt = 0 := by decide
  have e1 : (-1 : Int32).toInt = -1 := by decide
  omega
theorem op_many (q : Nat) (h : Hp) (a : Int32) (_ : q < 512) (i : Inv q h) : ∃ h1 h2 r, F_X11_many h 0 a = some (h1, r) ∧ F_X12_many h1 122 a = some (h2, r) ∧ Inv (q + 1) h2 := by
  obtain ⟨A, m, Mk, ok, rc, rm, -⟩ := id i.1
  refine op_2 (f := fun h => F_X11_many h 0 a) (g := fun h => F_X12_many h 122 a) (if a = 0 then (0, nI (oN A)) else if a = 1 then (0, nI (bC (oB A))) else if a = 2 then (0, nI (bM (oB A))) else if a = 3 then (0, oM A) else (1, -1)) i ?_ ?_
  · show swt a 0 _ _ = _
    simp only [swt]
    rw [g0_2, g3_8, rc.1.1, rc.1.2.1, rc.2.1.1, rc.2.1.2.1]
    rw [show nI 0 = 0 from rfl, show nI (0 + 1) = 1 from rfl, show nI (0 + 1 + 1) = 2 from rfl, show nI (0 + 1 + 1 + 1) = 3 from rfl]
    unfold F_X11_answer F_X11_refuse ans
    by_cases h0 : a = 0
    · simp [h0]
    · by_cases h1 : a = 1
      · simp [h1]
      · by_cases h2 : a = 2
        · simp [h2]
        · by_cases h3 : a = 3
          · simp [h3]
          · simp [h0, h1, h2, h3]
  · intro h' u
    have rm := u.rm rm
    show F_X12_many h' 122 a = _
    have e0 : hI h' 123 (nx 0) = nI (oN A) := rm.1.1
    have e1 : hI h' 123 (nx 1) = oM A := rm.1.2.1
    have e2 : hI h' 123 (nx 2) = nI (bC (oB A)) := rm.2.1.1
    have e3 : hI h' 123 (nx 3) = nI (bM (oB A)) := rm.2.1.2.1
    unfold F_X12_many F_X12_gives F_X12_refuse ans
    rw [g122_0, n123, e0, e1, e2, e3, gd_on (b := ib 0 4000) (by decide), gd_on (b := ib 1 4000) (by decide), gd_on (b := ib 2 4000) (by decide), gd_on (b := ib 3 4000) (by decide)]
    simp only [Option.bind_some]
    rcases nI_cases a (n := 4) (by decide) with (p | p) | ⟨j, hj, rfl⟩
    · have : a ≠ 0 ∧ a ≠ 1 ∧ a ≠ 2 ∧ a ≠ 3 := ⟨fun e => by subst e; exact absurd p (by decide), fun e => by subst e; exact absurd p (by decide), fun e => by subst e; exact absurd p (by decide), fun e => by subst e; exact absurd p (by decide)⟩
      rw [if_pos p, if_neg this.1, if_neg this.2.1, if_neg this.2.2.1, if_neg this.2.2.2]
    · have : a ≠ 0 ∧ a ≠ 1 ∧ a ≠ 2 ∧ a ≠ 3 := ⟨fun e => by subst e; exact absurd p (by decide), fun e => by subst e; exact absurd p (by decide), fun e => by subst e; exact absurd p (by decide), fun e => by subst e; exact absurd p (by decide)⟩
      have p1 : ¬ a < 0 := Int32.not_lt.mpr (Int32.le_trans (by decide) p)
      have p2 : ¬ a ≤ 3 := fun e => absurd (Int32.le_trans p e) (by decide)
      rw [if_neg p1, if_neg p2, if_neg this.1, if_neg this.2.1, if_neg this.2.2.1, if_neg this.2.2.2]
    · have : j = 0 ∨ j = 1 ∨ j = 2 ∨ j = 3 := by omega
      rcases this with rfl | rfl | rfl | rfl <;> rfl
theorem op_planned (q : Nat) (h : Hp) (a : Int32) (_ : q < 512) (i : Inv q h) : ∃ h1 h2 r, F_X11_planned h 0 a = some (h1, r) ∧ F_X12_planned h1 122 a = some (h2, r) ∧ Inv (q + 1) h2 := by
  by_cases p : (-1 : Int32) ≤ a
  · rcases id i.2.2.2.2.1 with ⟨e1, e2⟩ | ⟨e1, n, hn, e2, e3, e4, e5⟩
    · refine op_2 (f := fun h => F_X11_planned h 0 a) (g := fun h => F_X12_planned h 122 a) (6, -1) i ?_ ?_
      · show F_X11_planned h 0 a = _
        unfold F_X11_planned
        rw [if_pos p, g0_7, if_pos e1]
        rfl
      · intro h' u
        show F_X12_planned h' 122 a = _
        unfold F_X12_planned
        rw [if_pos p, (u 122 (by decide)).1, if_pos e2]
        rfl
    · have d1 : ¬ hI h 44 7 = 0 := by rw [e1]; decide
      have d2 : ¬ nI n = -1 := nI_m1 (by omega)
      by_cases hl : a < nI n
      · by_cases hm : a = -1
        · refine op_2 (f := fun h => F_X11_planned h 0 a) (g := fun h => F_X12_planned h 122 a) (0, hI h 44 9) i ?_ ?_
          · show F_X11_planned h 0 a = _
            unfold F_X11_planned
            rw [if_pos p, g0_7, if_neg d1, e2, if_pos hl, if_pos hm]
            rfl
          · intro h' u
            show F_X12_planned h' 122 a = _
            unfold F_X12_planned
            rw [if_pos p, (u 122 (by decide)).1, e3, if_neg d2, if_pos hl, if_pos hm, e4]
            rfl
        · have hp : ¬ a < 0 := fun x => by
            have : a = -1 := Int32.le_antisymm (i32_lt0 x) p
            exact hm this
          obtain ⟨j, hj, rfl⟩ := nI_of hp
          have hjn : j < n := (nI_ltI hj (by omega)).mp hl
          refine op_2 (f := fun h => F_X11_planned h 0 (nI j)) (g := fun h => F_X12_planned h 122 (nI j)) (0, hI h 50 j) i ?_ ?_
          · show F_X11_planned h 0 (nI j) = _
            unfold F_X11_planned
            rw [if_pos p, g0_7, if_neg d1, e2, if_pos hl, if_neg hm, g44_10, n50, gd_on (ib_nI (by omega) (by decide)), nx_nI hj]
            rfl
          · intro h' u
            show F_X12_planned h' 122 (nI j) = _
            unfold F_X12_planned
            rw [if_pos p, (u 122 (by decide)).1, e3, if_neg d2, if_pos hl, if_neg hm, g122_33, n139, gd_on (ib_nI (by omega) (by decide)), nx_nI hj, (u 139 (by decide)).1, e5 j hjn]
            rfl
      · refine op_2 (f := fun h => F_X11_planned h 0 a) (g := fun h => F_X12_planned h 122 a) (6, -1) i ?_ ?_
        · show F_X11_planned h 0 a = _
          unfold F_X11_planned
          rw [if_pos p, g0_7, if_neg d1, e2, if_neg hl]
          rfl
        · intro h' u
          show F_X12_planned h' 122 a = _
          unfold F_X12_planned
          rw [if_pos p, (u 122 (by decide)).1, e3, if_neg d2, if_neg hl]
          rfl
  · refine op_2 (f := fun h => F_X11_planned h 0 a) (g := fun h => F_X12_planned h 122 a) (1, -1) i ?_ ?_
    · show F_X11_planned h 0 a = _
      unfold F_X11_planned
      rw [if_neg p]
      rfl
    · intro h' u
      show F_X12_planned h' 122 a = _
      unfold F_X12_planned
      rw [if_neg p]
      rfl
