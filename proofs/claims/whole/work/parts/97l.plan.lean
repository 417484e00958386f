/-! ===== plan: the order that passes leave ===== -/
theorem psn_ord {R : Nat → Nat} {t i j : Nat} (hi : i < t) (h : R i < R j ∨ (R i = R j ∧ i < j)) : psn R t i < psn R t j := by
  rcases h with h | ⟨h, l⟩
  · have a := psn_blw (R := R) hi
    have b := blw_mono (R := R) (n := t) (show R i + 1 ≤ R j from h)
    unfold psn at *
    omega
  · have a := inp_s (R := R) (p := R i) (n := i)
    rw [if_pos rfl] at a
    have b := inp_mono (R := R) (p := R i) (show i + 1 ≤ j from l)
    unfold psn
    rw [← h]
    omega
theorem psn_iff {R : Nat → Nat} {t i j : Nat} (hi : i < t) (hj : j < t) : psn R t i < psn R t j ↔ (R i < R j ∨ (R i = R j ∧ i < j)) := by
  refine ⟨fun l => ?_, psn_ord hi⟩
  by_cases c : R i < R j ∨ (R i = R j ∧ i < j)
  · exact c
  · by_cases e : i = j
    · subst e; omega
    · have := psn_ord (R := R) (i := j) (j := i) hj (by omega)
      omega
