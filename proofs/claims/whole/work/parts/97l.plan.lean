/-! ===== plan: the order that passes leave ===== -/
theorem psn_ord {R : Nat → Nat} {t i j : Nat} (hi : i < t) (h : R i < R j ∨ (R i = R j ∧ i < j)) : psn R t i < psn R t j := by
  rcases h with h | ⟨h, l⟩
  · have a := psn_blw (R := R) hi
    have b := blw_mono (R := R) (n := t) (show R i + 1 ≤ R j from h)
    unfold psn at *
    omega
  · have a := inp_s (R := R) (p := R i) (n := i)
    rw [if_pos rfl] at a
    have b := inp_mono (R := R) (p := R i) (show i + 1 ≤ j from l)
    unfold psn
    rw [← h]
    omega
theorem psn_iff {R : Nat → Nat} {t i j : Nat} (hi : i < t) (hj : j < t) : psn R t i < psn R t j ↔ (R i < R j ∨ (R i = R j ∧ i < j)) := by
  refine ⟨fun l => ?_, psn_ord hi⟩
  by_cases c : R i < R j ∨ (R i = R j ∧ i < j)
  · exact c
  · by_cases e : i = j
    · subst e; omega
    · have := psn_ord (R := R) (i := j) (j := i) hj (by omega)
      omega
def bfD (D : Nat → Nat) (n x y : Nat) : Prop := ∃ i j, i < j ∧ j < n ∧ D i = x ∧ D j = y
def rgD (D : Nat → Nat) (n x : Nat) : Prop := ∃ k, k < n ∧ D k = x
theorem bf_srt {rd D : Nat → Nat} {n x y : Nat} : bfD (srt (fun k => rd (D k)) D n) n x y ↔ rgD D n x ∧ rgD D n y ∧ (rd x < rd y ∨ (rd x = rd y ∧ bfD D n x y)) := by
  constructor
  · rintro ⟨i, j, l, hj, ei, ej⟩
    obtain ⟨a, ha, ea⟩ := psn_sur (R := fun k => rd (D k)) (t := n) (y := i) (by omega)
    obtain ⟨b, hb, eb⟩ := psn_sur (R := fun k => rd (D k)) (t := n) (y := j) hj
    rw [← ea, srt_psn ha] at ei
    rw [← eb, srt_psn hb] at ej
    rw [← ea, ← eb] at l
    have o := (psn_iff (R := fun k => rd (D k)) ha hb).mp l
    have o : rd (D a) < rd (D b) ∨ (rd (D a) = rd (D b) ∧ a < b) := o
    rw [ei, ej] at o
    refine ⟨⟨a, ha, ei⟩, ⟨b, hb, ej⟩, ?_⟩
    rcases o with o | ⟨o1, o2⟩
    · exact Or.inl o
    · exact Or.inr ⟨o1, a, b, o2, hb, ei, ej⟩
  · rintro ⟨⟨a, ha, ea⟩, ⟨b, hb, eb⟩, o | ⟨o, c, d, l, hd, ec, ed⟩⟩
    · refine ⟨psn (fun k => rd (D k)) n a, psn (fun k => rd (D k)) n b, psn_ord ha (Or.inl ?_), psn_lt hb, by rw [srt_psn ha, ea], by rw [srt_psn hb, eb]⟩
      show rd (D a) < rd (D b)
      rw [ea, eb]; exact o
    · have hc : c < n := by omega
      refine ⟨psn (fun k => rd (D k)) n c, psn (fun k => rd (D k)) n d, psn_ord hc (Or.inr ⟨?_, l⟩), psn_lt hd, by rw [srt_psn hc, ec], by rw [srt_psn hd, ed]⟩
      show rd (D c) = rd (D d)
      rw [ec, ed]; exact o
theorem rg_srt {R D : Nat → Nat} {n x : Nat} : rgD (srt R D n) n x ↔ rgD D n x := by
  constructor
  · rintro ⟨k, hk, e⟩
    obtain ⟨a, ha, ea⟩ := psn_sur (R := R) (t := n) (y := k) hk
    rw [← ea, srt_psn ha] at e
    exact ⟨a, ha, e⟩
  · rintro ⟨k, hk, e⟩
    exact ⟨psn R n k, psn_lt hk, by rw [srt_psn hk, e]⟩
/-- the same cards, and cards that read alike by rd lie in the same order -/
def RelD (rd D D' : Nat → Nat) (n : Nat) : Prop := (∀ x, rgD D n x ↔ rgD D' n x) ∧ ∀ x y, rd x = rd y → (bfD D n x y ↔ bfD D' n x y)
theorem bf_rg {D : Nat → Nat} {n x y : Nat} (h : bfD D n x y) : rgD D n x ∧ rgD D n y := by
  obtain ⟨i, j, l, hj, ei, ej⟩ := h
  exact ⟨⟨i, by omega, ei⟩, ⟨j, hj, ej⟩⟩
theorem Rel_self {rd D : Nat → Nat} {n : Nat} : RelD rd D (srt (fun k => rd (D k)) D n) n := by
  refine ⟨fun x => rg_srt.symm, fun x y e => ?_⟩
  rw [bf_srt]
  exact ⟨fun h => ⟨(bf_rg h).1, (bf_rg h).2, Or.inr ⟨e, h⟩⟩, fun h => h.2.2.elim (fun l => absurd l (by omega)) (fun l => l.2)⟩
theorem Rel_any {rd re D D' : Nat → Nat} {n : Nat} (r : RelD rd D D' n) : RelD rd (srt (fun k => re (D k)) D n) (srt (fun k => re (D' k)) D' n) n := by
  refine ⟨fun x => by rw [rg_srt, rg_srt]; exact r.1 x, fun x y e => ?_⟩
  rw [bf_srt, bf_srt, r.1 x, r.1 y, r.2 x y e]
theorem Rel_same {rd D D' : Nat → Nat} {n x y : Nat} (r : RelD rd D D' n) : bfD (srt (fun k => rd (D k)) D n) n x y ↔ bfD (srt (fun k => rd (D' k)) D' n) n x y := by
  rw [bf_srt, bf_srt, r.1 x, r.1 y]
  by_cases e : rd x = rd y
  · rw [r.2 x y e]
  · exact ⟨fun h => ⟨h.1, h.2.1, h.2.2.elim Or.inl (fun t => absurd t.1 e)⟩, fun h => ⟨h.1, h.2.1, h.2.2.elim Or.inl (fun t => absurd t.1 e)⟩⟩
