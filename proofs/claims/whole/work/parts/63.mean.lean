/-! ===== mean, misread ===== -/
theorem op_mean (q : Nat) (h : Hp) (a b : Int32) (_ : q < 512) (i : Inv q h) : ∃ h1 h2 r, F_X11_mean h 0 a b = some (h1, r) ∧ F_X12_mean h1 122 a b = some (h2, r) ∧ Inv (q + 1) h2 := by
  obtain ⟨A, m, Mk, ok, rc, rm, -⟩ := id i.1
  have hB := ok.2.2.2.1
  have hM := hB.2.1
  have nope : F_X11_mean h 0 a b = some (uI h 0 10 1, -1) → (∀ h', Up h h' → F_X12_mean h' 122 a b = some (uI h' 122 1 1, -1)) → ∃ h1 h2 r, F_X11_mean h 0 a b = some (h1, r) ∧ F_X12_mean h1 122 a b = some (h2, r) ∧ Inv (q + 1) h2 := fun x y => op_2 (f := fun h => F_X11_mean h 0 a b) (g := fun h => F_X12_mean h 122 a b) (1, -1) i x y
  have mM : ∀ h', Up h h' → hI h' 123 (nx 3) = nI (bM (oB A)) := fun h' u => (u.rm rm).2.1.2.1
  by_cases a0 : a < 0
  · refine nope ?_ (fun h' u => ?_)
    · unfold F_X11_mean F_X0_isMean
      rw [if_pos a0]
      rfl
    · unfold F_X12_mean F_X12_isMean
      rw [if_pos a0]
      rfl
  · obtain ⟨j, hj, rfl⟩ := nI_of a0
    by_cases hl : j < bM (oB A)
    · by_cases b0 : b < 0
      · refine nope ?_ (fun h' u => ?_)
        · unfold F_X11_mean F_X0_isMean
          rw [if_neg a0, g0_2, g3_8, rc.2.1.2.1, if_neg (nI_ge hl (by omega)), Option.bind_some, if_neg (show ¬ (1 : Int32) = 0 by decide), if_pos b0]
          rfl
        · unfold F_X12_mean F_X12_isMean
          rw [if_neg a0, g122_0, n123, mM h' u, gd_on (b := ib 3 4000) (by decide), if_neg (nI_ge hl (by omega)), Option.bind_some, if_neg (show ¬ (1 : Int32) = 0 by decide), if_pos b0]
          rfl
      · by_cases b1 : b ≤ 1
        · obtain ⟨k, hk, rfl⟩ := nI_of b0
          have hk1 : k ≤ 1 := (nI_leI (b := 1) hk (by decide)).mp b1
          refine op_2 (f := fun h => F_X11_mean h 0 (nI j) (nI k)) (g := fun h => F_X12_mean h 122 (nI j) (nI k)) (0, if k = 0 then nI (bMc (oB A) j) else nI (bMh (oB A) j)) i ?_ ?_
          · show F_X11_mean h 0 (nI j) (nI k) = _
            unfold F_X11_mean F_X0_isMean
            obtain ⟨f1, f2, -⟩ := rc.2.1.2.2.2 j hl
            rw [if_neg a0, g0_2, g3_8, rc.2.1.2.1, if_neg (nI_ge hl (by omega)), Option.bind_some, if_neg (show ¬ (1 : Int32) = 0 by decide), if_neg b0, if_pos b1, g10_3, g10_4, n12, n13, gd_on (ib_nI (by omega) (by decide)), gd_on (ib_nI (by omega) (by decide)), nx_nI (by omega), f1, f2]
            by_cases k0 : k = 0
            · subst k0
              rfl
            · rw [if_neg (show ¬ nI k = 0 from fun e => k0 (nI_inj (b := 0) (by omega) (by decide) e)), if_neg k0]
              rfl
          · intro h' u
            show F_X12_mean h' 122 (nI j) (nI k) = _
            unfold F_X12_mean F_X12_isMean
            obtain ⟨f1, f2⟩ := (u.rm rm).2.1.2.2.2.2.1 j hl
            rw [Nat.zero_add] at f1 f2
            rw [if_neg a0, g122_0, n123, mM h' u, gd_on (b := ib 3 4000) (by decide), if_neg (nI_ge hl (by omega)), Option.bind_some, if_neg (show ¬ (1 : Int32) = 0 by decide), if_neg b0, if_pos b1, show (372 : Int32) + 2 * nI j + nI k = nI (372 + 2 * j + k) by rw [show (372 : Int32) = nI 372 by decide, show (2 : Int32) = nI 2 by decide, nI_mul, nI_add, nI_add], gd_on (ib_nI (by omega) (by decide)), nx_nI (by omega)]
            by_cases k0 : k = 0
            · subst k0
              rw [Nat.add_zero, f1]
              rfl
            · have : k = 1 := by omega
              subst this
              rw [show 372 + 2 * j + 1 = 373 + 2 * j by omega, f2]
              rfl
        · refine nope ?_ (fun h' u => ?_)
          · unfold F_X11_mean F_X0_isMean
            rw [if_neg a0, g0_2, g3_8, rc.2.1.2.1, if_neg (nI_ge hl (by omega)), Option.bind_some, if_neg (show ¬ (1 : Int32) = 0 by decide), if_neg b0, if_neg b1]
            rfl
          · unfold F_X12_mean F_X12_isMean
            rw [if_neg a0, g122_0, n123, mM h' u, gd_on (b := ib 3 4000) (by decide), if_neg (nI_ge hl (by omega)), Option.bind_some, if_neg (show ¬ (1 : Int32) = 0 by decide), if_neg b0, if_neg b1]
            rfl
    · refine nope ?_ (fun h' u => ?_)
      · unfold F_X11_mean F_X0_isMean
        rw [if_neg a0, g0_2, g3_8, rc.2.1.2.1, if_pos (nI_le (by omega) hj)]
        rfl
      · unfold F_X12_mean F_X12_isMean
        rw [if_neg a0, g122_0, n123, mM h' u, gd_on (b := ib 3 4000) (by decide), if_pos (nI_le (by omega) hj)]
        rfl
