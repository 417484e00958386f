/-! ===== misread ===== -/
theorem op_misread (q : Nat) (h : Hp) (a : Int32) (_ : q < 512) (i : Inv q h) : ∃ h1 h2 r, F_X11_misread h 0 a = some (h1, r) ∧ F_X12_misread h1 122 a = some (h2, r) ∧ Inv (q + 1) h2 := by
  have nope : ∀ s : Int32, F_X11_misread h 0 a = some (uI h 0 10 s, -1) → (∀ h', Up h h' → F_X12_misread h' 122 a = some (uI h' 122 1 s, -1)) → ∃ h1 h2 r, F_X11_misread h 0 a = some (h1, r) ∧ F_X12_misread h1 122 a = some (h2, r) ∧ Inv (q + 1) h2 := fun s x y => op_2 (f := fun h => F_X11_misread h 0 a) (g := fun h => F_X12_misread h 122 a) (s, -1) i x y
  by_cases a0 : a < 0
  · refine nope 1 ?_ (fun h' u => ?_)
    · unfold F_X11_misread
      rw [if_pos a0]
      rfl
    · unfold F_X12_misread
      rw [if_pos a0]
      rfl
  · by_cases a4 : a ≤ 4
    · rcases id i.2.2.2.2.2.2.1 with ⟨e1, e2⟩ | ⟨e1, n, hn, e2, e3, e4, e5⟩
      · refine nope 6 ?_ (fun h' u => ?_)
        · unfold F_X11_misread
          rw [if_neg a0, if_pos a4, g0_8, if_pos e1]
          rfl
        · unfold F_X12_misread
          rw [if_neg a0, if_pos a4, (u 122 (by decide)).1, if_pos e2]
          rfl
      · have d1 : ¬ hI h 51 0 = 0 := by rw [e1]; decide
        have d2 : ¬ nI n = -1 := nI_m1 (by omega)
        obtain ⟨k, hk, rfl⟩ := nI_of a0
        have hk4 : k ≤ 4 := (nI_leI (b := 4) hk (by decide)).mp a4
        have e22 : (2 : Int32) * nI n = nI (2 * n) := by rw [show (2 : Int32) = nI 2 by decide, nI_mul]
        by_cases kl : k ≤ 2 * n
        · by_cases k0 : k = 0
          · subst k0
            refine op_2 (f := fun h => F_X11_misread h 0 (nI 0)) (g := fun h => F_X12_misread h 122 (nI 0)) (0, hI h 51 2) i ?_ (fun h' u => ?_)
            · show F_X11_misread h 0 (nI 0) = _
              unfold F_X11_misread
              rw [if_neg a0, if_pos a4, g0_8, if_neg d1, e2, e22, if_pos (nI_le kl (by omega)), if_pos (by decide)]
              rfl
            · show F_X12_misread h' 122 (nI 0) = _
              unfold F_X12_misread
              rw [if_neg a0, if_pos a4, (u 122 (by decide)).1, e3, if_neg d2, e22, if_pos (nI_le kl (by omega)), if_pos (by decide), e4]
              rfl
          · have kn : ¬ nI k = 0 := fun e => k0 (nI_inj (b := 0) (by omega) (by decide) e)
            refine op_2 (f := fun h => F_X11_misread h 0 (nI k)) (g := fun h => F_X12_misread h 122 (nI k)) (0, hI h 52 (k - 1)) i ?_ (fun h' u => ?_)
            · show F_X11_misread h 0 (nI k) = _
              unfold F_X11_misread
              rw [if_neg a0, if_pos a4, g0_8, if_neg d1, e2, e22, if_pos (nI_le kl (by omega)), if_neg kn, show nI k - 1 = nI (k - 1) from nI_sub (b := 1) (by omega), g51_3, n52, gd_on (ib_nI (by omega) (by decide)), nx_nI (by omega)]
              rfl
            · show F_X12_misread h' 122 (nI k) = _
              unfold F_X12_misread
              rw [if_neg a0, if_pos a4, (u 122 (by decide)).1, e3, if_neg d2, e22, if_pos (nI_le kl (by omega)), if_neg kn, g122_40, g122_41, n141, n142, (u 141 (by decide)).1, (u 142 (by decide)).1]
              have : k = 1 ∨ k = 2 ∨ k = 3 ∨ k = 4 := by omega
              rcases this with rfl | rfl | rfl | rfl
              · rw [if_pos (by decide), show nI 1 / 2 = nI 0 by decide, gd_on (ib_nI (by omega) (by decide)), nx_nI (by omega), (e5 0 (by omega)).1]
                rfl
              · rw [if_neg (by decide), show nI 2 / 2 - 1 = nI 0 by decide, gd_on (ib_nI (by omega) (by decide)), nx_nI (by omega), (e5 0 (by omega)).2]
                rfl
              · rw [if_pos (by decide), show nI 3 / 2 = nI 1 by decide, gd_on (ib_nI (by omega) (by decide)), nx_nI (by omega), (e5 1 (by omega)).1]
                rfl
              · rw [if_neg (by decide), show nI 4 / 2 - 1 = nI 1 by decide, gd_on (ib_nI (by omega) (by decide)), nx_nI (by omega), (e5 1 (by omega)).2]
                rfl
        · refine nope 6 ?_ (fun h' u => ?_)
          · unfold F_X11_misread
            rw [if_neg a0, if_pos a4, g0_8, if_neg d1, e2, e22, if_neg (nI_ge (by omega) (by omega))]
            rfl
          · unfold F_X12_misread
            rw [if_neg a0, if_pos a4, (u 122 (by decide)).1, e3, if_neg d2, e22, if_neg (nI_ge (by omega) (by omega))]
            rfl
    · refine nope 1 ?_ (fun h' u => ?_)
      · unfold F_X11_misread
        rw [if_neg a0, if_neg a4]
        rfl
      · unfold F_X12_misread
        rw [if_neg a0, if_neg a4]
        rfl
