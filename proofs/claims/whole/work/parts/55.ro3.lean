/-! ===== calls that only ask, III ===== -/
theorem nI_mul (a b : Nat) : nI a * nI b = nI (a * b) := (Int32.ofNat_mul a b).symm
theorem m1_64 : (-1 : Int32).toInt64 = (-1 : Int64) := by decide
theorem z_64 : (0 : Int32).toInt64 = (0 : Int64) := by decide
theorem o_64 : (1 : Int32).toInt64 = (1 : Int64) := by decide
theorem op_ran (q : Nat) (h : Hp) (a : Int32) (_ : q < 512) (i : Inv q h) : ∃ h1 h2 r, F_X11_ran h 0 a = some (h1, r) ∧ F_X12_ran h1 122 a = some (h2, r) ∧ Inv (q + 1) h2 := by
  by_cases p : a < 0
  · refine op_2 (f := fun h => F_X11_ran h 0 a) (g := fun h => F_X12_ran h 122 a) (1, -1) i ?_ ?_
    · show F_X11_ran h 0 a = _
      unfold F_X11_ran
      rw [if_pos p]
      rfl
    · intro h' u
      show F_X12_ran h' 122 a = _
      unfold F_X12_ran
      rw [if_pos p]
      rfl
  · by_cases p2 : a ≤ 2
    · rcases id i.2.2.2.2.2.1 with ⟨e1, e2⟩ | ⟨e1, e2, e3, e4, e5⟩
      · refine op_2 (f := fun h => F_X11_ran h 0 a) (g := fun h => F_X12_ran h 122 a) (6, -1) i ?_ ?_
        · show F_X11_ran h 0 a = _
          unfold F_X11_ran
          rw [if_neg p, if_pos p2, g0_6, if_pos e1]
          rfl
        · intro h' u
          show F_X12_ran h' 122 a = _
          unfold F_X12_ran
          rw [if_neg p, if_pos p2, (u 122 (by decide)).1, if_pos e2]
          rfl
      · have d1 : ¬ hI h 40 3 = 0 := by rw [e1]; decide
        have d2 : ¬ hI h 122 38 = -1 := by rw [e3]; rcases e2 with e | e <;> rw [e] <;> decide
        by_cases h0 : a = 0
        · refine op_2 (f := fun h => F_X11_ran h 0 a) (g := fun h => F_X12_ran h 122 a) (0, hL h 40 4) i ?_ ?_
          · show F_X11_ran h 0 a = _
            unfold F_X11_ran
            rw [if_neg p, if_pos p2, g0_6, if_neg d1, if_pos h0]
            rfl
          · intro h' u
            show F_X12_ran h' 122 a = _
            unfold F_X12_ran
            rw [if_neg p, if_pos p2, (u 122 (by decide)).1, if_neg d2, if_pos h0, hL_uI, (u 122 (by decide)).2, e4]
            rfl
        · by_cases h1 : a = 1
          · refine op_2 (f := fun h => F_X11_ran h 0 a) (g := fun h => F_X12_ran h 122 a) (0, (hI h 40 5).toInt64) i ?_ ?_
            · show F_X11_ran h 0 a = _
              unfold F_X11_ran
              rw [if_neg p, if_pos p2, g0_6, if_neg d1, if_neg h0, if_pos h1, hI_uI_o (by decide)]
              rfl
            · intro h' u
              show F_X12_ran h' 122 a = _
              unfold F_X12_ran
              rw [if_neg p, if_pos p2, (u 122 (by decide)).1, if_neg d2, if_neg h0, if_pos h1, hI_uI_s (by decide), (u 122 (by decide)).1, e5]
              rfl
          · refine op_2 (f := fun h => F_X11_ran h 0 a) (g := fun h => F_X12_ran h 122 a) (0, (hI h 40 6).toInt64) i ?_ ?_
            · show F_X11_ran h 0 a = _
              unfold F_X11_ran
              rw [if_neg p, if_pos p2, g0_6, if_neg d1, if_neg h0, if_neg h1, hI_uI_o (by decide)]
              rcases e2 with e | e
              · rw [if_pos e, e, z_64]
                rfl
              · rw [if_neg (by rw [e]; decide), e, o_64]
                rfl
            · intro h' u
              show F_X12_ran h' 122 a = _
              unfold F_X12_ran
              rw [if_neg p, if_pos p2, (u 122 (by decide)).1, if_neg d2, if_neg h0, if_neg h1, hI_uI_s (by decide), (u 122 (by decide)).1, e3]
              rfl
    · refine op_2 (f := fun h => F_X11_ran h 0 a) (g := fun h => F_X12_ran h 122 a) (1, -1) i ?_ ?_
      · show F_X11_ran h 0 a = _
        unfold F_X11_ran
        rw [if_neg p, if_neg p2]
        rfl
      · intro h' u
        show F_X12_ran h' 122 a = _
        unfold F_X12_ran
        rw [if_neg p, if_neg p2]
        rfl
theorem op_parted (q : Nat) (h : Hp) (a : Int32) (_ : q < 512) (i : Inv q h) : ∃ h1 h2 r, F_X11_parted h 0 a = some (h1, r) ∧ F_X12_parted h1 122 a = some (h2, r) ∧ Inv (q + 1) h2 := by
  rcases id i.2.2.2.2.2.2.2 with ⟨e1, e2⟩ | ⟨e1, n, hn, e2, e3, e4, e5⟩
  · refine op_2 (f := fun h => F_X11_parted h 0 a) (g := fun h => F_X12_parted h 122 a) (6, -1) i ?_ ?_
    · show F_X11_parted h 0 a = _
      unfold F_X11_parted
      rw [g0_9, if_pos e1]
      rfl
    · intro h' u
      show F_X12_parted h' 122 a = _
      unfold F_X12_parted
      rw [(u 122 (by decide)).1, if_pos e2]
      rfl
  · have d1 : ¬ hI h 57 0 = 0 := by rw [e1]; decide
    have d2 : ¬ hI h 122 49 = -1 := by rw [e3]; exact nI_m1 (by omega)
    by_cases c0 : hI h 57 2 = 0
    · refine op_2 (f := fun h => F_X11_parted h 0 a) (g := fun h => F_X12_parted h 122 a) (6, -1) i ?_ ?_
      · show F_X11_parted h 0 a = _
        unfold F_X11_parted
        rw [g0_9, if_neg d1, if_pos c0]
        rfl
      · intro h' u
        show F_X12_parted h' 122 a = _
        unfold F_X12_parted
        rw [(u 122 (by decide)).1, if_neg d2, e4, if_pos c0]
        rfl
    · by_cases p : a < 0
      · refine op_2 (f := fun h => F_X11_parted h 0 a) (g := fun h => F_X12_parted h 122 a) (1, -1) i ?_ ?_
        · show F_X11_parted h 0 a = _
          unfold F_X11_parted
          rw [g0_9, if_neg d1, if_neg c0, if_pos p]
          rfl
        · intro h' u
          show F_X12_parted h' 122 a = _
          unfold F_X12_parted
          rw [(u 122 (by decide)).1, if_neg d2, e4, if_neg c0, if_pos p]
          rfl
      · obtain ⟨j, hj, rfl⟩ := nI_of p
        by_cases hl : j < n
        · refine op_2 (f := fun h => F_X11_parted h 0 (nI j)) (g := fun h => F_X12_parted h 122 (nI j)) (0, hI h 58 j) i ?_ ?_
          · show F_X11_parted h 0 (nI j) = _
            unfold F_X11_parted
            rw [g0_9, if_neg d1, if_neg c0, if_neg p, e2, if_pos (nI_lt hl (by omega)), g57_3, n58, gd_on (ib_nI (by omega) (by decide)), nx_nI hj]
            rfl
          · intro h' u
            show F_X12_parted h' 122 (nI j) = _
            unfold F_X12_parted
            rw [(u 122 (by decide)).1, if_neg d2, e4, if_neg c0, if_neg p, e3, if_pos (nI_lt hl (by omega)), g122_48, n146, gd_on (ib_nI (by omega) (by decide)), nx_nI hj, (u 146 (by decide)).1, e5 c0 j hl]
            rfl
        · refine op_2 (f := fun h => F_X11_parted h 0 (nI j)) (g := fun h => F_X12_parted h 122 (nI j)) (1, -1) i ?_ ?_
          · show F_X11_parted h 0 (nI j) = _
            unfold F_X11_parted
            rw [g0_9, if_neg d1, if_neg c0, if_neg p, e2, if_neg (nI_nlt (by omega) hj)]
            rfl
          · intro h' u
            show F_X12_parted h' 122 (nI j) = _
            unfold F_X12_parted
            rw [(u 122 (by decide)).1, if_neg d2, e4, if_neg c0, if_neg p, e3, if_neg (nI_nlt (by omega) hj)]
            rfl
/-- of a tray and a place: the status -/
theorem plc (h h' : Hp) (u : Up h h') (i : Itr h) (a b : Int32) : (∃ s : Int32, (s = 1 ∨ s = 2 ∨ s = 3) ∧ F_X11_placeStatus h 0 a b = some s ∧ F_X12_wrongPlace h' 122 a b = some s) ∨ ∃ j k n : Nat, a = nI j ∧ b = nI k ∧ j < 4 ∧ k < n ∧ n ≤ 60 ∧ hI h (63 + 2 * j) 0 = 0 ∧ hI h (63 + 2 * j) 2 = nI n ∧ hI h 125 j = nI n ∧ hL h (64 + 2 * j) k = hL h 126 (60 * j + k) ∧ F_X11_placeStatus h 0 a b = some 0 ∧ F_X12_wrongPlace h' 122 a b = some 0 := by
  unfold F_X11_placeStatus F_X12_wrongPlace F_X11_isTray F_X12_isTray
  rw [g0_0, g122_5, n1, n125, (u 125 (by decide)).1]
  rcases nI_cases a (n := 4) (by decide) with (p | p) | ⟨j, hj, rfl⟩
  · rw [if_pos p]
    exact Or.inl ⟨1, Or.inl rfl, rfl, rfl⟩
  · have p1 : ¬ a < 0 := Int32.not_lt.mpr (Int32.le_trans (b := 4) (by decide) p)
    rw [if_neg p1, if_pos (show (4 : Int32) ≤ a from p)]
    exact Or.inl ⟨1, Or.inl rfl, rfl, rfl⟩
  · have p1 : ¬ nI j < 0 := nI_n0 (by omega)
    have p2 : ¬ (4 : Int32) ≤ nI j := nI_ge (b := 4) hj (by omega)
    rw [if_neg p1, if_neg p2]
    simp only [Option.bind_some]
    rw [if_neg (show ¬ (1 : Int32) = 0 by decide), if_neg (show ¬ (1 : Int32) = 0 by decide), gd_on (ib_nI hj (by decide)), gd_on (ib_nI hj (by decide)), gd_on (ib_nI hj (by decide)), gd_on (ib_nI hj (by decide)), nx_nI (by omega), gT j hj]
    rcases i j hj with ⟨e1, e2⟩ | ⟨e1, n, s, hn, hs, e2, e3, e4, e5, e6⟩
    · rw [if_neg (show ¬ hI h (63 + 2 * j) 0 = 0 by rw [e1]; decide), if_pos e2]
      exact Or.inl ⟨2, Or.inr (Or.inl rfl), rfl, rfl⟩
    · rw [if_pos e1, e2, e3, if_neg (nI_m1 (by omega))]
      by_cases b0 : b < 0
      · rw [if_pos b0, if_pos b0]
        exact Or.inl ⟨3, Or.inr (Or.inr rfl), rfl, rfl⟩
      · rw [if_neg b0, if_neg b0]
        obtain ⟨k, hk, rfl⟩ := nI_of b0
        by_cases hl : k < n
        · rw [if_neg (nI_ge hl (by omega)), if_pos (nI_lt hl (by omega))]
          exact Or.inr ⟨j, k, n, rfl, rfl, hj, hl, hn, e1, e2, e3, e6 k hl, rfl, rfl⟩
        · rw [if_pos (nI_le (by omega) hk), if_neg (nI_nlt (by omega) hk)]
          exact Or.inl ⟨3, Or.inr (Or.inr rfl), rfl, rfl⟩
theorem op_read (q : Nat) (h : Hp) (a b : Int32) (_ : q < 512) (i : Inv q h) : ∃ h1 h2 r, F_X11_read h 0 a b = some (h1, r) ∧ F_X12_read h1 122 a b = some (h2, r) ∧ Inv (q + 1) h2 := by
  rcases plc h h (fun _ _ => ⟨rfl, rfl⟩) i.2.1 a b with ⟨s, hs, e1, -⟩ | ⟨j, k, n, rfl, rfl, hj, hk, hn, t1, t2, t3, t4, e1, -⟩
  · refine op_2 (f := fun h => F_X11_read h 0 a b) (g := fun h => F_X12_read h 122 a b) (s, -1) i ?_ ?_
    · show F_X11_read h 0 a b = _
      unfold F_X11_read
      rw [e1]
      simp only [Option.bind_some]
      rw [if_neg (by rcases hs with e | e | e <;> rw [e] <;> decide)]
      rfl
    · intro h' u
      show F_X12_read h' 122 a b = _
      unfold F_X12_read
      rcases plc h h' u i.2.1 a b with ⟨s', -, e1', e2⟩ | ⟨_, _, _, _, _, _, _, _, _, _, _, _, e1', _⟩
      · rw [e1, Option.some.injEq] at e1'
        subst e1'
        rw [e2]
        simp only [Option.bind_some]
        rw [hI_uI_e, if_neg (by rcases hs with e | e | e <;> rw [e] <;> decide)]
        rfl
      · rw [e1, Option.some.injEq] at e1'
        subst e1'
        rcases hs with e | e | e <;> exact absurd e (by decide)
  · refine op_2 (f := fun h => F_X11_read h 0 (nI j) (nI k)) (g := fun h => F_X12_read h 122 (nI j) (nI k)) (0, hL h 126 (60 * j + k)) i ?_ ?_
    · show F_X11_read h 0 (nI j) (nI k) = _
      unfold F_X11_read
      rw [e1]
      simp only [Option.bind_some]
      rw [if_pos trivial, g0_0, n1, gd_on (ib_nI hj (by decide)), nx_nI (by omega), nx_nI (by omega), gT j hj, gT3 j hj, nT j hj, gd_on (ib_nI (by omega) (by decide)), hL_uI, t4]
      rfl
    · intro h' u
      show F_X12_read h' 122 (nI j) (nI k) = _
      unfold F_X12_read
      rcases plc h h' u i.2.1 (nI j) (nI k) with ⟨s', hs, e1', e2⟩ | ⟨_, _, _, _, _, _, _, _, _, _, _, _, e1', e2⟩
      · rw [e1, Option.some.injEq] at e1'
        subst e1'
        rcases hs with e | e | e <;> exact absurd e (by decide)
      · rw [e2]
        simp only [Option.bind_some]
        rw [hI_uI_e, if_pos (by decide), show (60 : Int32) = nI 60 by decide, nI_mul, nI_add, g122_6, n126, gd_on (ib_nI (by omega) (by decide)), nx_nI (by omega), hL_uI, (u 126 (by decide)).2]
        rfl
