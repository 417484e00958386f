/-! ===== tray ===== -/
theorem m_trayL {h : Hp} {j n : Nat} (hj : j < 4) (hn : n ≤ 60) : ∃ h', L_X12_tray_49 h 122 (nI j) (nI n) 0 = some (uI h' 122 1 0, 1) ∧ hI h' = hI h ∧ (∀ d, d ≠ 126 → hL h' d = hL h d) ∧ (∀ k, k < n → hL h' 126 (60 * j + k) = 0) ∧ ∀ k, (k < 60 * j ∨ 60 * j + n ≤ k) → hL h' 126 k = hL h 126 k := by
  have key : ∃ r, L_X12_tray_49 h 122 (nI j) (nI n) 0 = some r ∧ ∃ h', r = (uI h' 122 1 0, 1) ∧ hI h' = hI h ∧ (∀ d, d ≠ 126 → hL h' d = hL h d) ∧ (∀ k, k < n → hL h' 126 (60 * j + k) = 0) ∧ ∀ k, (k < 60 * j ∨ 60 * j + n ≤ k) → hL h' 126 k = hL h 126 k := by
    refine iterW_inv (fun x s => s.2 = nI x ∧ hI s.1 = hI h ∧ (∀ d, d ≠ 126 → hL s.1 d = hL h d) ∧ (∀ k, k < x → hL s.1 126 (60 * j + k) = 0) ∧ ∀ k, (k < 60 * j ∨ 60 * j + n ≤ k) → hL s.1 126 k = hL h 126 k) _ n (fun x s hx p => ?_) (fun s p => ?_) ⟨rfl, rfl, fun _ _ => rfl, fun k hk => by omega, fun _ _ => rfl⟩
    · obtain ⟨p1, p2, p3, p4, p5⟩ := p
      refine ⟨(uL s.1 126 (60 * j + x) 0, nI (x + 1)), ?_, rfl, p2, fun d hd => by rw [hL_uL_o hd]; exact p3 d hd, fun k hk => ?_, fun k hk => by rw [hL_uL_s (by omega)]; exact p5 k hk⟩
      · show B_X12_tray_49 _ _ _ _ _ = _
        unfold B_X12_tray_49
        rw [p1, if_neg (nI_ge hx (by omega)), show (60 : Int32) * nI j + nI x = nI (60 * j + x) by rw [show (60 : Int32) = nI 60 by decide, nI_mul, nI_add], g122_6, n126, gd_on (ib_nI (by omega) (by decide)), nx_nI (by omega), nI_s]
      · by_cases e : k = x
        · rw [e, hL_uL_e]
        · rw [hL_uL_s (by omega)]
          exact p4 k (by omega)
    · obtain ⟨p1, p2, p3, p4, p5⟩ := p
      refine ⟨(uI s.1 122 1 0, 1), ?_, s.1, rfl, p2, p3, p4, p5⟩
      show B_X12_tray_49 _ _ _ _ _ = _
      unfold B_X12_tray_49 F_X12_is
      rw [p1, if_pos (Int32.le_refl _), if_pos rfl, Option.bind_some, and1_1]
  obtain ⟨r, e1, h', e2, e3⟩ := key
  exact ⟨h', by rw [e1, e2], e3⟩
theorem op_tray (q : Nat) (h : Hp) (a b v : Int32) (_ : q < 512) (i : Inv q h) : ∃ h1 h2 r, F_X11_tray h 0 a b v = some (h1, r) ∧ F_X12_tray h1 122 a b v = some (h2, r) ∧ Inv (q + 1) h2 := by
  have nope : F_X11_tray h 0 a b v = some (uI h 0 10 1, 0) → (∀ h', Up h h' → F_X12_tray h' 122 a b v = some (uI h' 122 1 1, 0)) → ∃ h1 h2 r, F_X11_tray h 0 a b v = some (h1, r) ∧ F_X12_tray h1 122 a b v = some (h2, r) ∧ Inv (q + 1) h2 := fun x y => op_2 (f := fun h => F_X11_tray h 0 a b v) (g := fun h => F_X12_tray h 122 a b v) (1, 0) i x y
  rcases nI_cases a (n := 4) (by decide) with p | ⟨j, hj, rfl⟩
  · have p1 : ∀ h', F_X11_isTray h' a = some 0 := fun h' => by
      unfold F_X11_isTray
      rcases p with p | p
      · rw [if_pos p]
      · rw [if_pos (show (4 : Int32) ≤ a from p), ite_self]
    refine nope ?_ (fun h' u => ?_)
    · unfold F_X11_tray
      rw [p1]
      exact deny_b
    · unfold F_X12_tray
      rw [show F_X12_isTray h' a = some 0 from p1 h']
      exact is_b (s := 1) (by decide)
  · have p1 : ∀ h', F_X11_isTray h' (nI j) = some 1 := fun h' => by
      unfold F_X11_isTray
      rw [if_neg (nI_n0 (by omega)), if_neg (show ¬ (4 : Int32) ≤ nI j from nI_ge (b := 4) hj (by decide))]
    have p2 : ∀ h', F_X12_isTray h' (nI j) = some 1 := p1
    have n10 : ¬ (1 : Int32) = 0 := by decide
    rcases nI_cases b (n := 4) (by decide) with (p | p) | ⟨s, hs, rfl⟩
    · refine nope ?_ (fun h' u => ?_)
      · unfold F_X11_tray
        rw [p1, Option.bind_some, if_neg n10, if_pos p]
        exact deny_b
      · unfold F_X12_tray
        rw [p2, Option.bind_some, if_neg n10, if_pos p]
        exact is_b (s := 1) (by decide)
    · have b0 : ¬ b < 0 := Int32.not_lt.mpr (Int32.le_trans (b := 4) (by decide) p)
      have b3 : 3 < b := Int32.lt_of_lt_of_le (b := 4) (by decide) p
      refine nope ?_ (fun h' u => ?_)
      · unfold F_X11_tray
        rw [p1, Option.bind_some, if_neg n10, if_neg b0, if_pos (show (4 : Int32) ≤ b from p)]
        exact deny_b
      · unfold F_X12_tray
        rw [p2, Option.bind_some, if_neg n10, if_neg b0, if_pos b3]
        exact is_b (s := 1) (by decide)
    · have b0 : ¬ nI s < 0 := nI_n0 (by omega)
      have b4 : ¬ (4 : Int32) ≤ nI s := nI_ge (b := 4) hs (by decide)
      have b3 : ¬ (3 : Int32) < nI s := nI_nlt (a := 3) (by omega) (by decide)
      rcases nI_cases v (n := 61) (by decide) with (p | p) | ⟨n, hn, rfl⟩
      · refine nope ?_ (fun h' u => ?_)
        · unfold F_X11_tray
          rw [p1, Option.bind_some, if_neg n10, if_neg b0, if_neg b4, if_pos p]
          exact deny_b
        · unfold F_X12_tray
          rw [p2, Option.bind_some, if_neg n10, if_neg b0, if_neg b3, if_pos p]
          exact is_b (s := 1) (by decide)
      · have v0 : ¬ v < 0 := Int32.not_lt.mpr (Int32.le_trans (b := 61) (by decide) p)
        have v1 : ¬ v ≤ 60 := fun e => absurd (Int32.le_trans (a := 61) p e) (by decide)
        refine nope ?_ (fun h' u => ?_)
        · unfold F_X11_tray
          rw [p1, Option.bind_some, if_neg n10, if_neg b0, if_neg b4, if_neg v0, if_neg v1]
          exact deny_b
        · unfold F_X12_tray
          rw [p2, Option.bind_some, if_neg n10, if_neg b0, if_neg b3, if_neg v0, if_neg v1]
          exact is_b (s := 1) (by decide)
      · have v0 : ¬ nI n < 0 := nI_n0 (by omega)
        have v1 : nI n ≤ (60 : Int32) := nI_le (b := 60) (by omega) (by decide)
        obtain ⟨h1, f1, f2, f3, f4⟩ := c_fillL (h := uI (uI (uI h (63 + 2 * j) 0 0) (63 + 2 * j) 1 (nI s)) (63 + 2 * j) 2 (nI n)) (c := 64 + 2 * j) (v := 0) (nT j hj) (by decide)
        obtain ⟨h2, g1, g2, g3, g4, g5⟩ := m_trayL (h := uI (uI (uI h1 0 10 0) 124 j (nI s)) 125 j (nI n)) hj (show n ≤ 60 by omega)
        refine ⟨uI h1 0 10 0, uI h2 122 1 0, 1, ?_, ?_, ?_⟩
        · unfold F_X11_tray F_X10_makeNew
          rw [p1, Option.bind_some, if_neg n10, if_neg b0, if_neg b4, if_neg v0, if_pos v1, g0_0, n1, gd_on (ib_nI hj (by decide)), nx_nI (by omega), gT j hj, gT3 j hj, f1, Option.bind_some, Option.bind_some]
          exact agree_b
        · unfold F_X12_tray
          rw [p2, Option.bind_some, if_neg n10, if_neg b0, if_neg b3, if_neg v0, if_pos v1, g122_4, g122_5, n124, n125, gd_on (ib_nI hj (by decide)), gd_on (ib_nI hj (by decide)), nx_nI (by omega), g1]
        · sorry
