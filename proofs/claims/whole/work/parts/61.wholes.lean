/-! ===== holes ===== -/
theorem and1_0 : (0 : Int32) &&& 1 = 0 := by decide
theorem and1_1 : (1 : Int32) &&& 1 = 1 := by decide
theorem deny_b {h : Hp} {s : Int32} : (F_X11_deny h 0 s).bind (fun r => some (r.1, r.2 &&& 1)) = some (uI h 0 10 s, 0) := by
  unfold F_X11_deny
  rw [Option.bind_some, and1_0]
theorem agree_b {h : Hp} : (F_X11_agree h 0).bind (fun r => some (r.1, r.2 &&& 1)) = some (uI h 0 10 0, 1) := by
  unfold F_X11_agree
  rw [Option.bind_some, and1_1]
theorem is_b {h : Hp} {s : Int32} (hs : s ≠ 0) : (F_X12_is h 122 s).bind (fun r => some (r.1, r.2 &&& 1)) = some (uI h 122 1 s, 0) := by
  unfold F_X12_is
  rw [if_neg hs, Option.bind_some, and1_0]
theorem is_b0 {h : Hp} : (F_X12_is h 122 0).bind (fun r => some (r.1, r.2 &&& 1)) = some (uI h 122 1 0, 1) := by
  unfold F_X12_is
  rw [if_pos rfl, Option.bind_some, and1_1]
theorem col_cases (h : Hp) (b : Int32) : (F_X11_isColumn h b = some 0 ∧ F_X12_isColumn h b = some 0) ∨ ∃ k, k < 8 ∧ b = nI k ∧ F_X11_isColumn h b = some 1 ∧ F_X12_isColumn h b = some 1 := by
  unfold F_X11_isColumn F_X12_isColumn
  rcases nI_cases b (n := 8) (by decide) with (p | p) | ⟨k, hk, rfl⟩
  · rw [if_pos p]
    exact Or.inl ⟨rfl, rfl⟩
  · rw [if_pos (show (8 : Int32) ≤ b from p)]
    exact Or.inl ⟨ite_self _, ite_self _⟩
  · rw [if_neg (nI_n0 (by omega)), if_neg (show ¬ (8 : Int32) ≤ nI k from nI_ge (b := 8) hk (by decide))]
    exact Or.inr ⟨k, hk, rfl, rfl, rfl⟩
theorem colh (h h' : Hp) (b : Int32) : F_X12_isColumn h' b = F_X12_isColumn h b := rfl
theorem op_holes (q : Nat) (h : Hp) (a b v : Int32) (_ : q < 512) (i : Inv q h) : ∃ h1 h2 r, F_X11_holes h 0 a b v = some (h1, r) ∧ F_X12_holes h1 122 a b v = some (h2, r) ∧ Inv (q + 1) h2 := by
  obtain ⟨A, m, Mk, ok, rc, rm, hm, m1, m2, mk⟩ := id i.1
  have hn := ok.1
  have nope : F_X11_holes h 0 a b v = some (uI h 0 10 1, 0) → (∀ h', Up h h' → F_X12_holes h' 122 a b v = some (uI h' 122 1 1, 0)) → ∃ h1 h2 r, F_X11_holes h 0 a b v = some (h1, r) ∧ F_X12_holes h1 122 a b v = some (h2, r) ∧ Inv (q + 1) h2 := fun x y => op_2 (f := fun h => F_X11_holes h 0 a b v) (g := fun h => F_X12_holes h 122 a b v) (1, 0) i x y
  rcases c_isCard ok rc a with ⟨e, ne⟩ | ⟨j, hj, rfl, e⟩
  · refine nope ?_ (fun h' u => ?_)
    · unfold F_X11_holes
      rw [g0_2, e]
      exact deny_b
    · unfold F_X12_holes
      rcases m_isCard ok (u.rm rm) a with ⟨e, -⟩ | ⟨j, hj, ea, -⟩
      · rw [e]
        exact is_b (s := 1) (by decide)
      · exact absurd ⟨j, hj, ea⟩ ne
  · have me : ∀ h', Up h h' → F_X12_isCard h' 122 (nI j) = some 1 := fun h' u => by
      rcases m_isCard ok (u.rm rm) (nI j) with ⟨-, e⟩ | ⟨-, -, -, e⟩
      · exact absurd ⟨j, hj, rfl⟩ e
      · exact e
    rcases col_cases h b with ⟨c1, c2⟩ | ⟨k, hk, rfl, c1, c2⟩
    · refine nope ?_ (fun h' u => ?_)
      · unfold F_X11_holes
        rw [g0_2, e, c1]
        exact deny_b
      · unfold F_X12_holes
        rw [me h' u, colh h h', c2]
        exact is_b (s := 1) (by decide)
    · by_cases v0 : v < 0
      · refine nope ?_ (fun h' u => ?_)
        · unfold F_X11_holes
          rw [g0_2, e, c1]
          simp only [Option.bind_some]
          rw [if_neg (show ¬ (1 : Int32) = 0 by decide), if_pos v0]
          exact deny_b
        · unfold F_X12_holes
          rw [me h' u, colh h h', c2]
          simp only [Option.bind_some]
          rw [if_neg (show ¬ (1 : Int32) = 0 by decide), if_pos v0]
          exact is_b (s := 1) (by decide)
      · by_cases v1 : v ≤ 4095
        · obtain ⟨w, hw, rfl⟩ := nI_of v0
          have hw4 : w ≤ 4095 := (nI_leI (b := 4095) hw (by decide)).mp v1
          refine ⟨uI (uI (uI h 4 (8 * j + k) (nI w)) 5 (8 * j + k) (nI (rdN w))) 0 10 0, uI (uI (uI (uI (uI h 4 (8 * j + k) (nI w)) 5 (8 * j + k) (nI (rdN w))) 0 10 0) 123 (8 + 11 * j + k) (nI w)) 122 1 0, 1, ?_, ?_, ?_⟩
          · unfold F_X11_holes F_X2_setHoles
            rw [g0_2, e, c1]
            simp only [Option.bind_some]
            rw [if_neg (show ¬ (1 : Int32) = 0 by decide), if_neg v0, if_pos v1, c_rd hw4, g3_2, g3_3, n4, n5, x_8, gd_on (ib_nI (by omega) (by decide)), nx_nI (by omega)]
            simp only [Option.bind_some]
            rw [gd_on (ib_nI (by omega) (by decide))]
            exact agree_b
          · have u : Up h (uI (uI (uI h 4 (8 * j + k) (nI w)) 5 (8 * j + k) (nI (rdN w))) 0 10 0) := fun d hd => ⟨by rw [hI_uI_o (by omega), hI_uI_o (by omega), hI_uI_o (by omega)], rfl⟩
            unfold F_X12_holes
            rw [me _ u, colh h, c2]
            simp only [Option.bind_some]
            rw [if_neg (show ¬ (1 : Int32) = 0 by decide), if_neg v0, if_pos v1, g122_0, n123, x_11, gd_on (ib_nI (by omega) (by decide)), nx_nI (by omega)]
            exact is_b0
          · refine Inv_card (A' := (oN A, fun x y => if x = j ∧ y = k then w else oH A x y, oC A, oK A, oW A, oD A, oM A, oB A, oS A)) i ok rc rm hm m1 m2 mk ?_ ?_ ?_ rfl rfl ?_ ?_ ?_
            · refine ⟨fun d d0 d1 t => ⟨?_, rfl⟩, fun k k1 k2 => ?_, fun k k1 => ?_, rfl, rfl⟩
              · rw [hI_uI_o d1, hI_uI_o (by omega), hI_uI_o d0, hI_uI_o (by omega), hI_uI_o (by omega)]
              · rw [hI_uI_o (by decide), hI_uI_o (by decide), hI_uI_s (by omega), hI_uI_o (by decide), hI_uI_o (by decide)]
              · rw [hI_uI_s k1, hI_uI_o (by decide), hI_uI_o (by decide), hI_uI_o (by decide), hI_uI_o (by decide)]
            · intro k hk
              rw [hI_uI_o (by decide), hI_uI_s (by omega), hI_uI_o (by decide), hI_uI_o (by decide), hI_uI_o (by decide)]
            · have ok1 := ok.mono
              refine ⟨ok1.1, fun x hx => ?_, ok1.2.2⟩
              obtain ⟨y1, y2⟩ := ok1.2.1 x hx
              refine ⟨fun y hy => ?_, y2⟩
              show (if x = j ∧ y = k then w else oH A x y) ≤ _
              by_cases c : x = j ∧ y = k
              · rw [if_pos c]; exact hw4
              · rw [if_neg c]; exact y1 y hy
            · have E : ∀ d, d ≠ 0 → d ≠ 4 → d ≠ 5 → d < 122 → hI (uI (uI (uI (uI (uI h 4 (8 * j + k) (nI w)) 5 (8 * j + k) (nI (rdN w))) 0 10 0) 123 (8 + 11 * j + k) (nI w)) 122 1 0) d = hI h d := fun d a b b' c => by rw [hI_uI_o (by omega), hI_uI_o (by omega), hI_uI_o a, hI_uI_o b', hI_uI_o b]
              refine ⟨by rw [E 3 (by decide) (by decide) (by decide) (by decide)]; exact rc.1.1, by rw [E 3 (by decide) (by decide) (by decide) (by decide)]; exact rc.1.2.1, fun x hx => ?_⟩
              rw [E 6 (by decide) (by decide) (by decide) (by decide), E 7 (by decide) (by decide) (by decide) (by decide), E 8 (by decide) (by decide) (by decide) (by decide), E 9 (by decide) (by decide) (by decide) (by decide)]
              obtain ⟨y1, y2⟩ := rc.1.2.2 x hx
              refine ⟨fun y hy => ?_, y2⟩
              show hI _ 4 _ = nI (if x = j ∧ y = k then w else oH A x y) ∧ hI _ 5 _ = nI (rdN (if x = j ∧ y = k then w else oH A x y))
              rw [hI_uI_o (by decide), hI_uI_o (by decide), hI_uI_o (by decide), hI_uI_o (by decide), hI_uI_o (c := 122) (d := 5) (by decide), hI_uI_o (c := 123) (d := 5) (by decide), hI_uI_o (c := 0) (d := 5) (by decide)]
              by_cases c : x = j ∧ y = k
              · rw [if_pos c, c.1, c.2, hI_uI_e, hI_uI_e]
                exact ⟨rfl, rfl⟩
              · rw [if_neg c, hI_uI_s (by omega), hI_uI_s (by omega), hI_uI_o (by decide)]
                exact y1 y hy
            · have E : ∀ x, x ≠ 8 + 11 * j + k → hI (uI (uI (uI (uI (uI h 4 (8 * j + k) (nI w)) 5 (8 * j + k) (nI (rdN w))) 0 10 0) 123 (8 + 11 * j + k) (nI w)) 122 1 0) 123 x = hI h 123 x := fun x a => by rw [hI_uI_o (by decide), hI_uI_s a, hI_uI_o (by decide), hI_uI_o (by decide), hI_uI_o (by decide)]
              refine ⟨by rw [E _ (by omega)]; exact rm.1.1, by rw [E _ (by omega)]; exact rm.1.2.1, fun x hx => ?_⟩
              have hx' : x < oN A := hx
              obtain ⟨y1, y2, y3, y4, y5⟩ := rm.1.2.2 x hx
              refine ⟨fun y hy => ?_, by rw [E _ (by omega)]; exact y2, by rw [E _ (by omega)]; exact y3, by rw [E _ (by omega)]; exact y4, by rw [E _ (by omega)]; exact y5⟩
              show hI _ 123 _ = nI (if x = j ∧ y = k then w else oH A x y)
              by_cases c : x = j ∧ y = k
              · rw [if_pos c, c.1, c.2, Nat.zero_add, hI_uI_o (by decide), hI_uI_e]
              · rw [if_neg c, E _ (by omega)]
                exact y1 y hy
            · rw [hI_uI_e, hI_uI_o (by decide), hI_uI_o (by decide), hI_uI_e]
        · refine nope ?_ (fun h' u => ?_)
          · unfold F_X11_holes
            rw [g0_2, e, c1]
            simp only [Option.bind_some]
            rw [if_neg (show ¬ (1 : Int32) = 0 by decide), if_neg v0, if_neg v1]
            exact deny_b
          · unfold F_X12_holes
            rw [me h' u, colh h h', c2]
            simp only [Option.bind_some]
            rw [if_neg (show ¬ (1 : Int32) = 0 by decide), if_neg v0, if_neg v1]
            exact is_b (s := 1) (by decide)
