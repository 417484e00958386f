/-! ===== exchange ===== -/
theorem op_exchange (q : Nat) (h : Hp) (a b : Int32) (_ : q < 512) (i : Inv q h) : ∃ h1 h2 r, F_X11_exchange h 0 a b = some (h1, r) ∧ F_X12_exchange h1 122 a b = some (h2, r) ∧ Inv (q + 1) h2 := by
  obtain ⟨A, m, Mk, ok, rc, rm, hm, m1, m2, mk⟩ := id i.1
  have hn := ok.1
  have nope : F_X11_exchange h 0 a b = some (uI h 0 10 1, 0) → (∀ h', Up h h' → F_X12_exchange h' 122 a b = some (uI h' 122 1 1, 0)) → ∃ h1 h2 r, F_X11_exchange h 0 a b = some (h1, r) ∧ F_X12_exchange h1 122 a b = some (h2, r) ∧ Inv (q + 1) h2 := fun x y => op_2 (f := fun h => F_X11_exchange h 0 a b) (g := fun h => F_X12_exchange h 122 a b) (1, 0) i x y
  have me : ∀ h' j, Up h h' → j < oN A → F_X12_isCard h' 122 (nI j) = some 1 := fun h' j u hj => by
    rcases m_isCard ok (u.rm rm) (nI j) with ⟨-, e⟩ | ⟨-, -, -, e⟩
    · exact absurd ⟨j, hj, rfl⟩ e
    · exact e
  have mn : ∀ h' x, Up h h' → (¬ ∃ j, j < oN A ∧ x = nI j) → F_X12_isCard h' 122 x = some 0 := fun h' x u ne => by
    rcases m_isCard ok (u.rm rm) x with ⟨e, -⟩ | ⟨j, hj, ea, -⟩
    · exact e
    · exact absurd ⟨j, hj, ea⟩ ne
  rcases c_isCard ok rc a with ⟨e, ne⟩ | ⟨x, hx, rfl, e⟩
  · refine nope ?_ (fun h' u => ?_)
    · unfold F_X11_exchange
      rw [g0_2, e]
      exact deny_b
    · unfold F_X12_exchange
      rw [mn h' a u ne]
      exact is_b (s := 1) (by decide)
  · rcases c_isCard ok rc b with ⟨f, ne⟩ | ⟨y, hy, rfl, f⟩
    · refine nope ?_ (fun h' u => ?_)
      · unfold F_X11_exchange
        rw [g0_2, e, f]
        exact deny_b
      · unfold F_X12_exchange
        rw [me h' x u hx, mn h' b u ne]
        exact is_b (s := 1) (by decide)
    · by_cases xy : x = y
      · subst xy
        refine nope ?_ (fun h' u => ?_)
        · unfold F_X11_exchange
          rw [g0_2, e, Option.bind_some, if_neg (show ¬ (1 : Int32) = 0 by decide), Option.bind_some, if_neg (show ¬ (1 : Int32) = 0 by decide), if_pos rfl]
          exact deny_b
        · unfold F_X12_exchange
          rw [me h' x u hx, Option.bind_some, if_neg (show ¬ (1 : Int32) = 0 by decide), Option.bind_some, if_neg (show ¬ (1 : Int32) = 0 by decide), if_pos rfl]
          exact is_b (s := 1) (by decide)
      · have nxy : ¬ nI x = nI y := fun e => xy (nI_inj (by omega) (by omega) e)
        obtain ⟨p, hp, ep⟩ := deck_at ok hx
        obtain ⟨r, hr, er⟩ := deck_at ok hy
        have npr : p ≠ r := fun e => xy (by rw [← ep, ← er, e])
        refine ⟨uI (uI (uI h 9 p (nI y)) 9 r (nI x)) 0 10 0, uI (uI (uI (uI (uI (uI h 9 p (nI y)) 9 r (nI x)) 0 10 0) 123 (338 + p) (nI y)) 123 (338 + r) (nI x)) 122 1 0, 1, ?_, ?_, ?_⟩
        · unfold F_X11_exchange
          have c1 := c_placeOf ok rc hp
          have c2 := c_placeOf ok rc hr
          rw [ep] at c1
          rw [er] at c2
          rw [g0_2, e, Option.bind_some, if_neg (show ¬ (1 : Int32) = 0 by decide), f, Option.bind_some, if_neg (show ¬ (1 : Int32) = 0 by decide), if_neg nxy, c1, c2, Option.bind_some, Option.bind_some, g3_7, n9, gd_on (ib_nI (by omega) (by decide)), gd_on (ib_nI (by omega) (by decide)), nx_nI (by omega), nx_nI (by omega)]
          exact agree_b
        · have u : Up h (uI (uI (uI h 9 p (nI y)) 9 r (nI x)) 0 10 0) := fun d hd => ⟨by rw [hI_uI_o (by omega), hI_uI_o (by omega), hI_uI_o (by omega)], rfl⟩
          have c1 := m_placeOf ok (u.rm rm) hp
          have c2 := m_placeOf ok (u.rm rm) hr
          rw [ep] at c1
          rw [er] at c2
          unfold F_X12_exchange
          rw [me _ x u hx, Option.bind_some, if_neg (show ¬ (1 : Int32) = 0 by decide), me _ y u hy, Option.bind_some, if_neg (show ¬ (1 : Int32) = 0 by decide), if_neg nxy, c1, c2, Option.bind_some, Option.bind_some, g122_0, n123, show (338 : Int32) = nI 338 by decide, nI_add, nI_add, gd_on (ib_nI (by omega) (by decide)), gd_on (ib_nI (by omega) (by decide)), nx_nI (by omega), nx_nI (by omega)]
          exact is_b0
        · refine Inv_card (A' := (oN A, oH A, oC A, oK A, oW A, fun z => if z = r then x else if z = p then y else oD A z, oM A, oB A, oS A)) i ok rc rm hm m1 m2 mk ?_ ?_ ?_ rfl rfl ?_ ?_ ?_
          · refine ⟨fun d d0 d1 t => ⟨?_, rfl⟩, fun k k1 k2 => ?_, fun k k1 => ?_, rfl, rfl⟩
            · rw [hI_uI_o d1, hI_uI_o (by omega), hI_uI_o (by omega), hI_uI_o d0, hI_uI_o (by omega), hI_uI_o (by omega)]
            · rw [hI_uI_o (by decide), hI_uI_o (by decide), hI_uI_o (by decide), hI_uI_s (by omega), hI_uI_o (by decide), hI_uI_o (by decide)]
            · rw [hI_uI_s k1, hI_uI_o (by decide), hI_uI_o (by decide), hI_uI_o (by decide), hI_uI_o (by decide), hI_uI_o (by decide)]
          · intro k hk
            rw [hI_uI_o (by decide), hI_uI_s (by omega), hI_uI_s (by omega), hI_uI_o (by decide), hI_uI_o (by decide), hI_uI_o (by decide)]
          · have ok1 := ok.mono
            have inj := ok1.2.2.1
            refine ⟨ok1.1, fun z hz => ?_, fun z w hz hw ez => ?_, ok1.2.2.2⟩
            · obtain ⟨y1, y2, y3, y4, y5⟩ := ok1.2.1 z hz
              refine ⟨y1, y2, y3, y4, ?_⟩
              show (if z = r then x else if z = p then y else oD A z) < oN A
              by_cases c : z = r
              · rw [if_pos c]; exact hx
              · rw [if_neg c]
                by_cases c' : z = p
                · rw [if_pos c']; exact hy
                · rw [if_neg c']; exact y5
            · have ez' : (if z = r then x else if z = p then y else oD A z) = (if w = r then x else if w = p then y else oD A w) := ez
              have hz' : z < oN A := hz
              have hw' : w < oN A := hw
              have nz := fun t (ht : t < oN A) (k1 : t ≠ p) => (fun e2 => k1 (inj t p ht hp (e2.trans ep.symm)) : oD A t ≠ x)
              have nw := fun t (ht : t < oN A) (k1 : t ≠ r) => (fun e2 => k1 (inj t r ht hr (e2.trans er.symm)) : oD A t ≠ y)
              by_cases z1 : z = r <;> by_cases w1 : w = r <;> by_cases z2 : z = p <;> by_cases w2 : w = p <;> simp only [z1, z2, w1, w2, npr, npr.symm, if_true, if_false] at ez' <;> first | omega | (exact absurd ez'.symm (nz w hw' w2)) | (exact absurd ez' (nz z hz' z2)) | (exact absurd ez'.symm (nw w hw' w1)) | (exact absurd ez' (nw z hz' z1)) | (exact inj z w hz hw ez') | skip
          · have E : ∀ d, d ≠ 0 → d ≠ 9 → d < 122 → hI (uI (uI (uI (uI (uI (uI h 9 p (nI y)) 9 r (nI x)) 0 10 0) 123 (338 + p) (nI y)) 123 (338 + r) (nI x)) 122 1 0) d = hI h d := fun d a b c => by rw [hI_uI_o (by omega), hI_uI_o (by omega), hI_uI_o (by omega), hI_uI_o a, hI_uI_o b, hI_uI_o b]
            refine ⟨by rw [E 3 (by decide) (by decide) (by decide)]; exact rc.1.1, by rw [E 3 (by decide) (by decide) (by decide)]; exact rc.1.2.1, fun z hz => ?_⟩
            rw [E 4 (by decide) (by decide) (by decide), E 5 (by decide) (by decide) (by decide), E 6 (by decide) (by decide) (by decide), E 7 (by decide) (by decide) (by decide), E 8 (by decide) (by decide) (by decide)]
            obtain ⟨y1, y2, y3, y4, y5⟩ := rc.1.2.2 z hz
            refine ⟨y1, y2, y3, y4, ?_⟩
            show hI _ 9 z = nI (if z = r then x else if z = p then y else oD A z)
            rw [hI_uI_o (by decide), hI_uI_o (by decide), hI_uI_o (by decide), hI_uI_o (by decide)]
            by_cases c : z = r
            · rw [if_pos c, c, hI_uI_e]
            · rw [if_neg c, hI_uI_s c]
              by_cases c' : z = p
              · rw [if_pos c', c', hI_uI_e]
              · rw [if_neg c', hI_uI_s c']
                exact y5
          · have E : ∀ k, k ≠ 338 + p → k ≠ 338 + r → hI (uI (uI (uI (uI (uI (uI h 9 p (nI y)) 9 r (nI x)) 0 10 0) 123 (338 + p) (nI y)) 123 (338 + r) (nI x)) 122 1 0) 123 k = hI h 123 k := fun k a b => by rw [hI_uI_o (by decide), hI_uI_s b, hI_uI_s a, hI_uI_o (by decide), hI_uI_o (by decide), hI_uI_o (by decide)]
            refine ⟨by rw [E _ (by omega) (by omega)]; exact rm.1.1, by rw [E _ (by omega) (by omega)]; exact rm.1.2.1, fun z hz => ?_⟩
            have hz' : z < oN A := hz
            obtain ⟨y1, y2, y3, y4, y5⟩ := rm.1.2.2 z hz
            refine ⟨fun k hk => by rw [E _ (by omega) (by omega)]; exact y1 k hk, by rw [E _ (by omega) (by omega)]; exact y2, by rw [E _ (by omega) (by omega)]; exact y3, by rw [E _ (by omega) (by omega)]; exact y4, ?_⟩
            show hI _ 123 _ = nI (if z = r then x else if z = p then y else oD A z)
            by_cases c : z = r
            · rw [if_pos c, c, Nat.zero_add, hI_uI_o (by decide), hI_uI_e]
            · rw [if_neg c]
              by_cases c' : z = p
              · rw [if_pos c', c', Nat.zero_add, hI_uI_o (by decide), hI_uI_s (by omega), hI_uI_e]
              · rw [if_neg c', E _ (by omega) (by omega)]
                exact y5
          · rw [hI_uI_e, hI_uI_o (by decide), hI_uI_o (by decide), hI_uI_o (by decide), hI_uI_e]
