/-! ===== calls that change cards ===== -/
theorem RcB_congr {h h' : Hp} {c : Nat} {B : Bk} (e : ∀ d, c ≤ d → d ≤ c + 4 → hI h' d = hI h d) (r : RcB h c B) : RcB h' c B := by
  unfold RcB at *
  rw [e c (by omega) (by omega), e (c + 1) (by omega) (by omega), e (c + 2) (by omega) (by omega), e (c + 3) (by omega) (by omega), e (c + 4) (by omega) (by omega)]
  exact r
theorem RcS_congr {h h' : Hp} {c : Nat} {P : Sp} (e : ∀ d, c ≤ d → d ≤ c + 4 → hI h' d = hI h d) (r : RcS h c P) : RcS h' c P := by
  unfold RcS at *
  rw [e c (by omega) (by omega), e (c + 1) (by omega) (by omega), e (c + 2) (by omega) (by omega), e (c + 3) (by omega) (by omega), e (c + 4) (by omega) (by omega)]
  exact r
theorem RmB_range {h h' : Hp} {b : Nat} {B : Bk} (hB : BkOk B) (e : ∀ k, (b + 2 ≤ k ∧ k ≤ b + 4) ∨ (b + 368 ≤ k ∧ k < b + 436) → hI h' 123 k = hI h 123 k) (r : RmB h b B) : RmB h' b B := by
  obtain ⟨b1, b2, b3, b4, b5, b6⟩ := r
  have x1 := hB.1
  have x2 := hB.2.1
  have x3 := hB.2.2.1
  exact ⟨(e _ (by omega)).trans b1, (e _ (by omega)).trans b2, (e _ (by omega)).trans b3, fun k hk => (e _ (by omega)).trans (b4 k hk), fun m hm => ⟨(e _ (by omega)).trans (b5 m hm).1, (e _ (by omega)).trans (b5 m hm).2⟩, fun k hk => ⟨(e _ (by omega)).trans (b6 k hk).1, (e _ (by omega)).trans (b6 k hk).2⟩⟩
theorem RmS_range {h h' : Hp} {b : Nat} {P : Sp} (hS : SpOk P) (e : ∀ k, k = b + 5 ∨ (b + 436 ≤ k ∧ k < b + 756) → hI h' 123 k = hI h 123 k) (r : RmS h b P) : RmS h' b P := by
  obtain ⟨s1, s2⟩ := r
  have x1 := hS.1
  refine ⟨(e _ (by omega)).trans s1, fun k hk => ?_⟩
  obtain ⟨d1, d2, d3⟩ := s2 k hk
  exact ⟨(e _ (by omega)).trans d1, fun x => ⟨(e _ (by omega)).trans (d2 x).1, (e _ (by omega)).trans (d2 x).2⟩, fun x => (e _ (by omega)).trans (d3 x)⟩
/-- cards, deck or minutes of the house have changed, nothing else that is looked at -/
theorem Inv_card {q : Nat} {h h2 : Hp} {A A' : Ho} {m : Nat} {Mk : Nat → Ho} (i : Inv q h) (ok : HoOk q A) (rc : RcH h 3 A) (rm : RmH h 0 A) (hm : m ≤ 3) (m1 : hI h 0 14 = nI m) (m2 : hI h 122 51 = nI m) (mk : ∀ j, j < m → HoOk q (Mk j) ∧ RcH h (71 + 17 * j) (Mk j) ∧ RmH h (800 + 800 * j) (Mk j)) (e : Bt (fun d => (3 ≤ d ∧ d ≤ 9) ∨ (20 ≤ d ∧ d ≤ 39) ∨ d = 123) h h2) (e2 : ∀ k, (2 ≤ k ∧ k ≤ 5) ∨ (368 ≤ k ∧ k < 3200) → hI h2 123 k = hI h 123 k) (ok' : HoOk (q + 1) A') (hB : oB A' = oB A) (hS : oS A' = oS A) (rc' : RcC h2 3 A') (rm' : RmC h2 0 A') (st : hI h2 122 1 = hI h2 0 10) : Inv (q + 1) h2 := by
  refine Inv_bt e (fun d t => by omega) ?_ st i
  have E := e.1
  refine Iho_set ok' ⟨rc', ?_, ?_⟩ ⟨rm', ?_, ?_⟩ hm (by rw [e.2.1 14 (by decide) (by decide)]; exact m1) (by rw [e.2.2.1 51 (by decide)]; exact m2) mk (fun d a b => (E d (by omega) (by omega) (by omega)).1) (fun k a b => e2 k (by omega))
  · rw [hB]
    exact RcB_congr (fun d a b => (E d (by omega) (by omega) (by omega)).1) rc.2.1
  · rw [hS]
    exact RcS_congr (fun d a b => (E d (by omega) (by omega) (by omega)).1) rc.2.2
  · rw [hB]
    exact RmB_range ok.2.2.2.1 (fun k a => e2 k (by omega)) rm.2.1
  · rw [hS]
    exact RmS_range ok.2.2.2.2 (fun k a => e2 k (by omega)) rm.2.2
theorem op_anew (q : Nat) (h : Hp) (a : Int32) (_ : q < 512) (i : Inv q h) : ∃ h1 h2 r, F_X11_anew h 0 a = some (h1, r) ∧ F_X12_anew h1 122 a = some (h2, r) ∧ Inv (q + 1) h2 := by
  obtain ⟨A, m, Mk, ok, rc, rm, hm, m1, m2, mk⟩ := id i.1
  have hn := ok.1
  rcases c_isCard ok rc a with ⟨e, ne⟩ | ⟨j, hj, rfl, e⟩
  · refine op_2 (f := fun h => F_X11_anew h 0 a) (g := fun h => F_X12_anew h 122 a) (1, -1) i ?_ ?_
    · show F_X11_anew h 0 a = _
      unfold F_X11_anew
      rw [g0_2, e]
      rfl
    · intro h' u
      show F_X12_anew h' 122 a = _
      unfold F_X12_anew
      rcases m_isCard ok (u.rm rm) a with ⟨e, -⟩ | ⟨j, hj, ea, -⟩
      · rw [e]
        rfl
      · exact absurd ⟨j, hj, ea⟩ ne
  · refine ⟨uI (uI h 8 j 0) 0 10 0, uI (uI (uI (uI h 8 j 0) 0 10 0) 123 (18 + 11 * j) 0) 122 1 0, nI (oW A j), ?_, ?_, ?_⟩
    · unfold F_X11_anew F_X11_answer
      rw [g0_2, e]
      simp only [Option.bind_some]
      rw [if_neg (show ¬ (1 : Int32) = 0 by decide), g3_6, n8, show ib (nI j) 30 = true from ib_nI (by omega) (by decide), nx_nI (by omega), (rc.1.2.2 j hj).2.2.2.1]
      rfl
    · have u : Up h (uI (uI h 8 j 0) 0 10 0) := fun d hd => ⟨by rw [hI_uI_o (by omega), hI_uI_o (by omega)], rfl⟩
      have rm1 := u.rm rm
      unfold F_X12_anew F_X12_gives
      rcases m_isCard ok rm1 (nI j) with ⟨-, e⟩ | ⟨-, -, -, e⟩
      · exact absurd ⟨j, hj, rfl⟩ e
      · have f3 := (rm1.1.2.2 j hj).2.2.2.1
        rw [Nat.zero_add] at f3
        rw [e, show F_X12_ofCard (uI (uI h 8 j 0) 0 10 0) 122 (nI j) 10 = _ from m_ofCard (k := 10) ok hj (by omega), show 8 + 11 * nI j + 10 = _ from x_11 j 10, show 8 + 11 * j + 10 = 18 + 11 * j by omega, f3]
        simp only [Option.bind_some]
        rw [if_neg (show ¬ (1 : Int32) = 0 by decide), g122_0, n123, gd_on (ib_nI (by omega) (by decide)), nx_nI (by omega)]
    · refine Inv_card (A' := (oN A, oH A, oC A, oK A, fun x => if x = j then 0 else oW A x, oD A, oM A, oB A, oS A)) i ok rc rm hm m1 m2 mk ?_ ?_ ?_ rfl rfl ?_ ?_ ?_
      · refine ⟨fun d d0 d1 t => ⟨?_, rfl⟩, fun k k1 k2 => ?_, fun k k1 => ?_, rfl, rfl⟩
        · rw [hI_uI_o d1, hI_uI_o (by omega), hI_uI_o d0, hI_uI_o (by omega)]
        · rw [hI_uI_o (by decide), hI_uI_o (by decide), hI_uI_s (by omega), hI_uI_o (by decide)]
        · rw [hI_uI_s k1, hI_uI_o (by decide), hI_uI_o (by decide), hI_uI_o (by decide)]
      · intro k hk
        rw [hI_uI_o (by decide), hI_uI_s (by omega), hI_uI_o (by decide), hI_uI_o (by decide)]
      · refine ⟨ok.1, fun x hx => ?_, ok.2.2⟩
        obtain ⟨y1, y2, y3, y4, y5⟩ := ok.2.1 x hx
        refine ⟨y1, y2, y3, ?_, y5⟩
        show (if x = j then 0 else oW A x) ≤ _
        by_cases c : x = j
        · rw [if_pos c]; omega
        · rw [if_neg c]; omega
      · have E : ∀ d, d ≠ 0 → d ≠ 8 → d < 122 → hI (uI (uI (uI (uI h 8 j 0) 0 10 0) 123 (18 + 11 * j) 0) 122 1 0) d = hI h d := fun d a b c => by rw [hI_uI_o (by omega), hI_uI_o (by omega), hI_uI_o a, hI_uI_o b]
        refine ⟨by rw [E 3 (by decide) (by decide) (by decide)]; exact rc.1.1, by rw [E 3 (by decide) (by decide) (by decide)]; exact rc.1.2.1, fun x hx => ?_⟩
        rw [E 4 (by decide) (by decide) (by decide), E 5 (by decide) (by decide) (by decide), E 6 (by decide) (by decide) (by decide), E 7 (by decide) (by decide) (by decide), E 9 (by decide) (by decide) (by decide)]
        obtain ⟨y1, y2, y3, y4, y5⟩ := rc.1.2.2 x hx
        refine ⟨y1, y2, y3, ?_, y5⟩
        show hI _ 8 x = nI (if x = j then 0 else oW A x)
        rw [hI_uI_o (by decide), hI_uI_o (by decide), hI_uI_o (by decide)]
        by_cases c : x = j
        · rw [if_pos c, c, hI_uI_e]
          rfl
        · rw [if_neg c, hI_uI_s c]
          exact y4
      · have E : ∀ k, k ≠ 18 + 11 * j → hI (uI (uI (uI (uI h 8 j 0) 0 10 0) 123 (18 + 11 * j) 0) 122 1 0) 123 k = hI h 123 k := fun k a => by rw [hI_uI_o (by decide), hI_uI_s a, hI_uI_o (by decide), hI_uI_o (by decide)]
        refine ⟨by rw [E _ (by omega)]; exact rm.1.1, by rw [E _ (by omega)]; exact rm.1.2.1, fun x hx => ?_⟩
        have hx' : x < oN A := hx
        obtain ⟨y1, y2, y3, y4, y5⟩ := rm.1.2.2 x hx
        refine ⟨fun k hk => by rw [E _ (by omega)]; exact y1 k hk, by rw [E _ (by omega)]; exact y2, by rw [E _ (by omega)]; exact y3, ?_, by rw [E _ (by omega)]; exact y5⟩
        show hI _ 123 _ = nI (if x = j then 0 else oW A x)
        by_cases c : x = j
        · rw [if_pos c, c, Nat.zero_add, hI_uI_o (by decide), hI_uI_e]
          rfl
        · rw [if_neg c, E _ (by omega)]
          exact y4
      · rw [hI_uI_e, hI_uI_o (by decide), hI_uI_o (by decide), hI_uI_e]
