/-! ===== card ===== -/
theorem nI_sub {a b : Nat} (h : b ≤ a) : nI a - nI b = nI (a - b) := by
  have e : nI a = nI (a - b) + nI b := by rw [nI_add, Nat.sub_add_cancel h]
  rw [e, Int32.add_sub_cancel]
/-- what card answers -/
noncomputable def cardA (A : Ho) (i k p : Nat) : Int32 × Int32 := if k < 8 then (0, nI (oH A i k)) else if k < 16 then (0, nI (rdN (oH A i (k - 8)))) else if k = 16 then (0, nI (oC A i)) else if k = 17 then (if oK A i = -1 then (6, -1) else (0, oK A i)) else if k = 18 then (0, nI (oW A i)) else (0, nI p)
theorem c_card {h : Hp} {A : Ho} {q i k p : Nat} (ok : HoOk q A) (rc : RcH h 3 A) (hi : i < oN A) (hp : p < oN A) (he : oD A p = i) (hk : k < 20) : F_X11_card h 0 (nI i) (nI k) = some (ans h 0 10 (cardA A i k p)) := by
  have hn := ok.1
  unfold F_X11_card
  rw [g0_2]
  rcases c_isCard ok rc (nI i) with ⟨-, e⟩ | ⟨-, -, -, e⟩
  · exact absurd ⟨i, hi, rfl⟩ e
  rw [e]
  simp only [Option.bind_some]
  rw [if_neg (show ¬ (1 : Int32) = 0 by decide), if_neg (nI_n0 (by omega)), if_pos (show nI k ≤ 19 from nI_le (b := 19) (by omega) (by decide))]
  unfold F_X11_answer F_X11_refuse cardA
  by_cases k8 : k < 8
  · rw [if_neg (show ¬ (8 : Int32) ≤ nI k from nI_ge (b := 8) k8 (by decide)), c_holesOf ok rc hi k8, if_pos k8]
    rfl
  · rw [if_pos (show (8 : Int32) ≤ nI k from nI_le (a := 8) (by omega) (by omega)), if_neg k8]
    by_cases k16 : k < 16
    · rw [if_neg (show ¬ (16 : Int32) ≤ nI k from nI_ge (b := 16) k16 (by decide)), if_pos k16, show nI k - 8 = nI (k - 8) from nI_sub (b := 8) (by omega), c_reading ok rc hi (by omega)]
      rfl
    · rw [if_pos (show (16 : Int32) ≤ nI k from nI_le (a := 16) (by omega) (by omega)), if_neg k16, show nI k - 16 = nI (k - 16) from nI_sub (b := 16) (by omega)]
      obtain ⟨-, f1, f2, f3, f4⟩ := rc.1.2.2 i hi
      rw [g3_4, g3_5, g3_6, n6, n7, n8, show ib (nI i) 30 = true from ib_nI (by omega) (by decide), nx_nI (by omega), f1, f2, f3]
      simp only [gd_tt]
      subst he
      rw [c_placeOf ok rc hp]
      simp only [swt, Option.bind_some]
      have : k = 16 ∨ k = 17 ∨ k = 18 ∨ k = 19 := by omega
      rcases this with rfl | rfl | rfl | rfl
      · rfl
      · rw [if_neg (show ¬ nI (17 - 16) = nI 0 by decide), if_pos (show nI (17 - 16) = nI (0 + 1) by decide), if_neg (show ¬ 17 = 16 by decide), if_pos (show 17 = 17 from rfl)]
        by_cases x : oK A (oD A p) = -1
        · rw [if_pos x, if_pos x]
          rfl
        · rw [if_neg x, if_neg x]
          rfl
      · rfl
      · rfl
theorem m_card {h : Hp} {A : Ho} {q i k p : Nat} (ok : HoOk q A) (rm : RmH h 0 A) (hi : i < oN A) (hp : p < oN A) (he : oD A p = i) (hk : k < 20) : F_X12_card h 122 (nI i) (nI k) = some (ans h 122 1 (cardA A i k p)) := by
  have hn := ok.1
  unfold F_X12_card J_X12_card_85
  rcases m_isCard ok rm (nI i) with ⟨-, e⟩ | ⟨-, -, -, e⟩
  · exact absurd ⟨i, hi, rfl⟩ e
  rw [e]
  simp only [Option.bind_some]
  rw [if_neg (show ¬ (1 : Int32) = 0 by decide), if_neg (nI_n0 (by omega)), if_pos (show nI k ≤ 19 from nI_le (b := 19) (by omega) (by decide))]
  unfold F_X12_gives F_X12_refuse cardA
  obtain ⟨f0, f1, f2, f3, f4⟩ := rm.1.2.2 i hi
  rw [Nat.zero_add] at f1 f2 f3 f4
  simp only [Nat.zero_add] at f0
  by_cases k8 : k < 8
  · rw [if_neg (show ¬ (8 : Int32) ≤ nI k from nI_ge (b := 8) k8 (by decide)), m_ofCard ok hi (by omega), if_pos k8, f0 k k8]
    rfl
  · rw [if_pos (show (8 : Int32) ≤ nI k from nI_le (a := 8) (by omega) (by omega)), if_neg k8]
    by_cases k16 : k < 16
    · rw [if_neg (show ¬ (16 : Int32) ≤ nI k from nI_ge (b := 16) k16 (by decide)), if_pos k16, show nI k - 8 = nI (k - 8) from nI_sub (b := 8) (by omega), m_reads ok rm hi (by omega)]
      rfl
    · rw [if_pos (show (16 : Int32) ≤ nI k from nI_le (a := 16) (by omega) (by omega)), if_neg k16]
      rw [show F_X12_ofCard h 122 (nI i) 8 = _ from m_ofCard (k := 8) ok hi (by omega), show F_X12_ofCard h 122 (nI i) 9 = _ from m_ofCard (k := 9) ok hi (by omega), show F_X12_ofCard h 122 (nI i) 10 = _ from m_ofCard (k := 10) ok hi (by omega)]
      rw [show 8 + 11 * i + 8 = 16 + 11 * i by omega, show 8 + 11 * i + 9 = 17 + 11 * i by omega, show 8 + 11 * i + 10 = 18 + 11 * i by omega, f1, f2, f3]
      subst he
      rw [m_placeOf ok rm hp]
      simp only [Option.bind_some]
      have : k = 16 ∨ k = 17 ∨ k = 18 ∨ k = 19 := by omega
      rcases this with rfl | rfl | rfl | rfl
      · rfl
      · rw [if_pos (show nI 17 = 17 by decide), if_neg (show ¬ nI 17 = 16 by decide), if_neg (show ¬ 17 = 16 by decide), if_pos (show 17 = 17 from rfl)]
        by_cases x : oK A (oD A p) = -1
        · rw [if_pos x, if_pos x]
          rfl
        · rw [if_neg x, if_neg x]
          rfl
      · rfl
      · rfl
theorem op_card (q : Nat) (h : Hp) (a b : Int32) (_ : q < 512) (i : Inv q h) : ∃ h1 h2 r, F_X11_card h 0 a b = some (h1, r) ∧ F_X12_card h1 122 a b = some (h2, r) ∧ Inv (q + 1) h2 := by
  obtain ⟨A, m, Mk, ok, rc, rm, -⟩ := id i.1
  have hn := ok.1
  rcases c_isCard ok rc a with ⟨e, ne⟩ | ⟨j, hj, rfl, e⟩
  · refine op_2 (f := fun h => F_X11_card h 0 a b) (g := fun h => F_X12_card h 122 a b) (1, -1) i ?_ ?_
    · show F_X11_card h 0 a b = _
      unfold F_X11_card
      rw [g0_2, e]
      rfl
    · intro h' u
      show F_X12_card h' 122 a b = _
      unfold F_X12_card
      rcases m_isCard ok (u.rm rm) a with ⟨e, -⟩ | ⟨j, hj, ea, -⟩
      · rw [e]
        rfl
      · exact absurd ⟨j, hj, ea⟩ ne
  · obtain ⟨p, hp, he⟩ := deck_at ok hj
    rcases nI_cases b (n := 20) (by decide) with y | ⟨k, hk, rfl⟩
    · have y1 : b < 0 ∨ (¬ b < 0 ∧ ¬ b ≤ 19) := by
        rcases y with y | y
        · exact Or.inl y
        · exact Or.inr ⟨Int32.not_lt.mpr (Int32.le_trans (b := 20) (by decide) y), fun e => absurd (Int32.le_trans (a := 20) y e) (by decide)⟩
      refine op_2 (f := fun h => F_X11_card h 0 (nI j) b) (g := fun h => F_X12_card h 122 (nI j) b) (1, -1) i ?_ ?_
      · show F_X11_card h 0 (nI j) b = _
        unfold F_X11_card
        rw [g0_2, e]
        simp only [Option.bind_some]
        rw [if_neg (show ¬ (1 : Int32) = 0 by decide)]
        rcases y1 with y | y
        · rw [if_pos y]
          rfl
        · rw [if_neg y.1, if_neg y.2]
          rfl
      · intro h' u
        show F_X12_card h' 122 (nI j) b = _
        unfold F_X12_card
        rcases m_isCard ok (u.rm rm) (nI j) with ⟨-, e⟩ | ⟨-, -, -, e⟩
        · exact absurd ⟨j, hj, rfl⟩ e
        · rw [e]
          simp only [Option.bind_some]
          rw [if_neg (show ¬ (1 : Int32) = 0 by decide)]
          rcases y1 with y | y
          · rw [if_pos y]
            rfl
          · rw [if_neg y.1, if_neg y.2]
            rfl
    · exact op_2 (f := fun h => F_X11_card h 0 (nI j) (nI k)) (g := fun h => F_X12_card h 122 (nI j) (nI k)) _ i (c_card ok rc hj hp he hk) (fun h' u => m_card ok (u.rm rm) hj hp he hk)
