/-! ===== where a card lies ===== -/
theorem pig : ∀ (n : Nat) (f : Nat → Nat), (∀ i, i < n → f i < n) → (∀ i j, i < n → j < n → f i = f j → i = j) → ∀ y, y < n → ∃ i, i < n ∧ f i = y := by
  intro n
  induction n with
  | zero => intro f _ _ y hy; omega
  | succ n ih =>
    intro f hf hj y hy
    by_cases hn : f n = y
    · exact ⟨n, by omega, hn⟩
    · have hg : ∀ i, i < n → (if f i = n then f n else f i) < n := by
        intro i hi
        by_cases e : f i = n
        · rw [if_pos e]
          have h1 := hf n (by omega)
          have h2 : f n ≠ n := fun e2 => by have := hj i n (by omega) (by omega) (e.trans e2.symm); omega
          omega
        · rw [if_neg e]
          have h1 := hf i (by omega)
          omega
      have hi : ∀ i j, i < n → j < n → (if f i = n then f n else f i) = (if f j = n then f n else f j) → i = j := by
        intro i j hi hj' e
        by_cases e1 : f i = n
        · by_cases e2 : f j = n
          · exact hj i j (by omega) (by omega) (e1.trans e2.symm)
          · rw [if_pos e1, if_neg e2] at e
            have := hj n j (by omega) (by omega) e
            omega
        · by_cases e2 : f j = n
          · rw [if_neg e1, if_pos e2] at e
            have := hj i n (by omega) (by omega) e
            omega
          · rw [if_neg e1, if_neg e2] at e
            exact hj i j (by omega) (by omega) e
      have key := ih (fun i => if f i = n then f n else f i) hg hi
      by_cases hyn : y = n
      · have h1 := hf n (by omega)
        obtain ⟨i, hi1, hi2⟩ := key (f n) (by omega)
        by_cases e : f i = n
        · exact ⟨i, by omega, by omega⟩
        · have hi3 : f i = f n := by simpa [e] using hi2
          have := hj i n (by omega) (by omega) hi3
          omega
      · obtain ⟨i, hi1, hi2⟩ := key y (by omega)
        by_cases e : f i = n
        · have hi3 : f n = y := by simpa [e] using hi2
          exact absurd hi3 hn
        · exact ⟨i, by omega, by simpa [e] using hi2⟩
theorem deck_at {q : Nat} {A : Ho} (ok : HoOk q A) {i : Nat} (hi : i < oN A) : ∃ p, p < oN A ∧ oD A p = i := pig (oN A) (oD A) (fun j hj => (ok.2.1 j hj).2.2.2.2) ok.2.2.1 i hi
theorem nI_s (j : Nat) : nI j + 1 = nI (j + 1) := nI_add j 1
theorem c_placeOf {h : Hp} {A : Ho} {q p : Nat} (ok : HoOk q A) (rc : RcH h 3 A) (hp : p < oN A) : F_X2_placeOf h 3 (nI (oD A p)) = some (nI p) := by
  have hn := ok.1
  have hd := (ok.2.1 p hp).2.2.2.2
  refine iterW_for (fun j => ((if p < j then nI p else 0 : Int32), nI j)) (oN A) (fun j hj => ?_) ?_
  · show B_X2_placeOf_4 _ _ _ _ _ = _
    unfold B_X2_placeOf_4
    have hdj := (ok.2.1 j hj).2.2.2.2
    rw [rc.1.1, if_neg (nI_ge hj (by omega)), g3_7, n9, gd_on (ib_nI (by omega) (by decide)), nx_nI (by omega), (rc.1.2.2 j hj).2.2.2.2, nI_s]
    by_cases e : j = p
    · subst e
      rw [if_pos rfl, if_pos (Nat.lt_succ_self j)]
    · rw [if_neg (fun x => e (ok.2.2.1 j p hj hp (nI_inj (by omega) (by omega) x)))]
      by_cases l : p < j
      · rw [if_pos l, if_pos (by omega)]
      · rw [if_neg l, if_neg (by omega)]
  · show B_X2_placeOf_4 _ _ _ _ _ = _
    unfold B_X2_placeOf_4
    rw [rc.1.1, if_pos (Int32.le_refl _), if_pos hp]
theorem m_placeOf {h : Hp} {A : Ho} {q p : Nat} (ok : HoOk q A) (rm : RmH h 0 A) (hp : p < oN A) : F_X12_placeOf h 122 (nI (oD A p)) = some (nI p) := by
  have hn := ok.1
  have hd := (ok.2.1 p hp).2.2.2.2
  have E : ∀ j, j ≤ p → B_X12_placeOf_2 h 122 (nI (oD A p)) (nI j) = if oD A j = oD A p then some (.inr (nI j)) else some (.inl (nI (j + 1))) := by
    intro j hj
    have hdj := (ok.2.1 j (by omega)).2.2.2.2
    have e := (rm.1.2.2 j (by omega)).2.2.2.2
    rw [Nat.zero_add] at e
    unfold B_X12_placeOf_2
    rw [g122_0, n123, show (338 : Int32) = nI 338 by decide, nI_add, gd_on (ib_nI (by omega) (by decide)), nx_nI (by omega), e, nI_s]
    by_cases x : oD A j = oD A p
    · rw [if_pos x, x, if_pos rfl]
    · rw [if_neg x, if_neg (fun y => x (nI_inj (by omega) (by omega) y))]
  refine iterW_for (fun j => nI j) p (fun j hj => ?_) ?_
  · show B_X12_placeOf_2 _ _ _ _ = _
    rw [E j (by omega), if_neg (fun x => by have := ok.2.2.1 j p (by omega) hp x; omega)]
  · show B_X12_placeOf_2 _ _ _ _ = _
    rw [E p (by omega), if_pos rfl]
