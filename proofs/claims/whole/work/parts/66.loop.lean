/-! ===== loops by what holds at each turn ===== -/
theorem iterW_inv {σ ρ : Type} {f : σ → Option (σ ⊕ ρ)} (P : Nat → σ → Prop) (Q : ρ → Prop) (n : Nat) (hs : ∀ j s, j < n → P j s → ∃ s', f s = some (.inl s') ∧ P (j + 1) s') (he : ∀ s, P n s → ∃ r, f s = some (.inr r) ∧ Q r) {s : σ} (h0 : P 0 s) : ∃ r, iterW f s = some r ∧ Q r := by
  have key : ∀ d j s, j + d = n → P j s → ∃ r, iterW f s = some r ∧ Q r := by
    intro d
    induction d with
    | zero =>
      intro j s e p
      have : j = n := by omega
      subst this
      obtain ⟨r, e1, e2⟩ := he s p
      exact ⟨r, iterW_end e1, e2⟩
    | succ d ih =>
      intro j s e p
      obtain ⟨s', e1, e2⟩ := hs j s (by omega) p
      rw [iterW_go e1]
      exact ih (j + 1) s' (by omega) e2
  exact key n 0 s (by omega) h0
theorem c_fillL {h : Hp} {c n : Nat} {v : Int64} (hl : LEN c = n) (hn : n < 2 ^ 31) : ∃ h', F_J7_fill_d0a16 h c v = some h' ∧ hI h' = hI h ∧ (∀ d, d ≠ c → hL h' d = hL h d) ∧ ∀ k, k < n → hL h' c k = v := by
  refine iterW_inv (fun j s => s.2 = nI j ∧ hI s.1 = hI h ∧ (∀ d, d ≠ c → hL s.1 d = hL h d) ∧ ∀ k, k < j → hL s.1 c k = v) (fun h' => hI h' = hI h ∧ (∀ d, d ≠ c → hL h' d = hL h d) ∧ ∀ k, k < n → hL h' c k = v) n (fun j s hj p => ?_) (fun s p => ?_) ⟨rfl, rfl, fun _ _ => rfl, fun k hk => by omega⟩
  · obtain ⟨p1, p2, p3, p4⟩ := p
    refine ⟨(uL s.1 c j v, nI (j + 1)), ?_, rfl, p2, fun d hd => by rw [hL_uL_o hd]; exact p3 d hd, fun k hk => ?_⟩
    · show B_J7_fill_d0a16_6 _ _ _ _ _ = _
      unfold B_J7_fill_d0a16_6
      rw [p1, hl, if_neg (nI_ge hj hn), gd_on (ib_nI hj hn), nx_nI (by omega), nI_s]
    · by_cases e : k = j
      · rw [e, hL_uL_e]
      · rw [hL_uL_s e]
        exact p4 k (by omega)
  · obtain ⟨p1, p2, p3, p4⟩ := p
    refine ⟨s.1, ?_, p2, p3, p4⟩
    show B_J7_fill_d0a16_6 _ _ _ _ _ = _
    unfold B_J7_fill_d0a16_6
    rw [p1, hl, if_pos (Int32.le_refl _)]
