theorem law_ok : ∀ (b L : Nat) (xs : Nat → Int32), L ≤ 3072 → ∃ h', L_L_law_18 h0 b L xs 0 122 0 = some (h', 1) := sorry
