/-! ===== the invariant at the start ===== -/
def hoZ : Ho := (0, fun _ _ => 0, fun _ => 0, fun _ => 0, fun _ => 0, fun _ => 0, 0, (0, fun _ => 0, 0, fun _ => 0, fun _ => 0, 0, fun _ => 0, fun _ => 0), (0, fun _ => 0, fun _ => 0, fun _ => 0, fun _ => 0))
theorem hoZ_ok : HoOk 0 hoZ := by
  have z : ∀ i : Nat, ¬ i < 0 := Nat.not_lt_zero
  refine ⟨Nat.zero_le _, fun i hi => absurd hi (z i), fun i j hi => absurd hi (z i), ⟨Nat.zero_le _, Nat.zero_le _, Nat.zero_le _, fun k hk => absurd hk (z k), fun k hk => absurd hk (z k), fun k hk => absurd hk (z k)⟩, ⟨Nat.zero_le _, fun k hk => absurd hk (z k), fun o p _ hp => absurd hp (z p)⟩⟩
theorem inv_0 : Inv 0 h0 := by
  have z : ∀ i : Nat, ¬ i < 0 := Nat.not_lt_zero
  refine ⟨⟨hoZ, 0, fun _ => hoZ, hoZ_ok, ⟨⟨by decide +kernel, by decide +kernel, fun i hi => absurd hi (z i)⟩, ⟨by decide +kernel, by decide +kernel, fun i hi => absurd hi (z i), fun i hi => absurd hi (z i)⟩, ⟨by decide +kernel, fun i hi => absurd hi (z i)⟩⟩, ⟨⟨by decide +kernel, by decide +kernel, fun i hi => absurd hi (z i)⟩, ⟨by decide +kernel, by decide +kernel, by decide +kernel, fun i hi => absurd hi (z i), fun i hi => absurd hi (z i), fun i hi => absurd hi (z i)⟩, ⟨by decide +kernel, fun i hi => absurd hi (z i)⟩⟩, Nat.zero_le _, by decide +kernel, by decide +kernel, fun j hj => absurd hj (z j)⟩, ?_, ?_, ?_, ?_, ?_, ?_, ?_⟩
  · intro j hj
    exact Or.inl ((by decide +kernel : ∀ j, j < 4 → hI h0 (63 + 2 * j) 0 = 1 ∧ hI h0 125 j = -1) j hj)
  · exact ⟨0, fun _ => 0, Nat.zero_le _, by decide +kernel, by decide +kernel, fun i hi => absurd hi (z i)⟩
  · exact ⟨by decide +kernel, by decide +kernel, by decide +kernel, by decide +kernel, by decide +kernel⟩
  · exact Or.inl ⟨by decide +kernel, by decide +kernel⟩
  · exact Or.inl ⟨by decide +kernel, by decide +kernel⟩
  · exact Or.inl ⟨by decide +kernel, by decide +kernel⟩
  · exact Or.inl ⟨by decide +kernel, by decide +kernel⟩
