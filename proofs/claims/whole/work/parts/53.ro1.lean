/-! ===== calls that only ask, I ===== -/
theorem rm_up {h : Hp} {b k : Nat} {v : Int32} {A : Ho} (r : RmH h b A) : RmH (uI h 0 k v) b A := RmH_congr (hI_uI_o (by decide)) r
theorem c_lies {h : Hp} {A : Ho} {q : Nat} (ok : HoOk q A) (rc : RcH h 3 A) (a : Int32) : F_X11_lies h 0 a = some (if a < 0 then (uI h 0 10 1, -1) else if nI (oN A) ≤ a then (uI h 0 10 6, -1) else (uI h 0 10 0, nI (oD A (nx a)))) := by
  unfold F_X11_lies F_X11_answer F_X11_refuse
  rw [g0_2, g3_7, n9, rc.1.1]
  by_cases h0 : 0 ≤ a
  · have h0' : ¬ a < 0 := Int32.not_lt.mpr h0
    rw [if_pos h0, if_neg h0']
    obtain ⟨j, hj, rfl⟩ := nI_of h0'
    by_cases hn : j < oN A
    · have hn30 := ok.1
      rw [if_pos (nI_lt hn (by omega)), if_neg (nI_ge hn (by omega)), gd_on (ib_nI (by omega) (by decide)), nx_nI hj]
      simp only [Option.bind_some]
      rw [(rc.1.2.2 j hn).2.2.2.2]
    · rw [if_neg (nI_nlt (by omega) hj), if_pos (nI_le (by omega) hj)]
      rfl
  · have h0' : a < 0 := Int32.not_le.mp h0
    rw [if_neg h0, if_pos h0']
    rfl
theorem m_lies {h : Hp} {A : Ho} {q : Nat} (ok : HoOk q A) (rm : RmH h 0 A) (a : Int32) : F_X12_lies h 122 a = some (if a < 0 then (uI h 122 1 1, -1) else if nI (oN A) ≤ a then (uI h 122 1 6, -1) else (uI h 122 1 0, nI (oD A (nx a)))) := by
  unfold F_X12_lies F_X12_gives F_X12_refuse
  have hn30 := ok.1
  have e0 : hI h 123 (nx 0) = nI (oN A) := rm.1.1
  rw [g122_0, n123, e0, gd_on (b := ib 0 4000) (by decide)]
  by_cases h0 : 0 ≤ a
  · have h0' : ¬ a < 0 := Int32.not_lt.mpr h0
    rw [if_pos h0, if_neg h0']
    obtain ⟨j, hj, rfl⟩ := nI_of h0'
    by_cases hn : j < oN A
    · rw [show (338 : Int32) = nI 338 by decide, nI_add]
      rw [if_pos (nI_lt hn (by omega)), if_neg (nI_ge hn (by omega)), gd_on (ib_nI (by omega) (by decide)), nx_nI (by omega), nx_nI hj]
      simp only [Option.bind_some]
      have := (rm.1.2.2 j hn).2.2.2.2
      rw [Nat.zero_add] at this
      rw [this]
    · rw [if_neg (nI_nlt (by omega) hj), if_pos (nI_le (by omega) hj)]
      rfl
  · have h0' : a < 0 := Int32.not_le.mp h0
    rw [if_neg h0, if_pos h0']
    rfl
/-- an answer with its status, on either side -/
def ans {α : Type} (h : Hp) (c k : Nat) (x : Int32 × α) : Hp × α := (uI h c k x.1, x.2)
theorem op_an {α : Type} {q : Nat} {h : Hp} {x : Int32 × α} {f g : Hp → Option (Hp × α)} (i : Inv q h) (hf : f h = some (ans h 0 10 x)) (hg : g (uI h 0 10 x.1) = some (ans (uI h 0 10 x.1) 122 1 x)) : ∃ h1 h2 r, f h = some (h1, r) ∧ g h1 = some (h2, r) ∧ Inv (q + 1) h2 := op_ro i hf hg
theorem op_lies (q : Nat) (h : Hp) (a : Int32) (_ : q < 512) (i : Inv q h) : ∃ h1 h2 r, F_X11_lies h 0 a = some (h1, r) ∧ F_X12_lies h1 122 a = some (h2, r) ∧ Inv (q + 1) h2 := by
  obtain ⟨A, m, Mk, ok, rc, rm, -⟩ := id i.1
  refine op_an (f := fun h => F_X11_lies h 0 a) (g := fun h => F_X12_lies h 122 a) (x := if a < 0 then (1, -1) else if nI (oN A) ≤ a then (6, -1) else (0, nI (oD A (nx a)))) i ?_ ?_
  · show F_X11_lies h 0 a = _
    rw [c_lies ok rc]
    by_cases h0 : a < 0 <;> by_cases h1 : nI (oN A) ≤ a <;> simp [h0, h1, ans]
  · show F_X12_lies _ 122 a = _
    rw [m_lies ok (rm_up rm)]
    by_cases h0 : a < 0 <;> by_cases h1 : nI (oN A) ≤ a <;> simp [h0, h1, ans]
