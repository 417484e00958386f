/-! ===== tray ===== -/
theorem m_trayL {h : Hp} {j n : Nat} (hj : j < 4) (hn : n ≤ 60) : ∃ h', L_X12_tray_49 h 122 (nI j) (nI n) 0 = some (uI h' 122 1 0, 1) ∧ hI h' = hI h ∧ (∀ d, d ≠ 126 → hL h' d = hL h d) ∧ (∀ k, k < n → hL h' 126 (60 * j + k) = 0) ∧ ∀ k, (k < 60 * j ∨ 60 * j + n ≤ k) → hL h' 126 k = hL h 126 k := by
  have key : ∃ r, L_X12_tray_49 h 122 (nI j) (nI n) 0 = some r ∧ ∃ h', r = (uI h' 122 1 0, 1) ∧ hI h' = hI h ∧ (∀ d, d ≠ 126 → hL h' d = hL h d) ∧ (∀ k, k < n → hL h' 126 (60 * j + k) = 0) ∧ ∀ k, (k < 60 * j ∨ 60 * j + n ≤ k) → hL h' 126 k = hL h 126 k := by
    refine iterW_inv (fun x s => s.2 = nI x ∧ hI s.1 = hI h ∧ (∀ d, d ≠ 126 → hL s.1 d = hL h d) ∧ (∀ k, k < x → hL s.1 126 (60 * j + k) = 0) ∧ ∀ k, (k < 60 * j ∨ 60 * j + n ≤ k) → hL s.1 126 k = hL h 126 k) _ n (fun x s hx p => ?_) (fun s p => ?_) ⟨rfl, rfl, fun _ _ => rfl, fun k hk => by omega, fun _ _ => rfl⟩
    · obtain ⟨p1, p2, p3, p4, p5⟩ := p
      refine ⟨(uL s.1 126 (60 * j + x) 0, nI (x + 1)), ?_, rfl, p2, fun d hd => by rw [hL_uL_o hd]; exact p3 d hd, fun k hk => ?_, fun k hk => by rw [hL_uL_s (by omega)]; exact p5 k hk⟩
      · show B_X12_tray_49 _ _ _ _ _ = _
        unfold B_X12_tray_49
        rw [p1, if_neg (nI_ge hx (by omega)), show (60 : Int32) * nI j + nI x = nI (60 * j + x) by rw [show (60 : Int32) = nI 60 by decide, nI_mul, nI_add], g122_6, n126, gd_on (ib_nI (by omega) (by decide)), nx_nI (by omega), nI_s]
      · by_cases e : k = x
        · rw [e, hL_uL_e]
        · rw [hL_uL_s (by omega)]
          exact p4 k (by omega)
    · obtain ⟨p1, p2, p3, p4, p5⟩ := p
      refine ⟨(uI s.1 122 1 0, 1), ?_, s.1, rfl, p2, p3, p4, p5⟩
      show B_X12_tray_49 _ _ _ _ _ = _
      unfold B_X12_tray_49 F_X12_is
      rw [p1, if_pos (Int32.le_refl _), if_pos rfl, Option.bind_some, and1_1]
  obtain ⟨r, e1, h', e2, e3⟩ := key
  exact ⟨h', by rw [e1, e2], e3⟩
