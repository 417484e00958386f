/-! ===== trays ===== -/
theorem Inv_tray {q : Nat} {h h' : Hp} (e : Bt (fun d => (63 ≤ d ∧ d ≤ 70) ∨ (124 ≤ d ∧ d ≤ 126)) h h') (it : Itr h') (st : hI h' 122 1 = hI h' 0 10) (i : Inv q h) : Inv (q + 1) h' := by
  obtain ⟨e1, e2, e3, e4, e5⟩ := e
  have E : ∀ d, d ≠ 0 → d ≠ 122 → (d < 63 ∨ 70 < d) → (d < 124 ∨ 126 < d) → hI h' d = hI h d ∧ hL h' d = hL h d := fun d a b c1 c2 => e1 d a b (fun t => by omega)
  obtain ⟨i1, -, i3, i4, i5, i6, i7, i8⟩ := i
  refine ⟨Iho_congr (fun d _ _ => (E d (by omega) (by omega) (by omega) (by omega)).1) (fun d _ _ => (E d (by omega) (by omega) (by omega) (by omega)).1) (E 123 (by decide) (by decide) (by decide) (by decide)).1 (e2 14 (by decide) (by decide)) (e3 51 (by decide)) i1.mono, it, Itp_congr (e2 13 (by decide) (by decide)) (e3 9 (by decide)) (E 2 (by decide) (by decide) (by decide) (by decide)).1 (E 127 (by decide) (by decide) (by decide) (by decide)).1 i3, ⟨st, ?_, ?_, ?_, ?_⟩, Ipl_congr (E 44 (by decide) (by decide) (by decide) (by decide)).1 (E 50 (by decide) (by decide) (by decide) (by decide)).1 (E 139 (by decide) (by decide) (by decide) (by decide)).1 (e3 34 (by decide)) (e3 35 (by decide)) i5, Irn_congr (E 40 (by decide) (by decide) (by decide) (by decide)).1 (E 40 (by decide) (by decide) (by decide) (by decide)).2 (by rw [e5]) (e3 37 (by decide)) (e3 38 (by decide)) i6, Imi_congr (E 51 (by decide) (by decide) (by decide) (by decide)).1 (E 52 (by decide) (by decide) (by decide) (by decide)).1 (E 141 (by decide) (by decide) (by decide) (by decide)).1 (E 142 (by decide) (by decide) (by decide) (by decide)).1 (e3 42 (by decide)) (e3 43 (by decide)) i7, Ipa_congr (E 57 (by decide) (by decide) (by decide) (by decide)).1 (E 58 (by decide) (by decide) (by decide) (by decide)).1 (E 146 (by decide) (by decide) (by decide) (by decide)).1 (e3 49 (by decide)) (e3 50 (by decide)) i8⟩
  · rw [e4, e5]; exact i4.2.1
  · rw [e4, e5]; exact i4.2.2.1
  · rw [e3 15 (by decide), e2 15 (by decide) (by decide)]; exact i4.2.2.2.1
  · rw [e3 16 (by decide), e2 16 (by decide) (by decide)]; exact i4.2.2.2.2
theorem hL_uL_o {h : Hp} {c k d : Nat} {v : Int64} (hd : d ≠ c) : hL (uL h c k v) d = hL h d := by rw [hL_uL, if_neg hd]
theorem hL_uL_s {h : Hp} {c k j : Nat} {v : Int64} (hj : j ≠ k) : hL (uL h c k v) c j = hL h c j := by rw [hL_uL, if_pos rfl, updL_if, if_neg hj]
theorem hL_uL_e {h : Hp} {c k : Nat} {v : Int64} : hL (uL h c k v) c k = v := by rw [hL_uL, if_pos rfl, updL_if, if_pos rfl]
/-- a number cut to a sort -/
def cutN (s : Nat) (x : Int64) : Int64 := if s = 0 then x.toInt32.toInt8.toInt32.toInt64 else if s = 1 then x.toInt32.toInt16.toInt32.toInt64 else if s = 2 then x.toInt32.toInt64 else x
theorem c_cut {h : Hp} {c s : Nat} (hs : s < 4) (e : hI h c 1 = nI s) (x : Int64) : F_X10_cut h c x = some (cutN s x) := by
  unfold F_X10_cut cutN
  rw [e]
  have : s = 0 ∨ s = 1 ∨ s = 2 ∨ s = 3 := by omega
  rcases this with rfl | rfl | rfl | rfl <;> rfl
theorem m_cut {h : Hp} {s : Nat} (hs : s < 4) (x : Int64) : F_X12_cutTo h x (nI s) = some (cutN s x) := by
  unfold F_X12_cutTo cutN
  have : s = 0 ∨ s = 1 ∨ s = 2 ∨ s = 3 := by omega
  rcases this with rfl | rfl | rfl | rfl <;> rfl
theorem op_write (q : Nat) (h : Hp) (a b : Int32) (v : Int64) (_ : q < 512) (i : Inv q h) : ∃ h1 h2 r, F_X11_write h 0 a b v = some (h1, r) ∧ F_X12_write h1 122 a b v = some (h2, r) ∧ Inv (q + 1) h2 := by
  rcases plc h h (fun _ _ => ⟨rfl, rfl⟩) i.2.1 a b with ⟨s, hs, e1, -⟩ | ⟨j, k, n, rfl, rfl, hj, hk, hn, t1, t2, t3, t4, e1, -⟩
  · have s0 : s ≠ 0 := by rcases hs with e | e | e <;> rw [e] <;> decide
    refine op_2 (f := fun h => F_X11_write h 0 a b v) (g := fun h => F_X12_write h 122 a b v) (s, 0) i ?_ ?_
    · show F_X11_write h 0 a b v = _
      unfold F_X11_write
      rw [e1, Option.bind_some, if_neg s0]
      exact deny_b
    · intro h' u
      show F_X12_write h' 122 a b v = _
      unfold F_X12_write
      rcases plc h h' u i.2.1 a b with ⟨s', -, e1', e2⟩ | ⟨_, _, _, _, _, _, _, _, _, _, _, _, e1', _⟩
      · rw [e1, Option.some.injEq] at e1'
        subst e1'
        rw [e2, Option.bind_some, if_neg s0]
        exact is_b s0
      · rw [e1, Option.some.injEq] at e1'
        exact absurd e1' s0
  · rcases i.2.1 j hj with ⟨e0, -⟩ | ⟨-, n', s, hn', hs, d2, d3, d4, d5, d6⟩
    · rw [t1] at e0
      exact absurd e0 (by decide)
    · refine ⟨uI (uL h (64 + 2 * j) k (cutN s v)) 0 10 0, uI (uL (uI (uL h (64 + 2 * j) k (cutN s v)) 0 10 0) 126 (60 * j + k) (cutN s v)) 122 1 0, 1, ?_, ?_, ?_⟩
      · unfold F_X11_write F_X10_put
        rw [e1, Option.bind_some, if_pos rfl, g0_0, n1, gd_on (ib_nI hj (by decide)), nx_nI (by omega), gT j hj, c_cut hs d4, Option.bind_some, gT3 j hj, nT j hj, gd_on (ib_nI (by omega) (by decide)), nx_nI (by omega), Option.bind_some]
        exact agree_b
      · have u : Up h (uI (uL h (64 + 2 * j) k (cutN s v)) 0 10 0) := fun d hd => ⟨by rw [hI_uI_o (by omega), hI_uL], by rw [hL_uI, hL_uL_o (by omega)]⟩
        unfold F_X12_write
        rcases plc h _ u i.2.1 (nI j) (nI k) with ⟨s', hs, e1', e2⟩ | ⟨_, _, _, _, _, _, _, _, _, _, _, _, e1', e2⟩
        · rw [e1, Option.some.injEq] at e1'
          subst e1'
          rcases hs with e | e | e <;> exact absurd e (by decide)
        · rw [e2, Option.bind_some, if_pos rfl, g122_4, n124, gd_on (ib_nI hj (by decide)), nx_nI (by omega), (u 124 (by decide)).1, d5, m_cut hs, Option.bind_some, show (60 : Int32) = nI 60 by decide, nI_mul, nI_add, g122_6, n126, gd_on (ib_nI (by omega) (by decide)), nx_nI (by omega)]
          exact is_b0
      · refine Inv_tray (h := h) ⟨fun d d0 d1 t => ⟨?_, ?_⟩, fun x k1 k2 => ?_, fun x k1 => ?_, ?_, ?_⟩ ?_ ?_ i
        · rw [hI_uI_o d1, hI_uL, hI_uI_o d0, hI_uL]
        · rw [hL_uI, hL_uL_o (by omega), hL_uI, hL_uL_o (by omega)]
        · rw [hI_uI_o (by decide), hI_uL, hI_uI_s (by omega), hI_uL]
        · rw [hI_uI_s k1, hI_uL, hI_uI_o (by decide), hI_uL]
        · rw [hL_uI, hL_uL_o (by decide), hL_uI, hL_uL_o (by omega)]
        · rw [hL_uI, hL_uL_o (by decide), hL_uI, hL_uL_o (by omega)]
        · have E : ∀ d, d ≠ 0 → d ≠ 122 → hI (uI (uL (uI (uL h (64 + 2 * j) k (cutN s v)) 0 10 0) 126 (60 * j + k) (cutN s v)) 122 1 0) d = hI h d := fun d a b => by rw [hI_uI_o b, hI_uL, hI_uI_o a, hI_uL]
          intro x hx
          rw [E _ (by omega) (by omega), E 125 (by decide) (by decide), E 124 (by decide) (by decide)]
          rcases i.2.1 x hx with y | ⟨y0, ny, sy, y1, y2, y3, y4, y5, y6, y7⟩
          · exact Or.inl y
          · refine Or.inr ⟨y0, ny, sy, y1, y2, y3, y4, y5, y6, fun z hz => ?_⟩
            rw [hL_uI]
            by_cases c : x = j ∧ z = k
            · rw [c.1, c.2, hL_uL_e, hL_uL_o (by omega), hL_uI, hL_uL_e]
            · rw [hL_uL_s (j := 60 * x + z) (by omega), hL_uL_o (d := 64 + 2 * x) (by omega), hL_uI, hL_uL_o (d := 126) (by omega)]
              by_cases cx : x = j
              · subst cx
                rw [hL_uL_s (by omega)]
                exact y7 z hz
              · rw [hL_uL_o (by omega)]
                exact y7 z hz
        · rw [hI_uI_e, hI_uI_o (by decide), hI_uL, hI_uI_e]
