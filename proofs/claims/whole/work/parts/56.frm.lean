/-! ===== what stays when the house changes ===== -/
/-- the reference's house in slots b .. b+799 -/
theorem RmH_range {q : Nat} {h h' : Hp} {b : Nat} {A : Ho} (ok : HoOk q A) (e : ∀ k, b ≤ k → k < b + 800 → hI h' 123 k = hI h 123 k) (r : RmH h b A) : RmH h' b A := by
  have hn := ok.1
  have hB := ok.2.2.2.1
  have hS := ok.2.2.2.2
  obtain ⟨⟨c1, c2, c3⟩, ⟨b1, b2, b3, b4, b5, b6⟩, s1, s2⟩ := r
  refine ⟨⟨(e _ (by omega) (by omega)).trans c1, (e _ (by omega) (by omega)).trans c2, fun i hi => ?_⟩, ⟨(e _ (by omega) (by omega)).trans b1, (e _ (by omega) (by omega)).trans b2, (e _ (by omega) (by omega)).trans b3, fun k hk => ?_, fun m hm => ?_, fun k hk => ?_⟩, (e _ (by omega) (by omega)).trans s1, fun k hk => ?_⟩
  · obtain ⟨d1, d2, d3, d4, d5⟩ := c3 i hi
    exact ⟨fun k hk => (e _ (by omega) (by omega)).trans (d1 k hk), (e _ (by omega) (by omega)).trans d2, (e _ (by omega) (by omega)).trans d3, (e _ (by omega) (by omega)).trans d4, (e _ (by omega) (by omega)).trans d5⟩
  · have := hB.1
    exact (e _ (by omega) (by omega)).trans (b4 k hk)
  · have := hB.2.1
    exact ⟨(e _ (by omega) (by omega)).trans (b5 m hm).1, (e _ (by omega) (by omega)).trans (b5 m hm).2⟩
  · have := hB.2.2.1
    exact ⟨(e _ (by omega) (by omega)).trans (b6 k hk).1, (e _ (by omega) (by omega)).trans (b6 k hk).2⟩
  · have := hS.1
    obtain ⟨d1, d2, d3⟩ := s2 k hk
    exact ⟨(e _ (by omega) (by omega)).trans d1, fun x => ⟨(e _ (by omega) (by omega)).trans (d2 x).1, (e _ (by omega) (by omega)).trans (d2 x).2⟩, fun x => (e _ (by omega) (by omega)).trans (d3 x)⟩
/-- the house has changed, the marks have not -/
theorem Iho_set {q : Nat} {h h2 : Hp} {A' : Ho} {m : Nat} {Mk : Nat → Ho} (ok : HoOk (q + 1) A') (rc : RcH h2 3 A') (rm : RmH h2 0 A') (hm : m ≤ 3) (m1 : hI h2 0 14 = nI m) (m2 : hI h2 122 51 = nI m) (mk : ∀ j, j < m → HoOk q (Mk j) ∧ RcH h (71 + 17 * j) (Mk j) ∧ RmH h (800 + 800 * j) (Mk j)) (e1 : ∀ d, 71 ≤ d → d ≤ 121 → hI h2 d = hI h d) (e2 : ∀ k, 800 ≤ k → k < 3200 → hI h2 123 k = hI h 123 k) : Iho (q + 1) h2 :=
  ⟨A', m, Mk, ok, rc, rm, hm, m1, m2, fun j hj => ⟨(mk j hj).1.mono, RcH_congr (fun d a b => e1 d (by omega) (by omega)) (mk j hj).2.1, RmH_range (mk j hj).1 (fun k a b => e2 k (by omega) (by omega)) (mk j hj).2.2⟩⟩
theorem Itp_congr {h h' : Hp} (e1 : hI h' 0 13 = hI h 0 13) (e2 : hI h' 122 9 = hI h 122 9) (e3 : hI h' 2 = hI h 2) (e4 : hI h' 127 = hI h 127) (i : Itp h) : Itp h' := by
  unfold Itp at *
  rw [e1, e2, e3, e4]
  exact i
theorem Ipl_congr {h h' : Hp} (e1 : hI h' 44 = hI h 44) (e2 : hI h' 50 = hI h 50) (e3 : hI h' 139 = hI h 139) (e4 : hI h' 122 34 = hI h 122 34) (e5 : hI h' 122 35 = hI h 122 35) (i : Ipl h) : Ipl h' := by
  unfold Ipl at *
  rw [e1, e2, e3, e4, e5]
  exact i
theorem Irn_congr {h h' : Hp} (e1 : hI h' 40 = hI h 40) (e2 : hL h' 40 = hL h 40) (e3 : hL h' 122 36 = hL h 122 36) (e4 : hI h' 122 37 = hI h 122 37) (e5 : hI h' 122 38 = hI h 122 38) (i : Irn h) : Irn h' := by
  unfold Irn at *
  rw [e1, e2, e3, e4, e5]
  exact i
theorem Imi_congr {h h' : Hp} (e1 : hI h' 51 = hI h 51) (e2 : hI h' 52 = hI h 52) (e3 : hI h' 141 = hI h 141) (e4 : hI h' 142 = hI h 142) (e5 : hI h' 122 42 = hI h 122 42) (e6 : hI h' 122 43 = hI h 122 43) (i : Imi h) : Imi h' := by
  unfold Imi at *
  rw [e1, e2, e3, e4, e5, e6]
  exact i
theorem Ipa_congr {h h' : Hp} (e1 : hI h' 57 = hI h 57) (e2 : hI h' 58 = hI h 58) (e3 : hI h' 146 = hI h 146) (e5 : hI h' 122 49 = hI h 122 49) (e6 : hI h' 122 50 = hI h 122 50) (i : Ipa h) : Ipa h' := by
  unfold Ipa at *
  rw [e1, e2, e3, e5, e6]
  exact i
/-- all but cells in T, slot 10.. of 0 and slot 1.. of 122 are as they were -/
def Bt (T : Nat → Prop) (h h' : Hp) : Prop := (∀ d, d ≠ 0 → d ≠ 122 → ¬ T d → hI h' d = hI h d ∧ hL h' d = hL h d) ∧ (∀ k, 13 ≤ k → k ≤ 16 → hI h' 0 k = hI h 0 k) ∧ (∀ k, k ≠ 1 → hI h' 122 k = hI h 122 k) ∧ hL h' 0 = hL h 0 ∧ hL h' 122 = hL h 122
theorem Inv_bt {q : Nat} {h h' : Hp} {T : Nat → Prop} (e : Bt T h h') (hT : ∀ d, T d → (3 ≤ d ∧ d ≤ 39) ∨ d = 123) (io : Iho (q + 1) h') (st : hI h' 122 1 = hI h' 0 10) (i : Inv q h) : Inv (q + 1) h' := by
  obtain ⟨e1, e2, e3, e4, e5⟩ := e
  have E : ∀ d, d ≠ 0 → d ≠ 122 → (39 < d ∨ d < 3) → d ≠ 123 → hI h' d = hI h d ∧ hL h' d = hL h d := fun d a b c1 c2 => e1 d a b (fun t => by have := hT d t; omega)
  obtain ⟨-, i2, i3, i4, i5, i6, i7, i8⟩ := i
  refine ⟨io, Itr_congr (fun d _ _ => E d (by omega) (by omega) (by omega) (by omega)) (E 124 (by decide) (by decide) (by decide) (by decide)).1 (E 125 (by decide) (by decide) (by decide) (by decide)).1 (E 126 (by decide) (by decide) (by decide) (by decide)).2 i2, Itp_congr (e2 13 (by decide) (by decide)) (e3 9 (by decide)) (E 2 (by decide) (by decide) (by decide) (by decide)).1 (E 127 (by decide) (by decide) (by decide) (by decide)).1 i3, ⟨st, ?_, ?_, ?_, ?_⟩, Ipl_congr (E 44 (by decide) (by decide) (by decide) (by decide)).1 (E 50 (by decide) (by decide) (by decide) (by decide)).1 (E 139 (by decide) (by decide) (by decide) (by decide)).1 (e3 34 (by decide)) (e3 35 (by decide)) i5, Irn_congr (E 40 (by decide) (by decide) (by decide) (by decide)).1 (E 40 (by decide) (by decide) (by decide) (by decide)).2 (by rw [e5]) (e3 37 (by decide)) (e3 38 (by decide)) i6, Imi_congr (E 51 (by decide) (by decide) (by decide) (by decide)).1 (E 52 (by decide) (by decide) (by decide) (by decide)).1 (E 141 (by decide) (by decide) (by decide) (by decide)).1 (E 142 (by decide) (by decide) (by decide) (by decide)).1 (e3 42 (by decide)) (e3 43 (by decide)) i7, Ipa_congr (E 57 (by decide) (by decide) (by decide) (by decide)).1 (E 58 (by decide) (by decide) (by decide) (by decide)).1 (E 146 (by decide) (by decide) (by decide) (by decide)).1 (e3 49 (by decide)) (e3 50 (by decide)) i8⟩
  · rw [e4, e5]; exact i4.2.1
  · rw [e4, e5]; exact i4.2.2.1
  · rw [e3 15 (by decide), e2 15 (by decide) (by decide)]; exact i4.2.2.2.1
  · rw [e3 16 (by decide), e2 16 (by decide) (by decide)]; exact i4.2.2.2.2
