/-! ===== parts, the call ===== -/
theorem shut_n {a : Nat → Bool} {f : Nat} (h : a f = false) : shut a f = a := by
  funext c
  unfold shut
  by_cases e : c = f
  · rw [e, h, Bool.false_and]
  · rw [decide_eq_true e, Bool.and_true]
def rvS (A : Ho) (a b f : Nat) : Nat := if w0P A a b f = 0 then 1 else if w1P A a b f = 0 then 0 else 2
theorem rv_sd {A : Ho} {q a b f : Nat} (ok : HoOk q A) (h1 : 0 < f) (h2 : f ≤ oN A) (t : wtP A a b ≠ 0) : sdV A a b f = nI (rvS A a b f) := by
  have sp := wtP_sp (a := a) (b := b) h1 h2
  have K := (ok.2.1 (oD A (f - 1)) ((ok.2.1 (f - 1) (by omega)).2.2.2.2)).2.2.1
  have ew : wtP A a b = wt (a0P A) (a1P A) (ltP A a b) (oN A - 1) := by unfold wtP; rw [if_neg (by omega)]
  unfold sdV rvS
  by_cases km : oK A (oD A (f - 1)) = mN
  · rw [if_pos km]
    by_cases z : w0P A a b f = 0
    · rw [if_pos z, if_pos z]
    · rw [if_neg z, if_neg z]
      by_cases z1 : w1P A a b f = 0
      · rw [if_pos (by omega), if_pos z1]
      · rw [if_neg (by omega), if_neg z1]
  · rw [if_neg km]
    rcases K with k | k | k
    · exact absurd k km
    · have : a1P A f = false := by unfold a1P; rw [k]; rfl
      have e0 : w0P A a b f = wtP A a b := by rw [ew]; unfold w0P; rw [shut_n this]
      rw [if_neg (by omega), if_pos (by omega), k]
      rfl
    · have : a0P A f = false := by unfold a0P; rw [k]; rfl
      have e0 : w1P A a b f = wtP A a b := by rw [ew]; unfold w1P; rw [shut_n this]
      rw [if_pos (by omega), k]
      rfl
theorem MP_of {h : Hp} {A : Ho} {q a b : Nat} (ok : HoOk q A) (rm : RmH h 0 A) (h6 : b < a + 6) (g : goodS A a b (oN A) = true) (s : ∀ k, k < oN A → hI h 143 (k + 1) = oI (fld A (oD A k) a b)) : MP h A (a0P A) (a1P A) (ltP A a b) mN (nI 0) ∧ ∀ f, f < oN A → MP h A (a0P A) (shut (a1P A) (f + 1)) (ltP A a b) (nI (oD A f)) (nI 0) ∧ MP h A (shut (a0P A) (f + 1)) (a1P A) (ltP A a b) (nI (oD A f)) (nI 1) := by
  have hA := ok.1
  have dd : ∀ v w, v < oN A → w < oN A → oD A v = oD A w → v = w := ok.2.2.1
  have dl := fun m (hm : m < oN A) => (ok.2.1 m hm).2.2.2.2
  have sv : ∀ c, 1 ≤ c → c ≤ oN A → hI h 143 c = nI (svP A a b c) ∧ svP A a b c < 1000000 := by
    intro c c1 c2
    obtain ⟨k, rfl⟩ : ∃ k, c = k + 1 := ⟨c - 1, by omega⟩
    rw [s k (by omega), good_sv g (by omega)]
    exact ⟨rfl, sv_lt h6 g (by omega)⟩
  have S : ∀ x c, x ≠ 0 → x < c → c ≤ oN A → (hI h 143 c ≤ hI h 143 x) = (ltP A a b x c = false) := by
    intro x c x0 hx c2
    have c3 := sv c (by omega) c2
    have c5 := sv x (by omega) (by omega)
    have c4 := c3.2
    have c6 := c5.2
    rw [c3.1, c5.1]
    unfold ltP
    generalize svP A a b c = v at *
    generalize svP A a b x = u at *
    by_cases l : v ≤ u
    · rw [decide_eq_false (by omega)]
      exact propext ⟨fun _ => rfl, fun _ => (by simp (disch := omega) only [↓m1_n, li_n, li_0, li_1, lt_y, lt_n, le_y, le_n, eq_n, nL, nLe, nEq, nEm, mEn, nLm, mLn, nLem, mLen, nI_add, nI_mul, nI_sub, nI_m, ib_nI, nx_nI, gd_y, bnd_e, bind_y, ↓reduceIte, hI_uI_o, hI_uI_s, hI_uI_e, hL_uI, hI_uL, hL_uL_o, hL_uL_s, hL_uL_e, and1_a, and1_b, Bool.not_true, Bool.not_false, Nat.zero_add, Nat.add_zero, Nat.add_sub_cancel, eq_self, ne_b, g0_0, g0_1, g0_2, g0_3, g0_4, g0_5, g0_6, g0_7, g0_8, g0_9, n1, n2, g3_2, g3_3, g3_4, g3_5, g3_6, g3_7, g3_8, g3_9, n4, n5, n6, n7, n8, n9, g10_2, g10_3, g10_4, g10_5, n11, n12, n13, n14, g15_2, g15_3, g15_4, g15_5, n16, n17, n18, n19, g40_0, g40_1, g40_2, g44_0, g44_2, g44_3, g44_5, g44_6, g44_10, g51_3, g51_4, g51_5, g51_6, g51_7, g57_3, g57_4, g57_5, g57_6, g57_7, n120, n121, g122_0, g122_4, g122_5, g122_6, g122_7, g122_8, g122_18, g122_19, g122_20, g122_21, g122_24, g122_25, g122_28, g122_29, g122_31, g122_32, g122_33, g122_39, g122_40, g122_41, g122_45, g122_46, g122_47, g122_48, n123, n124, n125, n126, n127, n128, n129, n130, n131, n132, n133, n134, n135, n136, n137, n138, n139, n140, n141, n142, n143, n144, n145, n146])⟩
    · rw [decide_eq_true (Or.inr (by omega))]
      exact propext ⟨fun e => absurd e (by simp (disch := omega) only [↓m1_n, li_n, li_0, li_1, lt_y, lt_n, le_y, le_n, eq_n, nL, nLe, nEq, nEm, mEn, nLm, mLn, nLem, mLen, nI_add, nI_mul, nI_sub, nI_m, ib_nI, nx_nI, gd_y, bnd_e, bind_y, ↓reduceIte, hI_uI_o, hI_uI_s, hI_uI_e, hL_uI, hI_uL, hL_uL_o, hL_uL_s, hL_uL_e, and1_a, and1_b, Bool.not_true, Bool.not_false, Nat.zero_add, Nat.add_zero, Nat.add_sub_cancel, eq_self, ne_b, g0_0, g0_1, g0_2, g0_3, g0_4, g0_5, g0_6, g0_7, g0_8, g0_9, n1, n2, g3_2, g3_3, g3_4, g3_5, g3_6, g3_7, g3_8, g3_9, n4, n5, n6, n7, n8, n9, g10_2, g10_3, g10_4, g10_5, n11, n12, n13, n14, g15_2, g15_3, g15_4, g15_5, n16, n17, n18, n19, g40_0, g40_1, g40_2, g44_0, g44_2, g44_3, g44_5, g44_6, g44_10, g51_3, g51_4, g51_5, g51_6, g51_7, g57_3, g57_4, g57_5, g57_6, g57_7, n120, n121, g122_0, g122_4, g122_5, g122_6, g122_7, g122_8, g122_18, g122_19, g122_20, g122_21, g122_24, g122_25, g122_28, g122_29, g122_31, g122_32, g122_33, g122_39, g122_40, g122_41, g122_45, g122_46, g122_47, g122_48, n123, n124, n125, n126, n127, n128, n129, n130, n131, n132, n133, n134, n135, n136, n137, n138, n139, n140, n141, n142, n143, n144, n145, n146, not_false_eq_true]), fun e => absurd e.symm Bool.false_ne_true⟩
  have Z : ∀ c, ltP A a b 0 c = true := fun c => decide_eq_true (Or.inl rfl)
  have K0 : ∀ c, c < oN A → (a0P A (c + 1) = true) = (oK A (oD A c) = mN ∨ oK A (oD A c) = nI 0) ∧ (a1P A (c + 1) = true) = (oK A (oD A c) = mN ∨ oK A (oD A c) = nI 1) := by
    intro c hc
    have K := (ok.2.1 (oD A c) (dl c hc)).2.2.1
    unfold a0P a1P
    rw [Nat.add_sub_cancel]
    have K : oK A (oD A c) = mN ∨ oK A (oD A c) = nI 0 ∨ oK A (oD A c) = nI 1 := K
    rcases K with k | k | k <;> rw [k] <;> exact ⟨by decide, by decide⟩
  have ne : ∀ c, c < oN A → ¬ nI (oD A c) = mN := fun c hc => by
    have := dl c hc
    generalize oD A c = v at *
    simp (disch := omega) only [↓m1_n, li_n, li_0, li_1, lt_y, lt_n, le_y, le_n, eq_n, nL, nLe, nEq, nEm, mEn, nLm, mLn, nLem, mLen, nI_add, nI_mul, nI_sub, nI_m, ib_nI, nx_nI, gd_y, bnd_e, bind_y, ↓reduceIte, hI_uI_o, hI_uI_s, hI_uI_e, hL_uI, hI_uL, hL_uL_o, hL_uL_s, hL_uL_e, and1_a, and1_b, Bool.not_true, Bool.not_false, Nat.zero_add, Nat.add_zero, Nat.add_sub_cancel, eq_self, ne_b, g0_0, g0_1, g0_2, g0_3, g0_4, g0_5, g0_6, g0_7, g0_8, g0_9, n1, n2, g3_2, g3_3, g3_4, g3_5, g3_6, g3_7, g3_8, g3_9, n4, n5, n6, n7, n8, n9, g10_2, g10_3, g10_4, g10_5, n11, n12, n13, n14, g15_2, g15_3, g15_4, g15_5, n16, n17, n18, n19, g40_0, g40_1, g40_2, g44_0, g44_2, g44_3, g44_5, g44_6, g44_10, g51_3, g51_4, g51_5, g51_6, g51_7, g57_3, g57_4, g57_5, g57_6, g57_7, n120, n121, g122_0, g122_4, g122_5, g122_6, g122_7, g122_8, g122_18, g122_19, g122_20, g122_21, g122_24, g122_25, g122_28, g122_29, g122_31, g122_32, g122_33, g122_39, g122_40, g122_41, g122_45, g122_46, g122_47, g122_48, n123, n124, n125, n126, n127, n128, n129, n130, n131, n132, n133, n134, n135, n136, n137, n138, n139, n140, n141, n142, n143, n144, n145, n146, not_false_eq_true]
  have eqD : ∀ c f, c < oN A → f < oN A → (nI (oD A c) = nI (oD A f)) = (c = f) := fun c f hc hf => by
    refine propext ⟨fun e => dd c f hc hf ((nI_eq (by have := dl c hc; omega) (by have := dl f hf; omega)).mp e), fun e => by rw [e]⟩
  refine ⟨⟨rm, fun c hc => ⟨?_, ?_⟩, S, Z⟩, fun f hf => ⟨⟨rm, fun c hc => ⟨?_, ?_⟩, S, Z⟩, ⟨rm, fun c hc => ⟨?_, ?_⟩, S, Z⟩⟩⟩
  · rw [(K0 c hc).1]
    exact propext ⟨fun e => ⟨e, fun t => absurd t (ne c hc)⟩, fun e => e.1⟩
  · rw [(K0 c hc).2]
    exact propext ⟨fun e => ⟨e, fun t => absurd t (ne c hc)⟩, fun e => e.1⟩
  · rw [(K0 c hc).1]
    exact propext ⟨fun e => ⟨e, fun _ => rfl⟩, fun e => e.1⟩
  · rw [eqD c f hc hf]
    by_cases e : c = f
    · subst e
      rw [shut_e]
      exact propext ⟨fun t => absurd t Bool.false_ne_true, fun t => absurd (t.2 rfl) (by decide)⟩
    · rw [shut_o (by omega), (K0 c hc).2]
      exact propext ⟨fun t => ⟨t, fun z => absurd z e⟩, fun t => t.1⟩
  · rw [eqD c f hc hf]
    by_cases e : c = f
    · subst e
      rw [shut_e]
      exact propext ⟨fun t => absurd t Bool.false_ne_true, fun t => absurd (t.2 rfl) (by decide)⟩
    · rw [shut_o (by omega), (K0 c hc).1]
      exact propext ⟨fun t => ⟨t, fun z => absurd z e⟩, fun t => t.1⟩
  · rw [(K0 c hc).2]
    exact propext ⟨fun e => ⟨e, fun _ => rfl⟩, fun e => e.1⟩
/-- the loop over the cards -/
theorem m_115 {h : Hp} {A : Ho} {q a b : Nat} (ok : HoOk q A) (rm : RmH h 0 A) (h6 : b < a + 6) (g : goodS A a b (oN A) = true) (s : ∀ k, k < oN A → hI h 143 (k + 1) = oI (fld A (oD A k) a b)) (w : hI h 122 50 = nI (wtP A a b)) (t : wtP A a b ≠ 0) : ∃ h', L_X12_parts_115 h 122 (nI (oN A)) (nI 0) = some (uI h' 122 1 (nI 0), nI (wtP A a b)) ∧ (∀ k, k < oN A → hI h' 146 (oD A k) = sdV A a b (k + 1)) ∧ (∀ e, e ≠ 144 → e ≠ 145 → e ≠ 146 → hI h' e = hI h e) ∧ hL h' = hL h := by
  have hA := ok.1
  have wl := wtP_le (A := A) (a := a) (b := b) hA
  have key := iterW_inv (f := fun s : Hp × Int32 => B_X12_parts_115 s.1 122 (nI (oN A)) s.2) (fun m s => s.2 = nI m ∧ (∀ k, k < oN A → oD A k < m → hI s.1 146 (oD A k) = sdV A a b (k + 1)) ∧ (∀ e, e ≠ 144 → e ≠ 145 → e ≠ 146 → hI s.1 e = hI h e) ∧ hL s.1 = hL h) (fun r => ∃ h', r = (uI h' 122 1 (nI 0), nI (wtP A a b)) ∧ (∀ k, k < oN A → hI h' 146 (oD A k) = sdV A a b (k + 1)) ∧ (∀ e, e ≠ 144 → e ≠ 145 → e ≠ 146 → hI h' e = hI h e) ∧ hL h' = hL h) (oN A) (fun m s' hm P => ?_) (fun s' P => ?_) (s := (h, nI 0)) ⟨rfl, fun k _ z => absurd z (Nat.not_lt_zero _), fun _ _ _ _ => rfl, rfl⟩
  · obtain ⟨r, k1, h', k2, k3⟩ := key
    rw [k2] at k1
    exact ⟨h', k1, k3⟩
  · obtain ⟨hx, x5⟩ := s'
    obtain ⟨e5, p1, p2, p3⟩ := P
    have e5 : x5 = nI m := e5
    subst e5
    have p2 : ∀ e, e ≠ 144 → e ≠ 145 → e ≠ 146 → hI hx e = hI h e := p2
    obtain ⟨f, hf, ef⟩ := deck_at ok hm
    have gx : ∀ hy : Hp, (∀ e, e ≠ 144 → e ≠ 145 → e ≠ 146 → hI hy e = hI h e) → MP hy A (a0P A) (shut (a1P A) (f + 1)) (ltP A a b) (nI m) (nI 0) ∧ MP hy A (shut (a0P A) (f + 1)) (a1P A) (ltP A a b) (nI m) (nI 1) := fun hy py => by
      have := (MP_of ok (RmH_congr (py 123 (by decide) (by decide) (by decide)) rm) h6 g (fun k hk => by rw [py 143 (by decide) (by decide) (by decide)]; exact s k hk)).2 f hf
      rw [ef] at this
      exact this
    obtain ⟨h1, b1, b2, b3⟩ := m_ways ok (gx hx p2).1
    have p4 : ∀ e, e ≠ 144 → e ≠ 145 → e ≠ 146 → hI h1 e = hI h e := fun e z1 z2 z3 => (b2 e z1 z2).trans (p2 e z1 z2 z3)
    obtain ⟨h2, c1, c2, c3⟩ := m_ways ok (gx h1 p4).2
    have w0 : (if oN A = 0 then 1 else wt (a0P A) (shut (a1P A) (f + 1)) (ltP A a b) (oN A - 1)) = w0P A a b (f + 1) := by rw [if_neg (by omega)]; rfl
    have w1 : (if oN A = 0 then 1 else wt (shut (a0P A) (f + 1)) (a1P A) (ltP A a b) (oN A - 1)) = w1P A a b (f + 1) := by rw [if_neg (by omega)]; rfl
    rw [w0] at b1
    rw [w1] at c1
    have sp := wtP_sp (A := A) (a := a) (b := b) (c := f + 1) (by omega) (by omega)
    have wx : hI hx 122 50 = nI (wtP A a b) := by rw [p2 122 (by decide) (by decide) (by decide)]; exact w
    have sd := rv_sd (a := a) (b := b) (f := f + 1) ok (by omega) (by omega) t
    have fin : ∀ hy : Hp, (∀ e, e ≠ 144 → e ≠ 145 → hI hy e = hI hx e) → hL hy = hL hx → B_X12_parts_115 hx 122 (nI (oN A)) (nI m) = some (.inl (uI hy 146 m (nI (rvS A a b (f + 1))), nI (m + 1))) → ∃ s', B_X12_parts_115 hx 122 (nI (oN A)) (nI m) = some (.inl s') ∧ (s'.2 = nI (m + 1) ∧ (∀ k, k < oN A → oD A k < m + 1 → hI s'.1 146 (oD A k) = sdV A a b (k + 1)) ∧ (∀ e, e ≠ 144 → e ≠ 145 → e ≠ 146 → hI s'.1 e = hI h e) ∧ hL s'.1 = hL h) := by
      intro hy y1 y2 y3
      refine ⟨_, y3, rfl, fun k hk z => ?_, fun e z1 z2 z3 => ?_, y2.trans p3⟩
      · show hI (uI hy 146 m (nI (rvS A a b (f + 1)))) 146 (oD A k) = _
        by_cases e : oD A k = m
        · have : k = f := ok.2.2.1 k f hk hf (by rw [e, ef])
          subst this
          rw [e, hI_uI_e, sd]
        · rw [hI_uI_s e, y1 146 (by decide) (by decide)]
          exact p1 k hk (by omega)
      · show hI (uI hy 146 m (nI (rvS A a b (f + 1)))) e = _
        rw [hI_uI_o z3, y1 e z1 z2, p2 e z1 z2 z3]
    show ∃ s', B_X12_parts_115 hx 122 (nI (oN A)) (nI m) = some (.inl s') ∧ _
    unfold rvS at fin
    generalize w0P A a b (f + 1) = u0 at *
    generalize w1P A a b (f + 1) = u1 at *
    generalize wtP A a b = u at *
    by_cases z0 : u0 = 0
    · refine fin h1 b2 b3 ?_
      unfold B_X12_parts_115 J_X12_parts_143 J_X12_parts_170
      subst z0
      simp (disch := omega) only [↓m1_n, li_n, li_0, li_1, lt_y, lt_n, le_y, le_n, eq_n, nL, nLe, nEq, nEm, mEn, nLm, mLn, nLem, mLen, nI_add, nI_mul, nI_sub, nI_m, ib_nI, nx_nI, gd_y, bnd_e, bind_y, ↓reduceIte, hI_uI_o, hI_uI_s, hI_uI_e, hL_uI, hI_uL, hL_uL_o, hL_uL_s, hL_uL_e, and1_a, and1_b, Bool.not_true, Bool.not_false, Nat.zero_add, Nat.add_zero, Nat.add_sub_cancel, eq_self, ne_b, g0_0, g0_1, g0_2, g0_3, g0_4, g0_5, g0_6, g0_7, g0_8, g0_9, n1, n2, g3_2, g3_3, g3_4, g3_5, g3_6, g3_7, g3_8, g3_9, n4, n5, n6, n7, n8, n9, g10_2, g10_3, g10_4, g10_5, n11, n12, n13, n14, g15_2, g15_3, g15_4, g15_5, n16, n17, n18, n19, g40_0, g40_1, g40_2, g44_0, g44_2, g44_3, g44_5, g44_6, g44_10, g51_3, g51_4, g51_5, g51_6, g51_7, g57_3, g57_4, g57_5, g57_6, g57_7, n120, n121, g122_0, g122_4, g122_5, g122_6, g122_7, g122_8, g122_18, g122_19, g122_20, g122_21, g122_24, g122_25, g122_28, g122_29, g122_31, g122_32, g122_33, g122_39, g122_40, g122_41, g122_45, g122_46, g122_47, g122_48, n123, n124, n125, n126, n127, n128, n129, n130, n131, n132, n133, n134, n135, n136, n137, n138, n139, n140, n141, n142, n143, n144, n145, n146, n146, wx, b1]
    · by_cases z1 : u1 = 0
      · refine fin h2 (fun e x y => (c2 e x y).trans (b2 e x y)) (c3.trans b3) ?_
        unfold B_X12_parts_115 J_X12_parts_143 J_X12_parts_170
        subst z1
        simp (disch := omega) only [↓m1_n, li_n, li_0, li_1, lt_y, lt_n, le_y, le_n, eq_n, nL, nLe, nEq, nEm, mEn, nLm, mLn, nLem, mLen, nI_add, nI_mul, nI_sub, nI_m, ib_nI, nx_nI, gd_y, bnd_e, bind_y, ↓reduceIte, hI_uI_o, hI_uI_s, hI_uI_e, hL_uI, hI_uL, hL_uL_o, hL_uL_s, hL_uL_e, and1_a, and1_b, Bool.not_true, Bool.not_false, Nat.zero_add, Nat.add_zero, Nat.add_sub_cancel, eq_self, ne_b, g0_0, g0_1, g0_2, g0_3, g0_4, g0_5, g0_6, g0_7, g0_8, g0_9, n1, n2, g3_2, g3_3, g3_4, g3_5, g3_6, g3_7, g3_8, g3_9, n4, n5, n6, n7, n8, n9, g10_2, g10_3, g10_4, g10_5, n11, n12, n13, n14, g15_2, g15_3, g15_4, g15_5, n16, n17, n18, n19, g40_0, g40_1, g40_2, g44_0, g44_2, g44_3, g44_5, g44_6, g44_10, g51_3, g51_4, g51_5, g51_6, g51_7, g57_3, g57_4, g57_5, g57_6, g57_7, n120, n121, g122_0, g122_4, g122_5, g122_6, g122_7, g122_8, g122_18, g122_19, g122_20, g122_21, g122_24, g122_25, g122_28, g122_29, g122_31, g122_32, g122_33, g122_39, g122_40, g122_41, g122_45, g122_46, g122_47, g122_48, n123, n124, n125, n126, n127, n128, n129, n130, n131, n132, n133, n134, n135, n136, n137, n138, n139, n140, n141, n142, n143, n144, n145, n146, n146, wx, b1, c1, z0]
      · refine fin h2 (fun e x y => (c2 e x y).trans (b2 e x y)) (c3.trans b3) ?_
        unfold B_X12_parts_115 J_X12_parts_143 J_X12_parts_170
        simp (disch := omega) only [↓m1_n, li_n, li_0, li_1, lt_y, lt_n, le_y, le_n, eq_n, nL, nLe, nEq, nEm, mEn, nLm, mLn, nLem, mLen, nI_add, nI_mul, nI_sub, nI_m, ib_nI, nx_nI, gd_y, bnd_e, bind_y, ↓reduceIte, hI_uI_o, hI_uI_s, hI_uI_e, hL_uI, hI_uL, hL_uL_o, hL_uL_s, hL_uL_e, and1_a, and1_b, Bool.not_true, Bool.not_false, Nat.zero_add, Nat.add_zero, Nat.add_sub_cancel, eq_self, ne_b, g0_0, g0_1, g0_2, g0_3, g0_4, g0_5, g0_6, g0_7, g0_8, g0_9, n1, n2, g3_2, g3_3, g3_4, g3_5, g3_6, g3_7, g3_8, g3_9, n4, n5, n6, n7, n8, n9, g10_2, g10_3, g10_4, g10_5, n11, n12, n13, n14, g15_2, g15_3, g15_4, g15_5, n16, n17, n18, n19, g40_0, g40_1, g40_2, g44_0, g44_2, g44_3, g44_5, g44_6, g44_10, g51_3, g51_4, g51_5, g51_6, g51_7, g57_3, g57_4, g57_5, g57_6, g57_7, n120, n121, g122_0, g122_4, g122_5, g122_6, g122_7, g122_8, g122_18, g122_19, g122_20, g122_21, g122_24, g122_25, g122_28, g122_29, g122_31, g122_32, g122_33, g122_39, g122_40, g122_41, g122_45, g122_46, g122_47, g122_48, n123, n124, n125, n126, n127, n128, n129, n130, n131, n132, n133, n134, n135, n136, n137, n138, n139, n140, n141, n142, n143, n144, n145, n146, n146, wx, b1, c1, z0, z1]
  · obtain ⟨hx, x5⟩ := s'
    obtain ⟨e5, p1, p2, p3⟩ := P
    have e5 : x5 = nI (oN A) := e5
    subst e5
    have p2 : ∀ e, e ≠ 144 → e ≠ 145 → e ≠ 146 → hI hx e = hI h e := p2
    have wx : hI hx 122 50 = nI (wtP A a b) := by rw [p2 122 (by decide) (by decide) (by decide)]; exact w
    refine ⟨(uI hx 122 1 (nI 0), nI (wtP A a b)), ?_, hx, rfl, fun k hk => p1 k hk ((ok.2.1 k hk).2.2.2.2), p2, p3⟩
    show B_X12_parts_115 hx 122 (nI (oN A)) (nI (oN A)) = _
    unfold B_X12_parts_115
    simp (disch := omega) only [↓m1_n, li_n, li_0, li_1, lt_y, lt_n, le_y, le_n, eq_n, nL, nLe, nEq, nEm, mEn, nLm, mLn, nLem, mLen, nI_add, nI_mul, nI_sub, nI_m, ib_nI, nx_nI, gd_y, bnd_e, bind_y, ↓reduceIte, hI_uI_o, hI_uI_s, hI_uI_e, hL_uI, hI_uL, hL_uL_o, hL_uL_s, hL_uL_e, and1_a, and1_b, Bool.not_true, Bool.not_false, Nat.zero_add, Nat.add_zero, Nat.add_sub_cancel, eq_self, ne_b, g0_0, g0_1, g0_2, g0_3, g0_4, g0_5, g0_6, g0_7, g0_8, g0_9, n1, n2, g3_2, g3_3, g3_4, g3_5, g3_6, g3_7, g3_8, g3_9, n4, n5, n6, n7, n8, n9, g10_2, g10_3, g10_4, g10_5, n11, n12, n13, n14, g15_2, g15_3, g15_4, g15_5, n16, n17, n18, n19, g40_0, g40_1, g40_2, g44_0, g44_2, g44_3, g44_5, g44_6, g44_10, g51_3, g51_4, g51_5, g51_6, g51_7, g57_3, g57_4, g57_5, g57_6, g57_7, n120, n121, g122_0, g122_4, g122_5, g122_6, g122_7, g122_8, g122_18, g122_19, g122_20, g122_21, g122_24, g122_25, g122_28, g122_29, g122_31, g122_32, g122_33, g122_39, g122_40, g122_41, g122_45, g122_46, g122_47, g122_48, n123, n124, n125, n126, n127, n128, n129, n130, n131, n132, n133, n134, n135, n136, n137, n138, n139, n140, n141, n142, n143, n144, n145, n146, wx, F_X12_gives]
