/-! ===== a run, as such ===== -/
/-- house, place, rounds left, steps done, hands, register -/
abbrev St : Type := Ho × Nat × (Nat → Nat) × Nat × Int32 × Int64
def tA (S : St) : Ho := S.1
def tP (S : St) : Nat := S.2.1
def tL (S : St) : Nat → Nat := S.2.2.1
def tD (S : St) : Nat := S.2.2.2.1
def tH (S : St) : Int32 := S.2.2.2.2.1
def tR (S : St) : Int64 := S.2.2.2.2.2
def dkA (A : Ho) (D : Nat → Nat) : Ho := wdm A (oW A) D (oM A)
def endS (S : St) : St := if sK (oS (tA S)) (sM (oS (tA S)) (tP S)) = 5 ∧ 1 < tL S (sM (oS (tA S)) (tP S)) then (tA S, sM (oS (tA S)) (tP S) + 1, (fun o => if o = sM (oS (tA S)) (tP S) then tL S o - 1 else tL S o), tD S, tH S, tR S) else (tA S, tP S + 1, tL S, tD S, tH S, tR S)
def stpA (A : Ho) (k : Nat) : Ho := if sK (oS A) k = 0 then passA A (sA (oS A) k) (decide (sB (oS A) k = 1)) else if sK (oS A) k = 1 then dkA A (srt (putR A (sA (oS A) k) (sB (oS A) k)) (oD A) (oN A)) else if sK (oS A) k = 2 then dkA A (cutD (oD A) (oN A) (sA (oS A) k)) else if sK (oS A) k = 3 then dkA A (trnD (oD A) (oN A)) else A
def stpP (A : Ho) (k : Nat) : Nat := if sK (oS A) k = 6 ∧ ¬ (0 < oN A ∧ rdN (oH A (oD A 0) (sA (oS A) k)) = sB (oS A) k) then sM (oS A) k + 1 else k + 1
def stpS (S : St) : St := (stpA (tA S) (tP S), stpP (tA S) (tP S), (fun o => if o = tP S ∧ sK (oS (tA S)) (tP S) = 5 then sA (oS (tA S)) (tP S) else tL S o), tD S + 1, (if sK (oS (tA S)) (tP S) = 0 then tH S + nI (pH (tA S) (sA (oS (tA S)) (tP S)) (decide (sB (oS (tA S)) (tP S) = 1))) else tH S), if sK (oS (tA S)) (tP S) = 4 then tR S + (nI (wsm (tA S) (sA (oS (tA S)) (tP S)) (sB (oS (tA S)) (tP S)) (oN (tA S)))).toInt64 else tR S)
def trS (S : St) : St := if sK (oS (tA S)) (tP S) = 7 then endS S else stpS S
def stpd (S : St) : Prop := sN (oS (tA S)) ≤ tP S ∨ (sK (oS (tA S)) (tP S) ≠ 7 ∧ 200 ≤ tD S)
def wS (S : St) : Nat := if tP S < sN (oS (tA S)) ∧ sK (oS (tA S)) (tP S) = 7 then (80 - tP S) + (if sM (oS (tA S)) (tP S) + 1 = tP S ∧ sK (oS (tA S)) (sM (oS (tA S)) (tP S)) = 5 then tL S (sM (oS (tA S)) (tP S)) else 0) else 0
def meS (S : St) : Nat := 90 * (200 - tD S) + wS S
/-- loops around the place have rounds left -/
def encl (S : St) (o : Nat) : Prop := o < sN (oS (tA S)) ∧ sK (oS (tA S)) o = 5 ∧ o < tP S ∧ tP S ≤ sM (oS (tA S)) o
def gdS (q : Nat) (S : St) : Prop := HoOk (q + tD S) (tA S) ∧ (∀ i, i < oN (tA S) → oW (tA S) i ≤ 200 * q + tD S) ∧ (tD S ≤ 200 ∧ tP S ≤ sN (oS (tA S))) ∧ ∀ o, encl S o → 1 ≤ tL S o ∧ tL S o ≤ 9
theorem stpA_oS {A : Ho} {k : Nat} : oS (stpA A k) = oS A := by
  unfold stpA
  repeat' split
  all_goals rfl
theorem SpOk.k {P : Sp} (h : SpOk P) {k : Nat} (hk : k < sN P) : sK P k ≤ 7 ∧ (sK P k = 0 → sA P k < 8 ∧ sB P k ≤ 1) ∧ (sK P k = 1 ∨ sK P k = 6 → sA P k < 8 ∧ sB P k < 12) ∧ (sK P k = 2 → sA P k ≤ 99) ∧ (sK P k = 4 → sA P k ≤ sB P k ∧ sB P k < 8 ∧ sB P k < sA P k + 6) ∧ (sK P k = 5 → 1 ≤ sA P k ∧ sA P k ≤ 9) ∧ (5 ≤ sK P k → sM P k < sN P) ∧ (sK P k = 5 ∨ sK P k = 6 → k < sM P k ∧ sK P (sM P k) = 7 ∧ sM P (sM P k) = k) ∧ (sK P k = 7 → sM P k < k ∧ (sK P (sM P k) = 5 ∨ sK P (sM P k) = 6) ∧ sM P (sM P k) = k) := h.2.1 k hk
theorem SpOk.nest {P : Sp} (h : SpOk P) {o p : Nat} (h1 : o < p) (h2 : p < sN P) (h3 : sK P o = 5 ∨ sK P o = 6) (h4 : sK P p = 5 ∨ sK P p = 6) (h5 : p < sM P o) : sM P p < sM P o := h.2.2 o p h1 h2 h3 h4 h5
theorem HoOk.ad {q d : Nat} {A : Ho} (h : HoOk q A) : HoOk (q + d) A := by
  induction d with
  | zero => exact h
  | succ d ih => exact ih.mono
theorem dk_ok {q : Nat} {A : Ho} {D : Nat → Nat} (ok : HoOk q A) (h1 : ∀ k, k < oN A → D k < oN A) (h2 : ∀ i j, i < oN A → j < oN A → D i = D j → i = j) : HoOk q (dkA A D) := wdm_deck_ok ok h1 h2
theorem cutD_lt {A : Ho} {q m : Nat} (ok : HoOk q A) : (∀ k, k < oN A → cutD (oD A) (oN A) m k < oN A) ∧ ∀ i j, i < oN A → j < oN A → cutD (oD A) (oN A) m i = cutD (oD A) (oN A) m j → i = j := by
  unfold cutD
  by_cases l : m < oN A
  · simp only [if_pos l]
    refine ⟨fun k hk => (ok.2.1 _ (Nat.mod_lt _ (by omega))).2.2.2.2, fun i j hi hj e => ?_⟩
    have e2 := ok.2.2.1 _ _ (Nat.mod_lt _ (by omega)) (Nat.mod_lt _ (by omega)) e
    by_cases c1 : i + m < oN A <;> by_cases c2 : j + m < oN A
    · rw [Nat.mod_eq_of_lt c1, Nat.mod_eq_of_lt c2] at e2; omega
    · rw [Nat.mod_eq_of_lt c1, Nat.mod_eq_sub_mod (by omega), Nat.mod_eq_of_lt (by omega)] at e2; omega
    · rw [Nat.mod_eq_of_lt c2, Nat.mod_eq_sub_mod (by omega), Nat.mod_eq_of_lt (by omega)] at e2; omega
    · rw [Nat.mod_eq_sub_mod (a := i + m) (by omega), Nat.mod_eq_of_lt (a := i + m - oN A) (by omega), Nat.mod_eq_sub_mod (a := j + m) (by omega), Nat.mod_eq_of_lt (a := j + m - oN A) (by omega)] at e2; omega
  · simp only [if_neg l]
    exact ⟨fun k hk => (ok.2.1 k hk).2.2.2.2, fun i j hi hj e => ok.2.2.1 i j hi hj e⟩
theorem stpA_ok {q k : Nat} {A : Ho} (ok : HoOk q A) : HoOk (q + 1) (stpA A k) ∧ ∀ i, i < oN A → oW (stpA A k) i ≤ oW A i + 1 := by
  unfold stpA
  by_cases c0 : sK (oS A) k = 0
  · rw [if_pos c0]
    refine ⟨passA_ok ok, fun i hi => ?_⟩
    show oW A i + (if exB (wrB (oD A) i) _ then 1 else 0) ≤ _
    by_cases e : exB (wrB (oD A) i) (pT A (sA (oS A) k) (decide (sB (oS A) k = 1))) = true
    · rw [if_pos e]; omega
    · rw [if_neg e]; omega
  rw [if_neg c0]
  by_cases c1 : sK (oS A) k = 1
  · rw [if_pos c1]
    exact ⟨(dk_ok ok (fun k hk => srt_lt (Nat.le_refl _) (fun k hk => (ok.2.1 k hk).2.2.2.2) hk) (fun i j hi hj e => srt_inj (Nat.le_refl _) ok.2.2.1 hi hj e)).mono, fun i hi => Nat.le_succ _⟩
  rw [if_neg c1]
  by_cases c2 : sK (oS A) k = 2
  · rw [if_pos c2]
    exact ⟨(dk_ok ok (cutD_lt ok).1 (cutD_lt ok).2).mono, fun i hi => Nat.le_succ _⟩
  rw [if_neg c2]
  by_cases c3 : sK (oS A) k = 3
  · rw [if_pos c3]
    exact ⟨(dk_ok ok (fun k hk => (ok.2.1 _ (by omega)).2.2.2.2) (fun i j hi hj e => by have := ok.2.2.1 _ _ (by omega) (by omega) e; omega)).mono, fun i hi => Nat.le_succ _⟩
  rw [if_neg c3]
  exact ⟨ok.mono, fun i hi => Nat.le_succ _⟩
theorem stpA_oN {A : Ho} {k : Nat} : oN (stpA A k) = oN A := by
  unfold stpA
  repeat' split
  all_goals rfl
theorem tr_good {q : Nat} {S : St} (g : gdS q S) (ns : ¬ stpd S) : gdS q (trS S) ∧ meS (trS S) < meS S := by
  obtain ⟨g1, g2, g3, g4⟩ := g
  have sp := g1.2.2.2.2
  have hp : tP S < sN (oS (tA S)) := Nat.lt_of_not_le (fun e => ns (Or.inl e))
  have h80 := sp.1
  have K := sp.k hp
  unfold trS
  by_cases e7 : sK (oS (tA S)) (tP S) = 7
  · rw [if_pos e7]
    obtain ⟨m1, m2, m3⟩ := K.2.2.2.2.2.2.2.2 e7
    have wv : wS S = (80 - tP S) + (if sM (oS (tA S)) (tP S) + 1 = tP S ∧ sK (oS (tA S)) (sM (oS (tA S)) (tP S)) = 5 then tL S (sM (oS (tA S)) (tP S)) else 0) := if_pos ⟨hp, e7⟩
    have Ko := sp.k (show sM (oS (tA S)) (tP S) < sN (oS (tA S)) by omega)
    unfold endS
    by_cases c : sK (oS (tA S)) (sM (oS (tA S)) (tP S)) = 5 ∧ 1 < tL S (sM (oS (tA S)) (tP S))
    · rw [if_pos c]
      have mo := (Ko.2.2.2.2.2.2.2.1 (Or.inl c.1)).1
      have en : encl S (sM (oS (tA S)) (tP S)) := ⟨by omega, c.1, by omega, by omega⟩
      have lo := g4 _ en
      refine ⟨⟨g1, g2, ⟨g3.1, show sM (oS (tA S)) (tP S) + 1 ≤ sN (oS (tA S)) by omega⟩, fun o eo => ?_⟩, ?_⟩
      · obtain ⟨x1, x2, x3, x4⟩ := eo
        have x1 : o < sN (oS (tA S)) := x1
        have x2 : sK (oS (tA S)) o = 5 := x2
        have x3 : o < sM (oS (tA S)) (tP S) + 1 := x3
        have x4 : sM (oS (tA S)) (tP S) + 1 ≤ sM (oS (tA S)) o := x4
        show 1 ≤ (if o = sM (oS (tA S)) (tP S) then tL S o - 1 else tL S o) ∧ (if o = sM (oS (tA S)) (tP S) then tL S o - 1 else tL S o) ≤ 9
        by_cases co : o = sM (oS (tA S)) (tP S)
        · rw [if_pos co, co]
          omega
        · rw [if_neg co]
          have := sp.nest (o := o) (p := sM (oS (tA S)) (tP S)) (by omega) (by omega) (Or.inl x2) (Or.inl c.1) (by omega)
          exact g4 o ⟨x1, x2, by omega, by omega⟩
      · show 90 * (200 - tD S) + wS _ < 90 * (200 - tD S) + wS S
        rw [wv]
        unfold wS
        show _ + (if sM (oS (tA S)) (tP S) + 1 < sN (oS (tA S)) ∧ sK (oS (tA S)) (sM (oS (tA S)) (tP S) + 1) = 7 then (80 - (sM (oS (tA S)) (tP S) + 1)) + (if sM (oS (tA S)) (sM (oS (tA S)) (tP S) + 1) + 1 = sM (oS (tA S)) (tP S) + 1 ∧ sK (oS (tA S)) (sM (oS (tA S)) (sM (oS (tA S)) (tP S) + 1)) = 5 then (if sM (oS (tA S)) (sM (oS (tA S)) (tP S) + 1) = sM (oS (tA S)) (tP S) then tL S (sM (oS (tA S)) (sM (oS (tA S)) (tP S) + 1)) - 1 else tL S (sM (oS (tA S)) (sM (oS (tA S)) (tP S) + 1))) else 0) else 0) < _
        by_cases ce : sM (oS (tA S)) (tP S) + 1 = tP S
        · rw [ce, if_pos ⟨hp, e7⟩, if_pos ⟨ce, c.1⟩, if_pos rfl, if_pos ⟨rfl, c.1⟩]
          omega
        · have ne : ¬ (sM (oS (tA S)) (tP S) + 1 < sN (oS (tA S)) ∧ sK (oS (tA S)) (sM (oS (tA S)) (tP S) + 1) = 7) := by
            rintro ⟨y1, y2⟩
            obtain ⟨z1, z2, z3⟩ := (sp.k y1).2.2.2.2.2.2.2.2 y2
            have nm : sM (oS (tA S)) (sM (oS (tA S)) (tP S) + 1) ≠ sM (oS (tA S)) (tP S) := fun e => by
              rw [e] at z3
              omega
            have := sp.nest (o := sM (oS (tA S)) (sM (oS (tA S)) (tP S) + 1)) (p := sM (oS (tA S)) (tP S)) (by omega) (by omega) z2 (Or.inl c.1) (by omega)
            omega
          rw [if_neg ne]
          omega
    · rw [if_neg c]
      refine ⟨⟨g1, g2, ⟨g3.1, show tP S + 1 ≤ sN (oS (tA S)) by omega⟩, fun o eo => ?_⟩, ?_⟩
      · obtain ⟨x1, x2, x3, x4⟩ := eo
        have x1 : o < sN (oS (tA S)) := x1
        have x2 : sK (oS (tA S)) o = 5 := x2
        have x3 : o < tP S + 1 := x3
        have x4 : tP S + 1 ≤ sM (oS (tA S)) o := x4
        have : o ≠ tP S := fun e => by rw [e, e7] at x2; omega
        exact g4 o ⟨x1, x2, by omega, by omega⟩
      · show 90 * (200 - tD S) + wS _ < 90 * (200 - tD S) + wS S
        rw [wv]
        unfold wS
        show _ + (if tP S + 1 < sN (oS (tA S)) ∧ sK (oS (tA S)) (tP S + 1) = 7 then (80 - (tP S + 1)) + (if sM (oS (tA S)) (tP S + 1) + 1 = tP S + 1 ∧ sK (oS (tA S)) (sM (oS (tA S)) (tP S + 1)) = 5 then tL S (sM (oS (tA S)) (tP S + 1)) else 0) else 0) < _
        by_cases ce : tP S + 1 < sN (oS (tA S)) ∧ sK (oS (tA S)) (tP S + 1) = 7
        · obtain ⟨z1, z2, z3⟩ := (sp.k ce.1).2.2.2.2.2.2.2.2 ce.2
          have ne : ¬ (sM (oS (tA S)) (tP S + 1) + 1 = tP S + 1 ∧ sK (oS (tA S)) (sM (oS (tA S)) (tP S + 1)) = 5) := by
            rintro ⟨y1, y2⟩
            rw [show sM (oS (tA S)) (tP S + 1) = tP S by omega, e7] at y2
            omega
          rw [if_pos ce, if_neg ne]
          omega
        · rw [if_neg ce]
          omega
  · rw [if_neg e7]
    have hd : tD S < 200 := by
      by_cases l : tD S < 200
      · exact l
      · exact absurd (Or.inr ⟨e7, by omega⟩) ns
    obtain ⟨s1, s2⟩ := stpA_ok (k := tP S) g1
    have G : gdS q (stpS S) := by
      refine ⟨s1, fun i hi => ?_, ?_, fun o eo => ?_⟩
      · have hi : i < oN (stpA (tA S) (tP S)) := hi
        rw [stpA_oN] at hi
        have := s2 i hi
        have := g2 i hi
        show oW (stpA (tA S) (tP S)) i ≤ 200 * q + (tD S + 1)
        omega
      · refine ⟨show tD S + 1 ≤ 200 by omega, ?_⟩
        show stpP (tA S) (tP S) ≤ sN (oS (stpA (tA S) (tP S)))
        rw [stpA_oS]
        unfold stpP
        by_cases cw : sK (oS (tA S)) (tP S) = 6 ∧ ¬ (0 < oN (tA S) ∧ rdN (oH (tA S) (oD (tA S) 0) (sA (oS (tA S)) (tP S))) = sB (oS (tA S)) (tP S))
        · rw [if_pos cw]
          have := K.2.2.2.2.2.2.1 (by omega)
          omega
        · rw [if_neg cw]
          omega
      · obtain ⟨x1, x2, x3, x4⟩ := eo
        have x1 : o < sN (oS (stpA (tA S) (tP S))) := x1
        have x2 : sK (oS (stpA (tA S) (tP S))) o = 5 := x2
        have x3 : o < stpP (tA S) (tP S) := x3
        have x4 : stpP (tA S) (tP S) ≤ sM (oS (stpA (tA S) (tP S))) o := x4
        rw [stpA_oS] at x1 x2 x4
        show 1 ≤ (if o = tP S ∧ sK (oS (tA S)) (tP S) = 5 then sA (oS (tA S)) (tP S) else tL S o) ∧ (if o = tP S ∧ sK (oS (tA S)) (tP S) = 5 then sA (oS (tA S)) (tP S) else tL S o) ≤ 9
        by_cases co : o = tP S
        · subst co
          rw [if_pos ⟨rfl, x2⟩]
          exact K.2.2.2.2.2.1 x2
        · rw [if_neg (fun e => co e.1)]
          unfold stpP at x3 x4
          by_cases cw : sK (oS (tA S)) (tP S) = 6 ∧ ¬ (0 < oN (tA S) ∧ rdN (oH (tA S) (oD (tA S) 0) (sA (oS (tA S)) (tP S))) = sB (oS (tA S)) (tP S))
          · rw [if_pos cw] at x3 x4
            obtain ⟨z1, z2, z3⟩ := K.2.2.2.2.2.2.2.1 (Or.inr cw.1)
            have no : o ≠ sM (oS (tA S)) (tP S) := fun e => by rw [e, z2] at x2; omega
            by_cases lo : o < tP S
            · exact g4 o ⟨x1, x2, lo, by omega⟩
            · have := sp.nest (o := tP S) (p := o) (by omega) x1 (Or.inr cw.1) (Or.inl x2) (by omega)
              omega
          · rw [if_neg cw] at x3 x4
            exact g4 o ⟨x1, x2, by omega, by omega⟩
    refine ⟨G, ?_⟩
    have w89 : wS (stpS S) ≤ 89 := by
      unfold wS
      by_cases c : tP (stpS S) < sN (oS (tA (stpS S))) ∧ sK (oS (tA (stpS S))) (tP (stpS S)) = 7
      · rw [if_pos c]
        by_cases c2 : sM (oS (tA (stpS S))) (tP (stpS S)) + 1 = tP (stpS S) ∧ sK (oS (tA (stpS S))) (sM (oS (tA (stpS S))) (tP (stpS S))) = 5
        · rw [if_pos c2]
          have Kk := (s1.2.2.2.2.k c.1).2.2.2.2.2.2.2.2 c.2
          have := G.2.2.2 (sM (oS (tA (stpS S))) (tP (stpS S))) ⟨by omega, c2.2, by omega, Nat.le_of_eq Kk.2.2.symm⟩
          omega
        · rw [if_neg c2]
          omega
      · rw [if_neg c]
        omega
    show 90 * (200 - (tD S + 1)) + wS (stpS S) < 90 * (200 - tD S) + wS S
    omega
/-- where a run ends -/
noncomputable def finN : Nat → St → St
  | 0, S => S
  | n + 1, S => @ite _ (stpd S) (Classical.propDecidable _) S (finN n (trS S))
theorem finN_y {S : St} (h : stpd S) : ∀ n, finN n S = S := by
  intro n
  cases n with
  | zero => rfl
  | succ n => rw [finN, if_pos h]
theorem finN_n {S : St} {n : Nat} (h : ¬ stpd S) : finN (n + 1) S = finN n (trS S) := by rw [finN, if_neg h]
theorem finN_ok {q : Nat} : ∀ n S, gdS q S → meS S ≤ n → gdS q (finN n S) ∧ stpd (finN n S) := by
  intro n
  induction n with
  | zero =>
    intro S g m
    by_cases c : stpd S
    · exact ⟨g, c⟩
    · have := (tr_good g c).2
      omega
  | succ n ih =>
    intro S g m
    by_cases c : stpd S
    · rw [finN_y c]
      exact ⟨g, c⟩
    · rw [finN_n c]
      have := tr_good g c
      exact ih _ this.1 (by omega)
