/-! ===== program: rows of orders, some still unclosed ===== -/
def opn (O : Nat → Nat) (D k : Nat) : Prop := ∃ j, j < D ∧ O j = k
def opr (P : Sp) (k : Nat) : Prop := sK P k = 5 ∨ sK P k = 6
def PrOk (P : Sp) (D T : Nat) (O : Nat → Nat) : Prop := (sN P + D ≤ 2 * T ∧ T ≤ 40 ∧ D ≤ 3) ∧ (∀ k, k < sN P → sK P k ≤ 7 ∧ rgK (sK P k) (sA P k) (sB P k)) ∧ (∀ j, j < D → O j < sN P ∧ opr P (O j)) ∧ (∀ i j, i < j → j < D → O i < O j) ∧ (∀ k, k < sN P → opr P k → ¬ opn O D k → k < sM P k ∧ sM P k < sN P ∧ sK P (sM P k) = 7 ∧ sM P (sM P k) = k) ∧ (∀ k, k < sN P → sK P k = 7 → sM P k < k ∧ opr P (sM P k) ∧ sM P (sM P k) = k ∧ ¬ opn O D (sM P k)) ∧ (∀ o p, o < p → p < sN P → opr P o → opr P p → ¬ opn O D o → ¬ opn O D p → p < sM P o → sM P p < sM P o) ∧ (∀ o, o < sN P → opr P o → ¬ opn O D o → ∀ j, j < D → o < O j → sM P o < O j)
theorem opn_0 {O : Nat → Nat} {k : Nat} : ¬ opn O 0 k := fun ⟨_, h, _⟩ => absurd h (Nat.not_lt_zero _)
theorem PrOk.fin {P : Sp} {T : Nat} {O : Nat → Nat} (h : PrOk P 0 T O) : SpOk P := by
  obtain ⟨⟨a1, a2, a3⟩, a4, a5, a6, a7, a8, a9, a10⟩ := h
  refine ⟨by omega, fun k hk => ?_, fun o p h1 h2 h3 h4 h5 => a9 o p h1 h2 h3 h4 opn_0 opn_0 h5⟩
  obtain ⟨b1, r0, r1, r2, r4, r5⟩ := a4 k hk
  refine ⟨b1, r0, r1, r2, r4, r5, fun h => ?_, fun h => ?_, fun h => ?_⟩
  · by_cases e : sK P k = 7
    · have := a8 k hk e
      omega
    · exact (a7 k hk (by unfold opr; omega) opn_0).2.1
  · have := a7 k hk h opn_0
    exact ⟨this.1, this.2.2.1, this.2.2.2⟩
  · have := a8 k hk h
    exact ⟨this.1, this.2.1, this.2.2.1⟩
theorem PrOk.zero {O : Nat → Nat} : PrOk (0, fun _ => 0, fun _ => 0, fun _ => 0, fun _ => 0) 0 0 O := by
  have z : ∀ i : Nat, ¬ i < 0 := Nat.not_lt_zero
  exact ⟨⟨Nat.le_refl _, Nat.zero_le _, Nat.zero_le _⟩, fun k hk => absurd hk (z k), fun j hj => absurd hj (z j), fun i j _ hj => absurd hj (z j), fun k hk => absurd hk (z k), fun k hk => absurd hk (z k), fun o p _ hp => absurd hp (z p), fun o ho => absurd ho (z o)⟩
def spS (P : Sp) (k a b : Nat) : Sp := (sN P + 1, upN (sK P) (sN P) k, upN (sA P) (sN P) a, upN (sB P) (sN P) b, sM P)
def spE (P : Sp) (o : Nat) : Sp := (sN P + 1, upN (sK P) (sN P) 7, sA P, sB P, upN (upN (sM P) (sN P) o) o (sN P))
theorem spS_K {P : Sp} {k a b j : Nat} (h : j ≠ sN P) : sK (spS P k a b) j = sK P j := upN_s h
theorem spS_o {P : Sp} {k a b j : Nat} (h : j ≠ sN P) : opr (spS P k a b) j ↔ opr P j := by unfold opr; rw [spS_K h]
/-- a step that opens nothing -/
theorem PrOk.step {P : Sp} {D T k a b : Nat} {O : Nat → Nat} (h : PrOk P D T O) (hT : T < 40) (hk : k ≤ 6) (k5 : k ≠ 5) (k6 : k ≠ 6) (r : rgK k a b) : PrOk (spS P k a b) D (T + 1) O := by
  obtain ⟨⟨a1, a2, a3⟩, a4, a5, a6, a7, a8, a9, a10⟩ := h
  have eN : sN (spS P k a b) = sN P + 1 := rfl
  have eM : sM (spS P k a b) = sM P := rfl
  have nK : sK (spS P k a b) (sN P) = k := upN_e
  have no : ¬ opr (spS P k a b) (sN P) := by unfold opr; rw [nK]; omega
  refine ⟨⟨by omega, by omega, a3⟩, fun j hj => ?_, fun j hj => ?_, a6, fun j hj ho hn => ?_, fun j hj h7 => ?_, fun o p h1 h2 h3 h4 h5 h6 h7 => ?_, fun o ho h1 h2 j hj h3 => ?_⟩
  · by_cases x : j = sN P
    · subst x
      rw [nK, show sA (spS P k a b) (sN P) = a from upN_e, show sB (spS P k a b) (sN P) = b from upN_e]
      exact ⟨by omega, r⟩
    · rw [spS_K x, show sA (spS P k a b) j = sA P j from upN_s x, show sB (spS P k a b) j = sB P j from upN_s x]
      exact a4 j (by omega)
  · have := a5 j hj
    exact ⟨by omega, (spS_o (by omega)).mpr this.2⟩
  · have x : j ≠ sN P := fun e => no (by rw [← e]; exact ho)
    have := a7 j (by omega) ((spS_o x).mp ho) hn
    rw [eM]
    exact ⟨this.1, by omega, by rw [spS_K (by omega)]; exact this.2.2.1, this.2.2.2⟩
  · have x : j ≠ sN P := fun e => by rw [e, nK] at h7; omega
    rw [spS_K x] at h7
    have := a8 j (by omega) h7
    rw [eM]
    exact ⟨this.1, (spS_o (by omega)).mpr this.2.1, this.2.2⟩
  · have x : p ≠ sN P := fun e => no (by rw [← e]; exact h4)
    exact a9 o p h1 (by omega) ((spS_o (by omega)).mp h3) ((spS_o x).mp h4) h5 h6 h7
  · have x : o ≠ sN P := fun e => no (by rw [← e]; exact h1)
    exact a10 o (by omega) ((spS_o x).mp h1) h2 j hj h3
/-- a step that opens -/
theorem PrOk.opens {P : Sp} {D T k a b : Nat} {O : Nat → Nat} (h : PrOk P D T O) (hT : T < 40) (hD : D < 3) (hk : k = 5 ∨ k = 6) (r : rgK k a b) : PrOk (spS P k a b) (D + 1) (T + 1) (upN O D (sN P)) := by
  obtain ⟨⟨a1, a2, a3⟩, a4, a5, a6, a7, a8, a9, a10⟩ := h
  have eN : sN (spS P k a b) = sN P + 1 := rfl
  have eM : sM (spS P k a b) = sM P := rfl
  have nK : sK (spS P k a b) (sN P) = k := upN_e
  have op : ∀ j, j ≠ sN P → (opn (upN O D (sN P)) (D + 1) j ↔ opn O D j) := by
    intro j hj
    constructor
    · rintro ⟨i, h1, h2⟩
      by_cases x : i = D
      · rw [x, upN_e] at h2
        exact absurd h2.symm hj
      · rw [upN_s x] at h2
        exact ⟨i, by omega, h2⟩
    · rintro ⟨i, h1, h2⟩
      exact ⟨i, by omega, by rw [upN_s (by omega)]; exact h2⟩
  have on : opn (upN O D (sN P)) (D + 1) (sN P) := ⟨D, by omega, upN_e⟩
  refine ⟨⟨by omega, by omega, by omega⟩, fun j hj => ?_, fun j hj => ?_, fun i j h1 h2 => ?_, fun j hj ho hn => ?_, fun j hj h7 => ?_, fun o p h1 h2 h3 h4 h5 h6 h7 => ?_, fun o ho h1 h2 j hj h3 => ?_⟩
  · by_cases x : j = sN P
    · subst x
      rw [nK, show sA (spS P k a b) (sN P) = a from upN_e, show sB (spS P k a b) (sN P) = b from upN_e]
      exact ⟨by omega, r⟩
    · rw [spS_K x, show sA (spS P k a b) j = sA P j from upN_s x, show sB (spS P k a b) j = sB P j from upN_s x]
      exact a4 j (by omega)
  · by_cases x : j = D
    · rw [x, upN_e]
      exact ⟨by omega, by unfold opr; rw [nK]; exact hk⟩
    · rw [upN_s x]
      have := a5 j (by omega)
      exact ⟨by omega, (spS_o (by omega)).mpr this.2⟩
  · by_cases x : j = D
    · rw [x, upN_e, upN_s (by omega)]
      exact (a5 i (by omega)).1
    · rw [upN_s x, upN_s (by omega)]
      exact a6 i j h1 (by omega)
  · have x : j ≠ sN P := fun e => hn (by rw [e]; exact on)
    have := a7 j (by omega) ((spS_o x).mp ho) (fun y => hn ((op j x).mpr y))
    rw [eM]
    exact ⟨this.1, by omega, by rw [spS_K (by omega)]; exact this.2.2.1, this.2.2.2⟩
  · have x : j ≠ sN P := fun e => by rw [e, nK] at h7; omega
    rw [spS_K x] at h7
    have := a8 j (by omega) h7
    rw [eM]
    exact ⟨this.1, (spS_o (by omega)).mpr this.2.1, this.2.2.1, fun y => this.2.2.2 ((op _ (by omega)).mp y)⟩
  · have x : p ≠ sN P := fun e => h6 (by rw [e]; exact on)
    exact a9 o p h1 (by omega) ((spS_o (by omega)).mp h3) ((spS_o x).mp h4) (fun y => h5 ((op o (by omega)).mpr y)) (fun y => h6 ((op p x).mpr y)) h7
  · have x : o ≠ sN P := fun e => h2 (by rw [e]; exact on)
    have h1' := (spS_o x).mp h1
    have h2' : ¬ opn O D o := fun y => h2 ((op o x).mpr y)
    rw [eM]
    by_cases y : j = D
    · rw [y, upN_e]
      exact (a7 o (by omega) h1' h2').2.1
    · rw [upN_s y] at h3 ⊢
      exact a10 o (by omega) h1' h2' j (by omega) h3
/-- an end closes the last that was opened -/
theorem PrOk.close {P : Sp} {D T : Nat} {O : Nat → Nat} (h : PrOk P (D + 1) T O) : PrOk (spE P (O D)) D T O := by
  obtain ⟨⟨a1, a2, a3⟩, a4, a5, a6, a7, a8, a9, a10⟩ := h
  have oD := a5 D (by omega)
  have eN : sN (spE P (O D)) = sN P + 1 := rfl
  have nK : sK (spE P (O D)) (sN P) = 7 := upN_e
  have sKs : ∀ j, j ≠ sN P → sK (spE P (O D)) j = sK P j := fun j hj => upN_s hj
  have so : ∀ j, j ≠ sN P → (opr (spE P (O D)) j ↔ opr P j) := fun j hj => by unfold opr; rw [sKs j hj]
  have no : ¬ opr (spE P (O D)) (sN P) := by unfold opr; rw [nK]; omega
  have mO : sM (spE P (O D)) (O D) = sN P := upN_e
  have mN' : sM (spE P (O D)) (sN P) = O D := (upN_s (by omega)).trans upN_e
  have mS : ∀ j, j ≠ O D → j ≠ sN P → sM (spE P (O D)) j = sM P j := fun j h1 h2 => (upN_s h1).trans (upN_s h2)
  have op : ∀ j, j ≠ O D → (opn O D j ↔ opn O (D + 1) j) := by
    intro j hj
    constructor
    · rintro ⟨i, h1, h2⟩
      exact ⟨i, by omega, h2⟩
    · rintro ⟨i, h1, h2⟩
      by_cases x : i = D
      · rw [x] at h2; exact absurd h2.symm hj
      · exact ⟨i, by omega, h2⟩
  have nD : ¬ opn O D (O D) := by
    rintro ⟨i, h1, h2⟩
    have := a6 i D h1 (by omega)
    omega
  have big : ∀ p, O D < p → ¬ opn O (D + 1) p := by
    rintro p hp ⟨i, h1, h2⟩
    by_cases x : i = D
    · subst x; omega
    · have := a6 i D (by omega) (by omega)
      omega
  have yD : opn O (D + 1) (O D) := ⟨D, by omega, rfl⟩
  refine ⟨⟨by omega, a2, by omega⟩, fun j hj => ?_, fun j hj => ?_, fun i j h1 h2 => a6 i j h1 (by omega), fun j hj ho hn => ?_, fun j hj h7 => ?_, fun o p h1 h2 h3 h4 h5 h6 h7 => ?_, fun o ho h1 h2 j hj h3 => ?_⟩
  · by_cases x : j = sN P
    · subst x
      rw [nK]
      exact ⟨Nat.le_refl _, fun e => by omega, fun e => by omega, fun e => by omega, fun e => by omega, fun e => by omega⟩
    · rw [sKs j x]
      exact a4 j (by omega)
  · have := a5 j (by omega)
    exact ⟨by omega, (so _ (by omega)).mpr this.2⟩
  · have x : j ≠ sN P := fun e => no (by rw [← e]; exact ho)
    by_cases y : j = O D
    · subst y
      rw [mO, mN']
      exact ⟨oD.1, by omega, nK, rfl⟩
    · have := a7 j (by omega) ((so j x).mp ho) (fun z => hn ((op j y).mpr z))
      rw [mS j y x]
      have w1 : sM P j ≠ O D := fun e => by
        have h7 := this.2.2.1
        rw [e] at h7
        have := oD.2
        unfold opr at this
        omega
      rw [mS _ w1 (by omega), sKs _ (by omega)]
      exact ⟨this.1, by omega, this.2.2.1, this.2.2.2⟩
  · by_cases x : j = sN P
    · subst x
      rw [mN', mO]
      exact ⟨oD.1, (so _ (by omega)).mpr oD.2, rfl, nD⟩
    · rw [sKs j x] at h7
      have := a8 j (by omega) h7
      have w0 : j ≠ O D := fun e => by
        have h := oD.2
        rw [e] at h7
        unfold opr at h
        omega
      have w1 : sM P j ≠ O D := fun e => this.2.2.2 (by rw [e]; exact yD)
      rw [mS j w0 x, mS _ w1 (by omega)]
      exact ⟨this.1, (so _ (by omega)).mpr this.2.1, this.2.2.1, fun z => this.2.2.2 ((op _ w1).mp z)⟩
  · have xp : p ≠ sN P := fun e => no (by rw [← e]; exact h4)
    have xo : o ≠ sN P := by omega
    by_cases y : o = O D
    · subst y
      rw [mO]
      have np : ¬ opn O (D + 1) p := big p h1
      rw [mS p (by omega) xp]
      exact (a7 p (by omega) ((so p xp).mp h4) np).2.1
    · have no' : ¬ opn O (D + 1) o := fun z => h5 ((op o y).mpr z)
      rw [mS o y xo] at h7 ⊢
      by_cases z : p = O D
      · subst z
        have := a10 o (by omega) ((so o xo).mp h3) no' D (by omega) h1
        omega
      · rw [mS p z xp]
        exact a9 o p h1 (by omega) ((so o xo).mp h3) ((so p xp).mp h4) no' (fun w => h6 ((op p z).mpr w)) h7
  · have xo : o ≠ sN P := fun e => no (by rw [← e]; exact h1)
    by_cases y : o = O D
    · subst y
      have := a6 j D hj (by omega)
      omega
    · rw [mS o y xo]
      exact a10 o (by omega) ((so o xo).mp h1) (fun z => h2 ((op o y).mpr z)) j (by omega) h3
