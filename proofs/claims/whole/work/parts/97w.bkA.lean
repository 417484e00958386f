/-! ===== book: bases of the readers ===== -/
theorem adC_ad {h : Hp} {c n p q : Nat} {f : Nat → Nat} : adC (adC h c f n p) c f n q = adC h c f n q := by
  unfold adC
  refine Hp_ext (fun d k => ?_) rfl rfl
  by_cases x : d = c
  · subst x
    by_cases k4 : k = 4
    · subst k4; rw [hI_uI_e, hI_uI_e]
    · rw [hI_uI_s k4, hI_uI_s k4]
      by_cases k3 : k = 3
      · subst k3; rw [hI_uI_e, hI_uI_e]
      · rw [hI_uI_s k3, hI_uI_s k3]
        by_cases k2 : k = 2
        · subst k2; rw [hI_uI_e, hI_uI_e]
        · rw [hI_uI_s k2, hI_uI_s k2, hI_uI_s k4, hI_uI_s k3, hI_uI_s k2]
  · rw [hI_uI_o x, hI_uI_o x, hI_uI_o x, hI_uI_o x, hI_uI_o x, hI_uI_o x, hI_uI_o x, hI_uI_o x, hI_uI_o x]
theorem adM_ad {h : Hp} {n p q : Nat} {f : Nat → Nat} : adM (adM h f n p) f n q = adM h f n q := by
  refine Hp_ext (fun d k => ?_) rfl rfl
  by_cases x : d = 122
  · subst x
    by_cases k1 : k = 11
    · subst k1; unfold adM; rw [hI_uI_e, hI_uI_e]
    · by_cases k3 : k = 13
      · subst k3; unfold adM; rw [hI_uI_s k1, hI_uI_s k1, hI_uI_e, hI_uI_e]
      · by_cases k4 : k = 14
        · subst k4; unfold adM; rw [hI_uI_s k1, hI_uI_s k1, hI_uI_s k3, hI_uI_s k3, hI_uI_e, hI_uI_e]
        · by_cases k2 : k = 12
          · subst k2; unfold adM; rw [hI_uI_s k1, hI_uI_s k1, hI_uI_s k3, hI_uI_s k3, hI_uI_s k4, hI_uI_s k4, hI_uI_e, hI_uI_e]
          · rw [adM_s k1 k2 k3 k4, adM_s k1 k2 k3 k4, adM_s k1 k2 k3 k4]
  · rw [adM_o x, adM_o x, adM_o x]
theorem uI_cm {h : Hp} {c d k j : Nat} {v w : Int32} (e : c ≠ d) : uI (uI h c k v) d j w = uI (uI h d j w) c k v := by
  refine Hp_ext (fun x i => ?_) rfl rfl
  by_cases y : x = c
  · subst y
    rw [hI_uI_o e]
    by_cases z : i = k
    · subst z; rw [hI_uI_e, hI_uI_e]
    · rw [hI_uI_s z, hI_uI_s z, hI_uI_o e]
  · rw [hI_uI_o (c := c) y]
    by_cases z : x = d
    · subst z
      by_cases u : i = j
      · subst u; rw [hI_uI_e, hI_uI_e]
      · rw [hI_uI_s u, hI_uI_s u, hI_uI_o y]
    · rw [hI_uI_o z, hI_uI_o z, hI_uI_o y]
theorem uI_adM {h : Hp} {n p d j : Nat} {f : Nat → Nat} {w : Int32} (e : d ≠ 122) : uI (adM h f n p) d j w = adM (uI h d j w) f n p := by
  unfold adM
  have e' : 122 ≠ d := fun x => e x.symm
  rw [uI_cm e', uI_cm e', uI_cm e', uI_cm e', uI_cm e']
theorem uL_adM {h : Hp} {n p d j : Nat} {f : Nat → Nat} {w : Int64} : uL (adM h f n p) d j w = adM (uL h d j w) f n p := rfl
/-- what a reader stands on -/
def Rb (h : Hp) (c : Nat) (f : Nat → Nat) (n : Nat) : Prop := Tx h f n ∧ hT h c = 2 ∧ hI h c 1 = nI n ∧ c ≠ 2 ∧ hI h c 5 = nI 0
def Mb (h : Hp) (f : Nat → Nat) (n : Nat) : Prop := TxM h f n ∧ hI h 122 17 = nI 0
section BB
variable {h : Hp} {c n q : Nat} {f : Nat → Nat}
theorem Rd.rb (r : Rd h c f n q) (e5 : hI h c 5 = nI 0) : Rb h c f n := ⟨r.1, r.2.2.1, r.2.2.2.1, r.2.2.2.2.2.2.2, e5⟩
theorem RdM.mb (r : RdM h f n q) (e : hI h 122 17 = nI 0) : Mb h f n := ⟨r.1, e⟩
theorem Rb.rd (r : Rb h c f n) (hq : q ≤ n) : Rd (adC h c f n q) c f n q := Rd_ad r.2.2.2.1 hq r.1 r.2.1 r.2.2.1
theorem Rb.e5 (r : Rb h c f n) : hI (adC h c f n q) c 5 = nI 0 := by rw [adC_s (by decide) (by decide) (by decide)]; exact r.2.2.2.2
theorem Rb.go (r : Rb h c f n) (hq : q ≤ n) : F_X7_advance (adC h c f n q) c = some (adC h c f n (tE f n q)) := by rw [(r.rd hq).go.1, adC_ad]
theorem Mb.rd (r : Mb h f n) (hq : q ≤ n) : RdM (adM h f n q) f n q := RdM_ad hq r.1
theorem Mb.e7 (r : Mb h f n) : hI (adM h f n q) 122 17 = nI 0 := by rw [adM_s (by decide) (by decide) (by decide) (by decide)]; exact r.2
theorem Mb.go (r : Mb h f n) (hq : q ≤ n) : F_X12_ahead (adM h f n q) 122 = some (adM h f n (tE f n q)) := by rw [(r.rd hq).go.1, adM_ad]
theorem Rb.uI {d k : Nat} {v : Int32} (r : Rb h c f n) (h2 : d ≠ 2) (hc : d ≠ c) : Rb (uI h d k v) c f n := ⟨⟨r.1.1, fun k hk => by rw [hI_uI_o (fun e => h2 e.symm)]; exact r.1.2 k hk⟩, r.2.1, by rw [hI_uI_o (fun e => hc e.symm)]; exact r.2.2.1, r.2.2.2.1, by rw [hI_uI_o (fun e => hc e.symm)]; exact r.2.2.2.2⟩
theorem Rb.uL {d k : Nat} {v : Int64} (r : Rb h c f n) : Rb (uL h d k v) c f n := r
theorem Mb.uI {d k : Nat} {v : Int32} (r : Mb h f n) (h2 : d ≠ 122) (hc : d ≠ 128) : Mb (uI h d k v) f n := ⟨⟨r.1.1, by rw [hI_uI_o (fun e => h2 e.symm)]; exact r.1.2.1, fun k hk => by rw [hI_uI_o (fun e => hc e.symm)]; exact r.1.2.2 k hk⟩, by rw [hI_uI_o (fun e => h2 e.symm)]; exact r.2⟩
theorem Mb.uL {d k : Nat} {v : Int64} (r : Mb h f n) : Mb (uL h d k v) f n := r
end BB
/-! ===== words are different, names are alike on both sides ===== -/
theorem wd_one {f : Nat → Nat} {n p w v : Nat} (hw : w < 14) (hv : v < 14) (e1 : wdB f n p w = true) (e2 : wdB f n p v = true) : w = v := by
  by_cases c : w = v
  · exact c
  · exfalso
    unfold wdB at e1 e2
    rw [Bool.and_eq_true, Bool.and_eq_true] at e1 e2
    have l1 := of_decide_eq_true e1.2.1
    have l2 := of_decide_eq_true e2.2.1
    have d := (by decide +kernel : ∀ w, w < 14 → ∀ v, v < 14 → w ≠ v → SLN.getD w 0 ≠ SLN.getD v 0 ∨ ∃ j, j < 5 ∧ j < SLN.getD w 0 ∧ (SBY.getD w []).getD j (nI 0) ≠ (SBY.getD v []).getD j (nI 0)) w hw v hv c
    rcases d with d | ⟨j, -, hj, d⟩
    · exact d (l1.symm.trans l2)
    · have a1 : mmB f (tS f n p) w j = false := by
        cases x : mmB f (tS f n p) w j with
        | false => rfl
        | true =>
          have := (exB_iff (P := mmB f (tS f n p) w) (SLN.getD w 0)).mpr ⟨j, hj, x⟩
          rw [this] at e1
          exact absurd e1.2.2 (by decide)
      have a2 : mmB f (tS f n p) v j = false := by
        cases x : mmB f (tS f n p) v j with
        | false => rfl
        | true =>
          have := (exB_iff (P := mmB f (tS f n p) v) (SLN.getD v 0)).mpr ⟨j, by omega, x⟩
          rw [this] at e2
          exact absurd e2.2.2 (by decide)
      unfold mmB at a1 a2
      have b1 := Decidable.of_not_not (of_decide_eq_false a1)
      have b2 := Decidable.of_not_not (of_decide_eq_false a2)
      exact d (b1.symm.trans b2)
theorem wd_ot {f : Nat → Nat} {n p w v : Nat} (e : wdB f n p w = true) (hw : w < 14) (hv : v < 14) (c : v ≠ w) : wdB f n p v = false := by
  cases x : wdB f n p v with
  | false => rfl
  | true => exact absurd (wd_one hv hw x e) c
theorem bk_i {f : Nat → Nat} {n p : Nat} : (bkW f n p = nI 0 ↔ wdB f n p 0 = true) ∧ (bkW f n p = nI 1 ↔ wdB f n p 2 = true) ∧ (bkW f n p = nI 2 ↔ wdB f n p 4 = true) ∧ (bkW f n p = nI 3 ↔ wdB f n p 1 = true) ∧ (bkW f n p = nI 4 ↔ wdB f n p 3 = true) := by
  have o02 := fun e => wd_ot (f := f) (n := n) (p := p) (w := 2) (v := 0) e (by decide) (by decide) (by decide)
  have o04 := fun e => wd_ot (f := f) (n := n) (p := p) (w := 4) (v := 0) e (by decide) (by decide) (by decide)
  have o24 := fun e => wd_ot (f := f) (n := n) (p := p) (w := 4) (v := 2) e (by decide) (by decide) (by decide)
  have o01 := fun e => wd_ot (f := f) (n := n) (p := p) (w := 1) (v := 0) e (by decide) (by decide) (by decide)
  have o21 := fun e => wd_ot (f := f) (n := n) (p := p) (w := 1) (v := 2) e (by decide) (by decide) (by decide)
  have o41 := fun e => wd_ot (f := f) (n := n) (p := p) (w := 1) (v := 4) e (by decide) (by decide) (by decide)
  have o03 := fun e => wd_ot (f := f) (n := n) (p := p) (w := 3) (v := 0) e (by decide) (by decide) (by decide)
  have o23 := fun e => wd_ot (f := f) (n := n) (p := p) (w := 3) (v := 2) e (by decide) (by decide) (by decide)
  have o43 := fun e => wd_ot (f := f) (n := n) (p := p) (w := 3) (v := 4) e (by decide) (by decide) (by decide)
  have o13 := fun e => wd_ot (f := f) (n := n) (p := p) (w := 3) (v := 1) e (by decide) (by decide) (by decide)
  unfold bkW
  cases x0 : wdB f n p 0 <;> cases x1 : wdB f n p 1 <;> cases x2 : wdB f n p 2 <;> cases x3 : wdB f n p 3 <;> cases x4 : wdB f n p 4 <;> simp only [x0, x1, x2, x3, x4, forall_const, Bool.true_eq_false, Bool.false_eq_true, false_implies, imp_self] at o02 o04 o24 o01 o21 o41 o03 o23 o43 o13 <;> first | decide +kernel | exact absurd o02 id | exact absurd o04 id | skip
def nmC (f : Nat → Nat) (n p : Nat) : Nat := nmB f 32 96 (tS f n p) (tE f n p - tS f n p)
def nmM (f : Nat → Nat) (n p : Nat) : Nat := nmB f 256 0 (tS f n p) (tE f n p - tS f n p)
theorem okN_k {f : Nat → Nat} {n p : Nat} (h : okN f n p = true) : tK f n p = 1 ∧ tE f n p - tS f n p ≤ 8 := by
  unfold okN at h
  rw [Bool.and_eq_true, Bool.and_eq_true] at h
  exact ⟨of_decide_eq_true h.1, of_decide_eq_true h.2.1⟩
theorem nm_bd {f : Nat → Nat} {n p : Nat} (hp : p ≤ n) (h : okN f n p = true) : nmC f n p < 9223372036854775808 ∧ nmM f n p < 9223372036854775808 := by
  obtain ⟨k1, l⟩ := okN_k h
  have t := tK_1 hp k1
  refine ⟨?_, (nm_b hp k1 l (Nat.le_refl _)).1⟩
  have := nmB_lt (f := f) (b := 32) (o := 96) (s := tS f n p) (tE f n p - tS f n p) (fun i hi => by
    have := lw_i.mp (t.2.2 (tS f n p + i) (by omega) (by omega))
    omega)
  have a : 32 ^ (tE f n p - tS f n p) ≤ 32 ^ 8 := Nat.pow_le_pow_right (by decide) l
  have e : 32 ^ 8 = 1099511627776 := by decide
  unfold nmC
  omega
theorem nm_eq {f : Nat → Nat} {n p p' : Nat} (hp : p ≤ n) (hp' : p' ≤ n) (h : okN f n p = true) (h' : okN f n p' = true) : nmC f n p = nmC f n p' ↔ nmM f n p = nmM f n p' := by
  have t := tK_1 hp (okN_k h).1
  have t' := tK_1 hp' (okN_k h').1
  have g : ∀ i, i < tE f n p - tS f n p → 97 ≤ f (tS f n p + i) ∧ f (tS f n p + i) ≤ 122 := fun i hi => lw_i.mp (t.2.2 _ (by omega) (by omega))
  have g' : ∀ i, i < tE f n p' - tS f n p' → 97 ≤ f (tS f n p' + i) ∧ f (tS f n p' + i) ≤ 122 := fun i hi => lw_i.mp (t'.2.2 _ (by omega) (by omega))
  unfold nmC nmM
  rw [nmB_eq _ _ (fun i hi => by have := g i hi; omega) (fun i hi => by have := g' i hi; omega), nmB_eq _ _ (fun i hi => by have := g i hi; omega) (fun i hi => by have := g' i hi; omega)]
theorem fst1_cg {P Q : Nat → Bool} : ∀ n a, (∀ j, a ≤ j → j < a + n → P j = Q j) → fst1 P n a = fst1 Q n a := by
  intro n
  induction n with
  | zero => intro a _; rfl
  | succ n ih =>
    intro a h
    unfold fst1
    rw [h a (Nat.le_refl _) (by omega), ih (a + 1) (fun j h1 h2 => h j (by omega) (by omega))]
/-- the names of m things: their tokens -/
def NmX (hc hm : Hp) (xc xm : Nat) (f : Nat → Nat) (n m : Nat) (N : Nat → Nat) : Prop := ∀ k, k < m → N k ≤ n ∧ okN f n (N k) = true ∧ hL hc xc k = lN (nmC f n (N k)) ∧ hL hm xm k = lN (nmM f n (N k))
def fnd (f : Nat → Nat) (n : Nat) (N : Nat → Nat) (m p : Nat) : Option Nat := fst1 (fun k => decide (nmC f n (N k) = nmC f n p)) m 0
theorem fnd_c {hc hm : Hp} {xc xm n m p : Nat} {f N : Nat → Nat} (x : NmX hc hm xc xm f n m N) (hl : LEN xc ≤ 20) (hm' : m ≤ LEN xc) (hp : p ≤ n) (o : okN f n p = true) : F_X1_find hc xc (nI m) (lN (nmC f n p)) = some (oI (fnd f n N m p)) := c_find hm' hl (nm_bd hp o).1 (fun k hk => ⟨(nm_bd (x k hk).1 (x k hk).2.1).1, (x k hk).2.2.1⟩)
theorem fnd_m {hc hm : Hp} {xc xm n m p : Nat} {f N : Nat → Nat} (x : NmX hc hm xc xm f n m N) (hl : LEN xm ≤ 20) (hm' : m ≤ LEN xm) (hp : p ≤ n) (o : okN f n p = true) : F_X12_find hm xm (nI m) (lN (nmM f n p)) = some (oI (fnd f n N m p)) := by
  rw [m_find hm' hl (nm_bd hp o).2 (fun k hk => ⟨(nm_bd (x k hk).1 (x k hk).2.1).2, (x k hk).2.2.2⟩)]
  unfold fnd
  refine congrArg (fun o => some (oI o)) (fst1_cg m 0 (fun j _ hj => ?_))
  have := nm_eq (x j (by omega)).1 hp (x j (by omega)).2.1 o
  show decide (nmM f n (N j) = nmM f n p) = decide (nmC f n (N j) = nmC f n p)
  by_cases y : nmC f n (N j) = nmC f n p
  · rw [decide_eq_true y, decide_eq_true (this.mp y)]
  · rw [decide_eq_false y, decide_eq_false (fun z => y (this.mpr z))]
