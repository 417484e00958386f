/-! ===== switches, booleans ===== -/
def swt {τ : Type} (x : Int32) : Nat → List (Option τ) → Option τ → Option τ
  | _, [], d => d
  | i, t :: ts, d => if x = nI i then t else swt x (i + 1) ts d
theorem swt_hit {τ : Type} {x : Int32} {d : Option τ} : ∀ (ts : List (Option τ)) (i j : Nat) (t : Option τ), ts[j]? = some t → x = nI (i + j) → i + ts.length < 2 ^ 31 → swt x i ts d = t := by
  intro ts
  induction ts with
  | nil => intro i j t h; simp at h
  | cons a ts ih =>
    intro i j t h hx hl
    simp only [List.length_cons] at hl
    cases j with
    | zero =>
      simp at h
      subst h
      rw [swt, if_pos (by simpa using hx)]
    | succ j =>
      simp at h
      have hj : j < ts.length := (List.getElem?_eq_some_iff.mp h).1
      rw [swt, if_neg, ih (i + 1) j t h (by rw [hx]; congr 1; omega) (by omega)]
      rw [hx]
      intro e
      have := (nI_eq (a := i + (j + 1)) (b := i) (by omega) (by omega)).mp e
      omega
theorem swt_miss {τ : Type} {x : Int32} {d : Option τ} : ∀ (ts : List (Option τ)) (i : Nat), (∀ j, j < ts.length → x ≠ nI (i + j)) → swt x i ts d = d := by
  intro ts
  induction ts with
  | nil => intro i _; rfl
  | cons a ts ih =>
    intro i h
    rw [swt, if_neg (by simpa using h 0 (by simp)), ih (i + 1) (fun j hj => by have := h (j + 1) (by simpa using hj); rwa [show i + (j + 1) = i + 1 + j by omega] at this)]
def SwG {τ : Type} (Γ : Cx) (M : Mi) (lv : List (Nat × Value)) (st : List Value) (h : Hp) (K : τ → Prop) : List Nat → List (Option τ) → Prop
  | [], [] => True
  | g :: gs, t :: ts => EG Γ M g lv st h t K ∧ SwG Γ M lv st h K gs ts
  | _, _ => False
theorem SwG.len {τ : Type} {Γ : Cx} {M : Mi} {lv : List (Nat × Value)} {st : List Value} {h : Hp} {K : τ → Prop} : ∀ {gs : List Nat} {ts : List (Option τ)}, SwG Γ M lv st h K gs ts → gs.length = ts.length
  | [], [], _ => rfl
  | _ :: gs, _ :: ts, q => by simp [SwG.len (gs := gs) (ts := ts) q.2]
  | [], _ :: _, q => q.elim
  | _ :: _, [], q => q.elim
theorem SwG.get {τ : Type} {Γ : Cx} {M : Mi} {lv : List (Nat × Value)} {st : List Value} {h : Hp} {K : τ → Prop} : ∀ {gs : List Nat} {ts : List (Option τ)}, SwG Γ M lv st h K gs ts → ∀ (j g : Nat), gs[j]? = some g → ∃ t, ts[j]? = some t ∧ EG Γ M g lv st h t K
  | [], [], _, j, g, e => by simp at e
  | a :: gs, t :: ts, q, j, g, e => by
    cases j with
    | zero => simp at e; subst e; exact ⟨t, rfl, q.1⟩
    | succ j => exact SwG.get (gs := gs) (ts := ts) q.2 j g (by simpa using e)
  | [], _ :: _, q, _, _, _ => q.elim
  | _ :: _, [], q, _, _, _ => q.elim
section EGS
variable {τ : Type} {Γ : Cx} {M : Mi} {pc npc : Nat} {lv lv' : List (Nat × Value)} {st : List Value} {h : Hp} {t t1 t2 : Option τ} {K : τ → Prop}
theorem x_tsw (hO : Ok Γ M) {dflt lo hi : Int} {offs : Array Int} {n : Nat} {x : Int32} {tgs : List Nat} {dt : Nat} {ts : List (Option τ)} {td : Option τ} (d : DD M pc (.tableswitch dflt lo hi offs) n npc) (hlo : lo = 0) (hd : (pc : Int) + dflt = (dt : Int)) (hof : offs = (tgs.map (fun g : Nat => (g : Int) - (pc : Int))).toArray ∧ hi + 1 = (tgs.length : Int) ∧ tgs.length < 1000) (k : SwG Γ M lv st h K tgs ts) (kd : EG Γ M dt lv st h td K) : EG Γ M pc lv (.int x :: st) h (swt x 0 ts td) K := by
  obtain ⟨p, e, R, s, m, args, below, meth, c, cells, slots, Z, G, tg⟩ := Γ
  obtain ⟨hx, hb, hml, hown, hts, hTF, hSF, hR, hret⟩ := hO
  obtain ⟨d, -⟩ := d
  obtain ⟨ho, hh, hsm⟩ := hof
  subst hlo
  intro z hz hk H locs ls hH hS hl
  have hlen := k.len
  by_cases hc : x.toInt < 0 ∨ hi < x.toInt
  · rw [swt_miss ts 0 (fun j hj e => by
      rw [Nat.zero_add] at e
      rw [e, nI_toInt (by omega)] at hc
      omega)] at hz
    exact lv_tableOut hx hb d hc hd (kd z hz hk H locs ls hH hS hl)
  · have h1 : ¬ x.toInt < 0 := fun q => hc (Or.inl q)
    have h2 : ¬ hi < x.toInt := fun q => hc (Or.inr q)
    obtain ⟨j, hj⟩ : ∃ j : Nat, x.toInt = (j : Int) := ⟨x.toInt.toNat, by omega⟩
    have hjl : j < tgs.length := by omega
    obtain ⟨t, ht, hg⟩ := k.get j tgs[j] (List.getElem?_eq_getElem hjl)
    have hxj : x = nI j := by
      apply Int32.toInt_inj.mp
      rw [hj, nI_toInt (by omega)]
    rw [swt_hit ts 0 j t ht (by rw [Nat.zero_add]; exact hxj) (by omega)] at hz
    refine lv_tableIn (off := (tgs[j] : Int) - (pc : Int)) (tgt := tgs[j]) hx hb d h1 h2 ?_ (by omega) (hg z hz hk H locs ls hH hS hl)
    rw [ho, hj]
    simp [hjl]
theorem x_zretv (hO : Ok Γ M) (hM : M.2.2.2.1 = some .boolean) {v : Int32} {o : τ} (hv : v &&& 1 = v) (d : DD M pc .ireturn 1 npc) (k : K o → (h, some (.int v)) = tgt Γ) : EG Γ M pc lv [.int v] h (some o) K := x_zret hO hM d (fun q => by rw [hv]; exact k q)
end EGS
