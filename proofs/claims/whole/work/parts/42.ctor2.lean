/-- as FL, of one's own pool -/
def FK (own : String) (i ci k t : Nat) (fin : Bool) (ds : String) : Prop := ∃ (C : String) (T : u_T) (N : Nat), vwCl[ci]? = some (C, T, N) ∧ k < N ∧ (T k).1 = C ∧ (T k).2.2.2 = fin ∧ (T k).2.2.1 = ds ∧ (FT ci)[k]? = some t ∧ ci < 13 ∧ C = own ∧
  Cond.fieldLink own i C (T k).2.1 (T k).2.2.1 ∈ lw_good
section EC2
variable {Γ : Cx} {M : Mi} {mc ms k sl pc npc : Nat} {lv lv' : List (Nat × Value)} {st : List Value} {h : Hc}
theorem c_newq (hO : OC Γ M mc ms) (b : Nat) (hbb : h.1 = b) {n : Int32} {N i : Nat} {C : String} {kd : Nat} (hcl : Cond.classLink M.1.cls i C ∈ lw_good) (hao : ∀ s : State, s = Γ.2.2.2.1 → va_AO C s) (hkd : (kd = 16 ∧ C = "HoleDeck$House") ∨ (kd = 17 ∧ C = "HoleDeck$Tray")) (hn : n = nI N) (hN : N < 65536) (hk : KD b = kd) (hl0 : LEN b = N) (h1 : k + 1 ≤ mc) (h2 : sl + N ≤ ms) (d : DD M pc (.anewarray i) 3 npc) (kk : EC Γ M (k + 1) (sl + N) npc lv (.ref (gb (cG Γ) + b) :: st) (cN h)) : EC Γ M k sl pc lv (.int n :: st) h := by
  obtain ⟨p, e, R, s, m, args, below, meth, c, cells, slots, Z, G, tg⟩ := Γ
  obtain ⟨hx, hb, hml, hown, hts, hTF, hgb, ⟨hR1, hR2, hR3, hR4⟩⟩ := hO
  subst hbb
  obtain ⟨d, rfl⟩ := d
  subst hn
  intro H locs ls hH hS hl
  have hcl0 : (nI N).toNatClampNeg = N := nI_clamp (by omega)
  refine W.anew hx hb hown (hts _ hcl) (va_AO.use (hao s rfl)) rfl d rfl (nI_pos (by omega)) (by rw [hcl0]; omega) (Nat.le_trans h1 hR3) (by rw [hcl0]; exact Nat.le_trans h2 hR4) fun cA kA comp f1 f2 f3 f4 => ?_
  have hcA : cA = gC G kd := by
    rcases hkd with ⟨rfl, rfl⟩ | ⟨rfl, rfl⟩
    · obtain ⟨_, _, _, _, _, q⟩ := (hTF.1.2 3 (gC G 16, .object "HoleDeck$House") rfl).2
      exact Option.some.inj (f1.symm.trans q)
    · obtain ⟨_, _, _, _, _, q⟩ := (hTF.1.2 4 (gC G 17, .object "HoleDeck$Tray") rfl).2
      exact Option.some.inj (f1.symm.trans q)
  subst hcA
  rw [hcl0]
  generalize hH1 : H.push ({ cls := gC G kd, slots := Array.replicate N .null, vm := .none } : Cell) = H1
  have e1 : H1[gb G + h.1]? = some (arrV (gC G kd) N (fun _ => .null)) := by
    rw [← hH1, ← hH.1, Array.getElem?_push_size, ← arrV_new]
  have z1 : H1.size = gb G + h.1 + 1 := by rw [← hH1, Array.size_push, hH.1]
  have o1 : ∀ q, q < H.size → H1[q]? = H[q]? := fun q hq => by rw [← hH1, Array.getElem?_push_lt hq, Array.getElem?_eq_getElem hq]
  rw [hH.1]
  refine kk H1 locs ls ⟨by rw [z1]; rfl, ?_⟩ ⟨Nat.le_trans hS.1 (by rw [z1, hH.1]; omega), fun x g1 g2 => (o1 x (Nat.lt_of_lt_of_le g1 hS.1)).trans (hS.2.1 x g1 g2), hS.2.2⟩ hl
  rw [cP_new]
  refine (hH.2.kept (fun q x hx => o1 x.1 (hH.2 q x hx).lt)).app (fun q x hx => ?_)
  have hz : q < 1 := (List.getElem?_eq_some_iff.mp hx).1
  rw [show q = 0 by omega] at hx
  cases hx
  show va_at _ _ (gb G + h.1, cE G (cN h) h.1) H1
  have he : cE G (cN h) h.1 = .inl (gC G kd, N, .inr (.inr (.inr (.inr (fun _ => none))))) := by
    unfold cE cAr
    rcases hkd with ⟨rfl, rfl⟩ | ⟨rfl, rfl⟩ <;>
    · rw [hk, if_neg (by decide), if_neg (by decide), if_neg (by decide), hl0]
      simp only [cN, up_eq]
      rfl
  rw [he]
  exact e1
theorem cE_o {G : Gl} {c ci : Nat} (hk : KD c = ci) (hci : ci < 13) : cE G h c = .inr (ci, (FT ci).mapIdx (fun k t => cV G h c k t)) := by
  subst hk
  unfold cE
  rw [if_pos hci]
theorem w_putc {p : Program} {l : Launch} {e : Env} {R : Room} {s : State} {m : MethodId} {args : Array Value} {below : List Frame} {meth : Method} {c : Code} {H : Heap} {locs : List Loc} {cells slots : Nat} {Q : State → Prop} {cc : ByteArray} {ls : Array Slot} {G : Gl} {own : String} {i ci j ty a : Nat} {fin : Bool} {ds : String} {H0 : Heap} {fty : FieldType} {v : Value} {h' : Hc}
    (hx : p.tables.exec = Jvm.exec) (hb : c.code = cc) (hown : s.vm.findClass own = some m.cls) (hts : ∀ w ∈ lw_good, w.before args s = true) (hTF : TF G s) (hH : HC G h H) (hS : va_S (gA G) H0 H locs) (fl : FK own i ci j ty fin ds) (hin : meth.name = "<init>") (ha : a < h.1) (hka : KD a = ci) (hd : decode cc pc = .ok (.putfield i, 3))
    (hp : parseFieldDescriptor ds = some fty) (hn : narrow fty v = v) (hf : fits fty v = true) (hn1 : h'.1 = h.1) (hent : ∀ d, d ≠ a → cE G h' d = cE G h d) (hv : ∀ q tq, (FT ci)[q]? = some tq → cV G h' a q tq = if q = j then v else cV G h a q tq)
    (kk : ∀ (H1 : Heap) (locs1 : List Loc), HC G h' H1 → va_S (gA G) H0 H1 locs1 → W p l e R s m args below meth c H1 locs1 cells slots Q (F0 m (pc + 3) ls st)) : W p l e R s m args below meth c H locs cells slots Q (F0 m pc ls (v :: .ref (gb G + a) :: st)) := by
  obtain ⟨C, T, N, hc, hk, h1, h2, h3, h4, h5, hC', h6⟩ := fl
  obtain ⟨⟨ty0, hty⟩, hnm, hN⟩ := cl_ty ci C T N hc
  have he : (cP G h)[a]? = some (gb G + a, .inr (ci, (FT ci).mapIdx (fun k t => cV G h a k t))) := by rw [cP_get ha, cE_o hka h5]
  have hset : ((FT ci).mapIdx (fun k t => cV G h a k t)).set j v = (FT ci).mapIdx (fun k t => cV G h' a k t) := by
    apply List.ext_getElem?
    intro q
    rw [List.getElem?_set, List.getElem?_mapIdx, List.getElem?_mapIdx]
    cases hj : (FT ci)[q]? with
    | none =>
      have hlj : ¬ q < (FT ci).length := fun z => by rw [List.getElem?_eq_getElem z] at hj; cases hj
      by_cases e1 : j = q
      · subst e1
        exact absurd (hN ▸ hk) hlj
      · rw [if_neg e1]; rfl
    | some tj =>
      have hlj : q < (FT ci).length := (List.getElem?_eq_some_iff.mp hj).1
      simp only [Option.map_some, hv q tj hj]
      by_cases e1 : j = q
      · subst e1
        simp [hlj]
      · rw [if_neg e1, if_neg (fun z => e1 z.symm)]
  have hpool : (cP G h).set a (gb G + a, .inr (ci, ((FT ci).mapIdx (fun k t => cV G h a k t)).set j v)) = cP G h' := by
    rw [hset, ← cE_o (G := G) (h := h') hka h5]
    exact cP_set hn1 hent
  have hl : j < ((FT ci).mapIdx (fun k t => cV G h a k t)).length := by rw [List.length_mapIdx, hN]; exact hk
  have key : ∀ (H1 : Heap) (locs1 : List Loc), va_P (gD G) vwCl ((cP G h).set a (gb G + a, .inr (ci, ((FT ci).mapIdx (fun k t => cV G h a k t)).set j v))) H1 → H1.size = H.size → va_S (gA G) H0 H1 locs1 → W p l e R s m args below meth c H1 locs1 cells slots Q (F0 m (pc + 3) ls st) := fun H1 locs1 hP1 hz hS1 => kk H1 locs1 ⟨by rw [hz, hn1]; exact hH.1, by rw [← hpool]; exact hP1⟩ hS1
  have hap := va_apart (own := own) hts (cl_in ci C T N hc) ty0 hty hnm hTF.1 hc
  obtain ⟨r, g1, cell, q1, q2, q3, q4⟩ := hH.2 a _ he
  have hr : r = (C, T, N) := Option.some.inj (g1.symm.trans hc)
  subst hr
  obtain ⟨hSl, hfc, kC, hkC, hkind⟩ := hTF.1.1 ci _ hc
  obtain ⟨cf, kf, fi, f, hi, hsl⟩ := hSl j hk
  have hst := (u_facts hfc hkC (u_lays hts (cl_in ci C T N hc) hk) hi).1
  have hlay := hts _ (cl_in ci C T N hc _ (u_in_lay hk))
  unfold u_lay at hlay
  rw [h2] at hlay
  cases fin with
  | false =>
    rw [if_neg (by decide)] at hlay
    have h6' := u_store hfc hkC hkind hlay hi (by rw [h3]; exact hp) hn hf
    refine W.putK hx hb (f := f) ⟨hown, hts _ h6, ⟨_, _, _, by rw [h1] at hi; exact hi⟩, hst⟩ (by rw [q2]; exact h6') q1 q3 (by rw [hsl]; exact k2_hasslot (q4 j hk)) rfl rfl hd fun H' e1 e2 e3 => ?_
    rw [hsl] at e1 ⊢
    exact key H' _ (hH.2.set cP_D he ⟨_, hc, t_OB.to (V := updV (vp_V _) j v) ⟨_, e1, q2, q3, t_set q4 hap hk v⟩ (fun z _ => vp_updV_set hl v z)⟩ e3) e2 (hS.put e2 e3 (cP_D.2 a _ he))
  | true =>
    rw [if_pos rfl] at hlay
    have hcf : m.cls = cf := by
      obtain ⟨_, _, c', _, _, _, -, -, hf', -, -, -, hown2, -⟩ := Cond.laysFinal_spec hlay
      have e1 : c' = cf := by have := hi.symm.trans hf'; simp at this; exact this.1.symm
      rw [h1, hC'] at hown2
      rw [← e1]; exact Option.some.inj (hown.symm.trans hown2)
    have h6' := u_fits hfc hkC hkind (Or.inr hlay) hi (by rw [h3]; exact hp) hn hf
    refine W.putFinK hx hb hown (hts _ h6) (by rw [h1] at hi; exact hi) hst hcf hin (by rw [q2]; exact h6') q1 q3 (by rw [hsl]; exact k2_hasslot (q4 j hk)) rfl rfl hd fun H' e1 e2 e3 => ?_
    rw [hsl] at e1 ⊢
    exact key H' _ (hH.2.set cP_D he ⟨_, hc, t_OB.to (V := updV (vp_V _) j v) ⟨_, e1, q2, q3, t_set q4 hap hk v⟩ (fun z _ => vp_updV_set hl v z)⟩ e3) e2 (hS.put e2 e3 (cP_D.2 a _ he))
theorem fk_t {own : String} {i ci k t : Nat} {fin : Bool} {ds : String} (fl : FK own i ci k t fin ds) : (FT ci)[k]? = some t := by obtain ⟨C, T, N, _, _, _, _, _, q, _⟩ := fl; exact q
theorem cV_I {G : Gl} {a k : Nat} {v : Int32} {L : List Nat} (hk : L[k]? = some 0) : ∀ j tj, L[j]? = some tj → cV G (cI h a k v) a j tj = if j = k then .int v else cV G h a j tj := by
  intro j tj hj
  by_cases e1 : j = k
  · subst e1
    rw [hk] at hj
    cases hj
    simp [cV, cI, up_eq, upd]
  · rw [if_neg e1]
    simp [cV, cI, up_eq, upd, e1]
theorem cV_L {G : Gl} {a k : Nat} {v : Int64} {L : List Nat} (hk : L[k]? = some 1) : ∀ j tj, L[j]? = some tj → cV G (cL h a k v) a j tj = if j = k then .long v else cV G h a j tj := by
  intro j tj hj
  by_cases e1 : j = k
  · subst e1
    rw [hk] at hj
    cases hj
    simp [cV, cL, up_eq, vp_updL]
  · rw [if_neg e1]
    simp [cV, cL, up_eq, vp_updL, e1]
theorem cV_R {G : Gl} {a k b t : Nat} {L : List Nat} (ht : t = 2 ∨ t = 3) (hk : L[k]? = some t) : ∀ j tj, L[j]? = some tj → cV G (cR h a k b) a j tj = if j = k then .ref (gb G + b) else cV G h a j tj := by
  intro j tj hj
  by_cases e1 : j = k
  · subst e1
    rw [hk] at hj
    cases hj
    rcases ht with rfl | rfl <;> simp [cV, cR, up_eq, va_rf]
  · rw [if_neg e1]
    simp [cV, cR, up_eq, up_ne e1]
theorem cE_I {G : Gl} {a k : Nat} {v : Int32} (d : Nat) (hd : d ≠ a) : cE G (cI h a k v) d = cE G h d := by simp only [cE, cV, cAr, cI, up_ne hd]
theorem cE_L {G : Gl} {a k : Nat} {v : Int64} (d : Nat) (hd : d ≠ a) : cE G (cL h a k v) d = cE G h d := by simp only [cE, cV, cAr, cL, up_ne hd]
theorem cE_R {G : Gl} {a k b : Nat} (d : Nat) (hd : d ≠ a) : cE G (cR h a k b) d = cE G h d := by simp only [cE, cV, cAr, cR, up_ne hd]
theorem c_putI (hO : OC Γ M mc ms) (hi : isInit Γ) {i ci j a : Nat} {fin : Bool} {v : Int32} (fl : FK M.1.cls i ci j 0 fin "I") (ha : a < h.1) (hka : KD a = ci) (d : DD M pc (.putfield i) 3 npc) (kk : EC Γ M k sl npc lv st (cI h a j v)) : EC Γ M k sl pc lv (.int v :: .ref (gb (cG Γ) + a) :: st) h := by
  obtain ⟨p, e, R, s, m, args, below, meth, c, cells, slots, Z, G, tg⟩ := Γ
  obtain ⟨hx, hb, hml, hown, hts, hTF, hgb, hR⟩ := hO
  obtain ⟨d, rfl⟩ := d
  intro H locs ls hH hS hl
  exact w_putc (fty := .int) (h' := cI h a j v) hx hb hown hts hTF hH hS fl hi ha hka d (by decide +kernel) rfl rfl rfl cE_I (cV_I (fk_t fl)) (fun H1 l1 hH1 hS1 => kk H1 l1 ls hH1 hS1 hl)
theorem c_putZ (hO : OC Γ M mc ms) (hi : isInit Γ) {i ci j a : Nat} {fin : Bool} {v : Int32} (hv : v = 0 ∨ v = 1) (fl : FK M.1.cls i ci j 0 fin "Z") (ha : a < h.1) (hka : KD a = ci) (d : DD M pc (.putfield i) 3 npc) (kk : EC Γ M k sl npc lv st (cI h a j v)) : EC Γ M k sl pc lv (.int v :: .ref (gb (cG Γ) + a) :: st) h := by
  obtain ⟨p, e, R, s, m, args, below, meth, c, cells, slots, Z, G, tg⟩ := Γ
  obtain ⟨hx, hb, hml, hown, hts, hTF, hgb, hR⟩ := hO
  obtain ⟨d, rfl⟩ := d
  intro H locs ls hH hS hl
  exact w_putc (fty := .boolean) (h' := cI h a j v) hx hb hown hts hTF hH hS fl hi ha hka d (by decide +kernel) (by rcases hv with rfl | rfl <;> rfl) (by rcases hv with rfl | rfl <;> rfl) rfl cE_I (cV_I (fk_t fl)) (fun H1 l1 hH1 hS1 => kk H1 l1 ls hH1 hS1 hl)
theorem c_putL (hO : OC Γ M mc ms) (hi : isInit Γ) {i ci j a : Nat} {fin : Bool} {v : Int64} (fl : FK M.1.cls i ci j 1 fin "J") (ha : a < h.1) (hka : KD a = ci) (d : DD M pc (.putfield i) 3 npc) (kk : EC Γ M k sl npc lv st (cL h a j v)) : EC Γ M k sl pc lv (.long v :: .ref (gb (cG Γ) + a) :: st) h := by
  obtain ⟨p, e, R, s, m, args, below, meth, c, cells, slots, Z, G, tg⟩ := Γ
  obtain ⟨hx, hb, hml, hown, hts, hTF, hgb, hR⟩ := hO
  obtain ⟨d, rfl⟩ := d
  intro H locs ls hH hS hl
  exact w_putc (fty := .long) (h' := cL h a j v) hx hb hown hts hTF hH hS fl hi ha hka d (by decide +kernel) rfl rfl rfl cE_L (cV_L (fk_t fl)) (fun H1 l1 hH1 hS1 => kk H1 l1 ls hH1 hS1 hl)
theorem c_putR (hO : OC Γ M mc ms) (hi : isInit Γ) {i ci j a b t : Nat} {fin : Bool} {ds : String} {fty : FieldType} (ht : t = 2 ∨ t = 3) (hp : parseFieldDescriptor ds = some fty) (hrt : (∃ n, fty = .object n) ∨ ∃ q, fty = .array q) (fl : FK M.1.cls i ci j t fin ds) (ha : a < h.1) (hka : KD a = ci) (d : DD M pc (.putfield i) 3 npc) (kk : EC Γ M k sl npc lv st (cR h a j b)) : EC Γ M k sl pc lv (.ref (gb (cG Γ) + b) :: .ref (gb (cG Γ) + a) :: st) h := by
  obtain ⟨p, e, R, s, m, args, below, meth, c, cells, slots, Z, G, tg⟩ := Γ
  obtain ⟨hx, hb, hml, hown, hts, hTF, hgb, hR⟩ := hO
  obtain ⟨d, rfl⟩ := d
  intro H locs ls hH hS hl
  exact w_putc (fty := fty) (h' := cR h a j b) (v := .ref (gb G + b)) hx hb hown hts hTF hH hS fl hi ha hka d hp (by rcases hrt with ⟨n, rfl⟩ | ⟨q, rfl⟩ <;> rfl) (by rcases hrt with ⟨n, rfl⟩ | ⟨q, rfl⟩ <;> rfl) rfl cE_R (cV_R ht (fk_t fl)) (fun H1 l1 hH1 hS1 => kk H1 l1 ls hH1 hS1 hl)
theorem c_getR (hO : OC Γ M mc ms) {i ci j a b t : Nat} {fin : Bool} {ds : String} (ht : t = 2 ∨ t = 3) (fl : FK M.1.cls i ci j t fin ds) (ha : a < h.1) (hka : KD a = ci) (hb' : h.2.2.2 a j = some b) (d : DD M pc (.getfield i) 3 npc) (kk : EC Γ M k sl npc lv (.ref (gb (cG Γ) + b) :: st) h) : EC Γ M k sl pc lv (.ref (gb (cG Γ) + a) :: st) h := by
  obtain ⟨p, e, R, s, m, args, below, meth, c, cells, slots, Z, G, tg⟩ := Γ
  obtain ⟨hx, hb, hml, hown, hts, hTF, hgb, hR⟩ := hO
  obtain ⟨d, rfl⟩ := d
  intro H locs ls hH hS hl
  obtain ⟨C, T, N, hc, hk, h1, h2, h3, h4, h5, hC', h6⟩ := fl
  have he : (cP G h)[a]? = some (gb G + a, .inr (ci, (FT ci).mapIdx (fun k t => cV G h a k t))) := by rw [cP_get ha, cE_o hka h5]
  have hv : ((FT ci).mapIdx (fun k t => cV G h a k t))[j]? = some (.ref (gb G + b)) := by
    rw [List.getElem?_mapIdx, h4]
    rcases ht with rfl | rfl <;> simp [cV, hb', va_rf]
  exact va_get (C := C) (T := T) (N := N) hx hb hts (cl_in ci C T N hc) hown hTF.1 hH.2 a he hc j hk (hts _ h6) (by rw [h1]; exact fun _ q => q) hv d (kk H locs ls hH hS hl)
theorem c_iast (hO : OC Γ M mc ms) {a j : Nat} {i v : Int32} (ha : a < h.1) (hka : KD a = 14) (hi : i = nI j) (hj : j < LEN a) (hL : LEN a < 65536) (d : DD M pc .iastore 1 npc) (kk : EC Γ M k sl npc lv st (cI h a j v)) : EC Γ M k sl pc lv (.int v :: .int i :: .ref (gb (cG Γ) + a) :: st) h := by
  obtain ⟨p, e, R, s, m, args, below, meth, c, cells, slots, Z, G, tg⟩ := Γ
  obtain ⟨hx, hb, hml, hown, hts, hTF, hgb, hR⟩ := hO
  obtain ⟨d, rfl⟩ := d
  subst hi
  intro H locs ls hH hS hl
  have he : ∀ h : Hc, cE G h a = .inl (gC G 14, LEN a, .inl (h.2.1 a)) := fun h => by
    unfold cE cAr
    rw [hka, if_neg (by decide), if_pos (by decide)]
  have hw := W.iast (H := H) (locs := locs) (Q := Z) (p := p) (l := gl G) (e := e) (R := R) (s := s) (m := m) (args := args) (below := below) (meth := meth) (c := c) (cells := k) (slots := sl) hx hb (a := gb G + a) (cell := vp_cell (gC G 14) (LEN a, .inl (h.2.1 a))) (j := nI j) (x := v) (by have := hH.2 a _ (cP_get ha); rw [he] at this; exact this) ((hTF.1.2 1 _ rfl).1 (LEN a) (fun q => .int (h.2.1 a q))) (fun q => by cases q) (by show ¬ (nI j < 0 ∨ (arrV _ _ _).slots.size ≤ _); rw [arrV_size]; exact vp_in_nI hj (by omega)) (g := F0 m pc ls (.int v :: .int (nI j) :: .ref (gb G + a) :: st)) rfl rfl d
  refine hw fun H1 e1 z1 o1 => ?_
  rw [nI_clamp (by omega)] at e1
  refine kk H1 _ ls ⟨by rw [z1]; exact hH.1, ?_⟩ (hS.put z1 o1 (Nat.le_add_right _ _)) hl
  have := hH.2.set (p := a) cP_D (cP_get ha) (e := cE G (cI h a j v) a) (H1 := H1) (by
    rw [he]
    show H1[gb G + a]? = some (vp_cell _ _)
    rw [e1, vp_cell_i, vp_cell_i, arrV_store]
    congr 2
    funext q
    by_cases hq : q = j
    · subst hq
      simp [updV, cI, up_eq, upd]
    · simp [updV, cI, up_eq, upd, hq]) o1
  have e2 : (cP G h).set a (gb G + a, cE G (cI h a j v) a) = cP G (cI h a j v) := cP_set rfl cE_I
  rw [e2] at this
  exact this
end EC2
