/-! ===== constructors: cells come one behind another ===== -/
abbrev Hc : Type := Nat × (Nat → Nat → Int32) × (Nat → Nat → Int64) × (Nat → Nat → Option Nat)
def cV (G : Gl) (h : Hc) (c k t : Nat) : Value := if t = 0 then .int (h.2.1 c k) else if t = 1 then .long (h.2.2.1 c k) else va_rf ((h.2.2.2 c k).map (fun a => gb G + a))
def cAr (G : Gl) (h : Hc) (c : Nat) : vp_A := (LEN c, if KD c < 15 then .inl (h.2.1 c) else if KD c = 15 then .inr (.inl (h.2.2.1 c)) else .inr (.inr (.inr (.inr (fun k => (h.2.2.2 c k).map (fun a => gb G + a))))))
def cE (G : Gl) (h : Hc) (c : Nat) : va_E := if KD c < 13 then .inr (KD c, (FT (KD c)).mapIdx (fun k t => cV G h c k t)) else .inl (gC G (KD c), cAr G h c)
def cP (G : Gl) (h : Hc) : va_W := (List.range h.1).map (fun c => (gb G + c, cE G h c))
def HC (G : Gl) (h : Hc) (H : Heap) : Prop := H.size = gb G + h.1 ∧ va_P (gD G) vwCl (cP G h) H
def cN (h : Hc) : Hc := (h.1 + 1, va_up h.2.1 h.1 (fun _ => 0), va_up h.2.2.1 h.1 (fun _ => 0), va_up h.2.2.2 h.1 (fun _ => none))
def cI (h : Hc) (c k : Nat) (v : Int32) : Hc := (h.1, va_up h.2.1 c (upd (h.2.1 c) k v), h.2.2.1, h.2.2.2)
def cL (h : Hc) (c k : Nat) (v : Int64) : Hc := (h.1, h.2.1, va_up h.2.2.1 c (vp_updL (h.2.2.1 c) k v), h.2.2.2)
def cR (h : Hc) (c k a : Nat) : Hc := (h.1, h.2.1, h.2.2.1, va_up h.2.2.2 c (va_up (h.2.2.2 c) k (some a)))
theorem cP_get {G : Gl} {h : Hc} {c : Nat} (hc : c < h.1) : (cP G h)[c]? = some (gb G + c, cE G h c) := by simp [cP, hc]
theorem cP_lt {G : Gl} {h : Hc} {c : Nat} {q : Nat × va_E} (hq : (cP G h)[c]? = some q) : c < h.1 ∧ q = (gb G + c, cE G h c) := by
  have h1 : c < h.1 := by
    have := (List.getElem?_eq_some_iff.mp hq).1
    simpa [cP] using this
  exact ⟨h1, Option.some.inj (hq.symm.trans (cP_get h1))⟩
theorem cP_D {G : Gl} {h : Hc} : va_D (gA G) (cP G h) := by
  refine ⟨fun i j p q hp hq e => ?_, fun k q hq => ?_⟩
  · obtain ⟨-, rfl⟩ := cP_lt hp
    obtain ⟨-, rfl⟩ := cP_lt hq
    exact Nat.add_left_cancel e
  · obtain ⟨-, rfl⟩ := cP_lt hq
    exact Nat.le_add_right _ _
theorem cP_set {G : Gl} {h h' : Hc} {c : Nat} (hn : h'.1 = h.1) (hd : ∀ d, d ≠ c → cE G h' d = cE G h d) : (cP G h).set c (gb G + c, cE G h' c) = cP G h' := by
  apply List.ext_getElem?
  intro i
  rw [List.getElem?_set]
  by_cases hi : i < h.1
  · by_cases hc : c = i
    · subst hc
      rw [if_pos rfl, if_pos (by simpa [cP] using hi), cP_get (by rw [hn]; exact hi)]
    · rw [if_neg hc, cP_get hi, cP_get (by rw [hn]; exact hi), hd i (fun e => hc e.symm)]
  · have h1 : (cP G h)[i]? = none := by simp [cP]; omega
    have h2 : (cP G h')[i]? = none := by simp [cP, hn]; omega
    by_cases hc : c = i
    · subst hc
      rw [if_pos rfl, if_neg (by simpa [cP] using hi), h2]
    · rw [if_neg hc, h1, h2]
theorem cP_new {G : Gl} {h : Hc} : cP G (cN h) = cP G h ++ [(gb G + h.1, cE G (cN h) h.1)] := by
  show (List.range (h.1 + 1)).map (fun c => (gb G + c, cE G (cN h) c)) = _
  rw [List.range_succ, List.map_append]
  congr 1
  apply List.map_congr_left
  intro c hc
  have hc' : c ≠ h.1 := Nat.ne_of_lt (List.mem_range.mp hc)
  simp only [cE, cV, cAr, cN, up_ne hc']
def EC (Γ : Cx) (M : Mi) (k sl pc : Nat) (lv : List (Nat × Value)) (st : List Value) (h : Hc) : Prop := match Γ with
  | (p, e, R, s, m, args, below, meth, c, _, _, Z, G, _) => ∀ (H : Heap) (locs : List Loc) (ls : Array Slot), HC G h H → va_S (gA G) s.heap H locs → lv_has ls M.2.2.1 lv → W p (gl G) e R s m args below meth c H locs k sl Z (F0 m pc ls st)
/-- as Ok, for constructors and the law's beginning; mc cells, ms slots may be made -/
def OC (Γ : Cx) (M : Mi) (mc ms : Nat) : Prop := match Γ with
  | (p, _, R, s, m, args, _, _, c, _, _, _, G, _) =>
    p.tables.exec = Jvm.exec ∧ c.code = M.2.1 ∧ c.maxLocals = M.2.2.1 ∧ s.vm.findClass M.1.cls = some m.cls ∧ (∀ w ∈ lw_good, w.before args s = true) ∧ TF G s ∧ gb G ≤ s.heap.size ∧ (M.2.2.2.2 ≤ R.frames ∧ 37 * M.2.2.2.2 ≤ R.locals ∧ mc ≤ R.cells ∧ ms ≤ R.slots)
def isInit (Γ : Cx) : Prop := Γ.2.2.2.2.2.2.2.1.name = "<init>"
section ECR
variable {Γ : Cx} {M : Mi} {mc ms k sl pc npc : Nat} {lv lv' : List (Nat × Value)} {st : List Value} {h : Hc}
theorem c_aload_n (hO : OC Γ M mc ms) (j : Nat) {f : Fin 4} {i x : Nat} (hi : (f : Nat) = i) (hj : lv[j]? = some (i, .ref x)) (d : DD M pc (.aload_n f) 1 npc) (kk : EC Γ M k sl npc lv (.ref x :: st) h) : EC Γ M k sl pc lv st h := by
  obtain ⟨p, e, R, s, m, args, below, meth, c, cells, slots, Z, G, tg⟩ := Γ
  obtain ⟨hx, hb, hml, hown, hts, hTF, hgb, hR⟩ := hO
  obtain ⟨d, rfl⟩ := d
  intro H locs ls hH hS hl
  exact lv_aload_n hx hb d hi (lv_at hl j hj) (kk H locs ls hH hS hl)
theorem c_iload_n (hO : OC Γ M mc ms) (j : Nat) {f : Fin 4} {i : Nat} {x : Int32} (hi : (f : Nat) = i) (hj : lv[j]? = some (i, .int x)) (d : DD M pc (.iload_n f) 1 npc) (kk : EC Γ M k sl npc lv (.int x :: st) h) : EC Γ M k sl pc lv st h := by
  obtain ⟨p, e, R, s, m, args, below, meth, c, cells, slots, Z, G, tg⟩ := Γ
  obtain ⟨hx, hb, hml, hown, hts, hTF, hgb, hR⟩ := hO
  obtain ⟨d, rfl⟩ := d
  intro H locs ls hH hS hl
  exact lv_iload_n hx hb d hi (lv_at hl j hj) (kk H locs ls hH hS hl)
theorem c_iconst (hO : OC Γ M mc ms) {n : Int} {v : Int32} (hv : Int32.ofInt n = v) (d : DD M pc (.iconst n) 1 npc) (kk : EC Γ M k sl npc lv (.int v :: st) h) : EC Γ M k sl pc lv st h := by
  obtain ⟨p, e, R, s, m, args, below, meth, c, cells, slots, Z, G, tg⟩ := Γ
  obtain ⟨hx, hb, hml, hown, hts, hTF, hgb, hR⟩ := hO
  obtain ⟨d, rfl⟩ := d
  intro H locs ls hH hS hl
  exact lv_iconst hx hb d hv (kk H locs ls hH hS hl)
theorem c_bipush (hO : OC Γ M mc ms) {n : Int} {v : Int32} (hv : (Int8.ofInt n).toInt32 = v) (d : DD M pc (.bipush n) 2 npc) (kk : EC Γ M k sl npc lv (.int v :: st) h) : EC Γ M k sl pc lv st h := by
  obtain ⟨p, e, R, s, m, args, below, meth, c, cells, slots, Z, G, tg⟩ := Γ
  obtain ⟨hx, hb, hml, hown, hts, hTF, hgb, hR⟩ := hO
  obtain ⟨d, rfl⟩ := d
  intro H locs ls hH hS hl
  exact lv_bipush hx hb d hv (kk H locs ls hH hS hl)
theorem c_sipush (hO : OC Γ M mc ms) {n : Int} {v : Int32} (hv : (Int16.ofInt n).toInt32 = v) (d : DD M pc (.sipush n) 3 npc) (kk : EC Γ M k sl npc lv (.int v :: st) h) : EC Γ M k sl pc lv st h := by
  obtain ⟨p, e, R, s, m, args, below, meth, c, cells, slots, Z, G, tg⟩ := Γ
  obtain ⟨hx, hb, hml, hown, hts, hTF, hgb, hR⟩ := hO
  obtain ⟨d, rfl⟩ := d
  intro H locs ls hH hS hl
  exact lv_sipush hx hb d hv (kk H locs ls hH hS hl)
theorem c_lconst (hO : OC Γ M mc ms) {n : Fin 2} {v : Int64} (hv : Int64.ofNat (n : Nat) = v) (d : DD M pc (.lconst n) 1 npc) (kk : EC Γ M k sl npc lv (.long v :: st) h) : EC Γ M k sl pc lv st h := by
  obtain ⟨p, e, R, s, m, args, below, meth, c, cells, slots, Z, G, tg⟩ := Γ
  obtain ⟨hx, hb, hml, hown, hts, hTF, hgb, hR⟩ := hO
  obtain ⟨d, rfl⟩ := d
  intro H locs ls hH hS hl
  exact lv_lconst hx hb d hv (kk H locs ls hH hS hl)
theorem c_dup (hO : OC Γ M mc ms) {x : Nat} (d : DD M pc .dup 1 npc) (kk : EC Γ M k sl npc lv (.ref x :: .ref x :: st) h) : EC Γ M k sl pc lv (.ref x :: st) h := by
  obtain ⟨p, e, R, s, m, args, below, meth, c, cells, slots, Z, G, tg⟩ := Γ
  obtain ⟨hx, hb, hml, hown, hts, hTF, hgb, hR⟩ := hO
  obtain ⟨d, rfl⟩ := d
  intro H locs ls hH hS hl
  exact lv_dup hx hb d rfl (kk H locs ls hH hS hl)
theorem c_istore_n (hO : OC Γ M mc ms) {f : Fin 4} {i : Nat} {x : Int32} (hi : (f : Nat) = i) (lv' : List (Nat × Value)) (d : DD M pc (.istore_n f) 1 npc) (hn : i < M.2.2.1) (he : (i, Value.int x) :: lv.filter (fun q => !(q.1 == i) && !(q.1 + 1 == i && q.2.category == 2)) = lv') (kk : EC Γ M k sl npc lv' st h) : EC Γ M k sl pc lv (.int x :: st) h := by
  obtain ⟨p, e, R, s, m, args, below, meth, c, cells, slots, Z, G, tg⟩ := Γ
  obtain ⟨hx, hb, hml, hown, hts, hTF, hgb, hR⟩ := hO
  obtain ⟨d, rfl⟩ := d
  intro H locs ls hH hS hl
  exact lv_istore_n hx hb d hi hl hn he (fun ls' hl' => kk H locs ls' hH hS hl')
theorem c_astore_n (hO : OC Γ M mc ms) {f : Fin 4} {i x : Nat} (hi : (f : Nat) = i) (lv' : List (Nat × Value)) (d : DD M pc (.astore_n f) 1 npc) (hn : i < M.2.2.1) (he : (i, Value.ref x) :: lv.filter (fun q => !(q.1 == i) && !(q.1 + 1 == i && q.2.category == 2)) = lv') (kk : EC Γ M k sl npc lv' st h) : EC Γ M k sl pc lv (.ref x :: st) h := by
  obtain ⟨p, e, R, s, m, args, below, meth, c, cells, slots, Z, G, tg⟩ := Γ
  obtain ⟨hx, hb, hml, hown, hts, hTF, hgb, hR⟩ := hO
  obtain ⟨d, rfl⟩ := d
  intro H locs ls hH hS hl
  exact lv_astore_n hx hb d hi hl hn he (fun ls' hl' => kk H locs ls' hH hS hl')
theorem c_iinc (hO : OC Γ M mc ms) (j : Nat) {i : Nat} {n : Int} {x v w : Int32} (lv' : List (Nat × Value)) (d : DD M pc (.iinc i n) 3 npc) (hj : lv[j]? = some (i, .int x)) (hv : Int32.ofInt n = v) (hw : x + v = w) (hn : i < M.2.2.1) (he : (i, Value.int w) :: lv.filter (fun q => !(q.1 == i) && !(q.1 + 1 == i && q.2.category == 2)) = lv') (kk : EC Γ M k sl npc lv' st h) : EC Γ M k sl pc lv st h := by
  obtain ⟨p, e, R, s, m, args, below, meth, c, cells, slots, Z, G, tg⟩ := Γ
  obtain ⟨hx, hb, hml, hown, hts, hTF, hgb, hR⟩ := hO
  obtain ⟨d, rfl⟩ := d
  intro H locs ls hH hS hl
  exact lv_iinc hx hb d hl hj (by rw [hv, hw]) hn he (fun ls' hl' => kk H locs ls' hH hS hl')
theorem c_goto (hO : OC Γ M mc ms) {off : Int} {tg : Nat} (d : DD M pc (.goto off) 3 npc) (ht : (pc : Int) + off = (tg : Int)) (kk : EC Γ M k sl tg lv st h) : EC Γ M k sl pc lv st h := by
  obtain ⟨p, e, R, s, m, args, below, meth, c, cells, slots, Z, G, tgv⟩ := Γ
  obtain ⟨hx, hb, hml, hown, hts, hTF, hgb, hR⟩ := hO
  obtain ⟨d, rfl⟩ := d
  intro H locs ls hH hS hl
  exact lv_goto hx hb d ht (kk H locs ls hH hS hl)
theorem c_ge_t (hO : OC Γ M mc ms) {x y : Int32} {off : Int} {tg : Nat} (hc : y ≤ x) (d : DD M pc (.if_icmp .ge off) 3 npc) (ht : (pc : Int) + off = (tg : Int)) (kk : EC Γ M k sl tg lv st h) : EC Γ M k sl pc lv (.int y :: .int x :: st) h := by
  obtain ⟨p, e, R, s, m, args, below, meth, c, cells, slots, Z, G, tgv⟩ := Γ
  obtain ⟨hx, hb, hml, hown, hts, hTF, hgb, hR⟩ := hO
  obtain ⟨d, rfl⟩ := d
  intro H locs ls hH hS hl
  exact lv_icmp_ge hx hb d ht (fun _ => kk H locs ls hH hS hl) (fun q => absurd hc q)
theorem c_ge_f (hO : OC Γ M mc ms) {x y : Int32} {off : Int} {tg : Nat} (hc : ¬ y ≤ x) (d : DD M pc (.if_icmp .ge off) 3 npc) (ht : (pc : Int) + off = (tg : Int)) (kk : EC Γ M k sl npc lv st h) : EC Γ M k sl pc lv (.int y :: .int x :: st) h := by
  obtain ⟨p, e, R, s, m, args, below, meth, c, cells, slots, Z, G, tgv⟩ := Γ
  obtain ⟨hx, hb, hml, hown, hts, hTF, hgb, hR⟩ := hO
  obtain ⟨d, rfl⟩ := d
  intro H locs ls hH hS hl
  exact lv_icmp_ge hx hb d ht (fun q => absurd q hc) (fun _ => kk H locs ls hH hS hl)
theorem c_widen {k' sl' : Nat} (h1 : k ≤ k') (h2 : sl ≤ sl') (kk : EC Γ M k' sl' pc lv st h) : EC Γ M k sl pc lv st h := by
  obtain ⟨p, e, R, s, m, args, below, meth, c, cells, slots, Z, G, tg⟩ := Γ
  intro H locs ls hH hS hl
  exact W.widen h1 h2 (kk H locs ls hH hS hl)
/-- Object's own constructor -/
def LO (own : String) (i : Nat) : Prop := Cond.methodLink own i Lib.objectInit ∈ lw_good ∧ Cond.instanceMethod Lib.objectInit ∈ lw_good ∧ Cond.code Lib.objectInit ⟨#[0xb1]⟩ 1 none ∈ lw_good
theorem c_obj (hO : OC Γ M mc ms) {i a : Nat} (lo : LO M.1.cls i) (hh : 1 ≤ M.2.2.2.2) (hr : (st.map fun v => v.category).sum ≤ 8) (d : DD M pc (.invokespecial i) 3 npc) (kk : EC Γ M k sl npc lv st h) : EC Γ M k sl pc lv (.ref a :: st) h := by
  obtain ⟨p, e, R, s, m, args, below, meth, c, cells, slots, Z, G, tg⟩ := Γ
  obtain ⟨hx, hb, hml, hown, hts, hTF, hgb, ⟨hR1, hR2, hR3, hR4⟩⟩ := hO
  obtain ⟨d, rfl⟩ := d
  intro H locs ls hH hS hl
  refine W.objInit hx hb hown (hts _ lo.1) (hts _ lo.2.1) (hts _ lo.2.2) rfl (by rw [hml]; exact hl.1) rfl d (Nat.le_trans hh hR1) ?_ (kk H locs ls hH hS hl)
  show 2 * 0 + _ + 12 ≤ R.locals
  omega
theorem cV_new {G : Gl} {ci : Nat} (hk : KD h.1 = ci) {C : String} {T : u_T} {N : Nat} (hc : vwCl[ci]? = some (C, T, N)) (ty : Nat → FieldType) (hd : ∀ j tj, (FT ci)[j]? = some tj → defaultValue (ty j) = if tj = 0 then .int 0 else if tj = 1 then .long 0 else .null) (hN : (FT ci).length = N) : ∀ j, j < N → defaultValue (ty j) = vp_V ((FT ci).mapIdx (fun k t => cV G (cN h) h.1 k t)) j := by
  intro j hj
  obtain ⟨tj, htj⟩ : ∃ tj, (FT ci)[j]? = some tj := ⟨_, List.getElem?_eq_getElem (by rw [hN]; exact hj)⟩
  rw [hd j tj htj]
  unfold vp_V
  rw [List.getD_eq_getElem?_getD, List.getElem?_mapIdx, htj]
  simp only [Option.map_some, Option.getD_some, cV, cN, up_eq]
  rfl
/-- links of 'new' -/
def LW (own : String) (i ci : Nat) : Prop := ∃ (C : String) (T : u_T) (N : Nat) (ty : Nat → FieldType), vwCl[ci]? = some (C, T, N) ∧ Cond.classLink own i C ∈ lw_good ∧ Cond.instantiable C N ∈ lw_good ∧ Cond.initialized C ∈ lw_good ∧ (∀ k, k < N → parseFieldDescriptor (T k).2.2.1 = some (ty k)) ∧ (∀ j tj, (FT ci)[j]? = some tj → defaultValue (ty j) = if tj = 0 then .int 0 else if tj = 1 then .long 0 else .null) ∧ (FT ci).length = N ∧ ci < 13
theorem c_new (hO : OC Γ M mc ms) (b : Nat) (hbb : h.1 = b) {i ci : Nat} (lw : LW M.1.cls i ci) (hk : KD b = ci) (h1 : k + 1 ≤ mc) (h2 : sl + (FT ci).length ≤ ms) (d : DD M pc (.new i) 3 npc) (kk : EC Γ M (k + 1) (sl + (FT ci).length) npc lv (.ref (gb (cG Γ) + b) :: st) (cN h)) : EC Γ M k sl pc lv st h := by
  obtain ⟨p, e, R, s, m, args, below, meth, c, cells, slots, Z, G, tg⟩ := Γ
  obtain ⟨hx, hb, hml, hown, hts, hTF, hgb, ⟨hR1, hR2, hR3, hR4⟩⟩ := hO
  subst hbb
  obtain ⟨d, rfl⟩ := d
  obtain ⟨C, T, N, ty, hc, l1, l2, l3, hty, hd, hN, hci⟩ := lw
  intro H locs ls hH hS hl
  rw [hN] at h2 kk
  have hKn := hTF.1.1 ci _ hc
  refine W.newcK hx hb hown (hts _ l1) (hts _ l2) (hts _ l3) rfl d (Nat.le_trans h1 hR3) (Nat.le_trans h2 hR4) hKn.2.1 rfl fun H1 kC hkC e1 z1 o1 => ?_
  rw [hH.1] at e1 z1 ⊢
  refine kk H1 locs ls ⟨by rw [z1]; rfl, ?_⟩ ⟨Nat.le_trans hS.1 (by rw [z1, hH.1]; omega), fun x g1 g2 => (o1 x (Nat.lt_of_lt_of_le g1 hS.1)).trans (hS.2.1 x g1 g2), hS.2.2⟩ hl
  rw [cP_new]
  refine (hH.2.kept (fun q x hx => o1 x.1 (hH.2 q x hx).lt)).app (fun q x hx => ?_)
  have hz : q < 1 := (List.getElem?_eq_some_iff.mp hx).1
  rw [show q = 0 by omega] at hx
  cases hx
  show va_at _ _ (gb G + h.1, cE G (cN h) h.1) H1
  have he : cE G (cN h) h.1 = .inr (ci, (FT ci).mapIdx (fun k t => cV G (cN h) h.1 k t)) := by
    unfold cE
    rw [hk, if_pos hci]
  rw [he]
  exact ⟨_, hc, (u_born ty hts (cl_in ci C T N hc) hKn hkC e1 hty).to (cV_new hk hc ty hd hN)⟩
theorem c_newI (hO : OC Γ M mc ms) (b : Nat) (hbb : h.1 = b) {n : Int32} {N : Nat} (hw : Cond.arrayClass .int ∈ lw_good) (hn : n = nI N) (hN : N < 65536) (hk : KD b = 14) (hl0 : LEN b = N) (h1 : k + 1 ≤ mc) (h2 : sl + N ≤ ms) (d : DD M pc (.newarray .int) 2 npc) (kk : EC Γ M (k + 1) (sl + N) npc lv (.ref (gb (cG Γ) + b) :: st) (cN h)) : EC Γ M k sl pc lv (.int n :: st) h := by
  obtain ⟨p, e, R, s, m, args, below, meth, c, cells, slots, Z, G, tg⟩ := Γ
  obtain ⟨hx, hb, hml, hown, hts, hTF, hgb, ⟨hR1, hR2, hR3, hR4⟩⟩ := hO
  subst hbb
  obtain ⟨d, rfl⟩ := d
  subst hn
  intro H locs ls hH hS hl
  refine va_newaK (atype := .int) hx hb (hts _ hw) rfl d rfl (nI_pos (by omega)) (nI_clamp (by omega)) (by show N * 4 ≤ _; omega) (Nat.le_trans h1 hR3) (Nat.le_trans h2 hR4) rfl fun H1 cA e1 z1 o1 hAr hNm => ?_
  have hcA : cA = gC G 14 := Option.some.inj (hNm.symm.trans (hTF.1.2 1 (gC G 14, .int) rfl).2)
  subst hcA
  rw [hH.1] at e1 z1 ⊢
  refine kk H1 locs ls ⟨by rw [z1]; rfl, ?_⟩ ⟨Nat.le_trans hS.1 (by rw [z1, hH.1]; omega), fun x g1 g2 => (o1 x (Nat.lt_of_lt_of_le g1 hS.1)).trans (hS.2.1 x g1 g2), hS.2.2⟩ hl
  rw [cP_new]
  refine (hH.2.kept (fun q x hx => o1 x.1 (hH.2 q x hx).lt)).app (fun q x hx => ?_)
  have hz : q < 1 := (List.getElem?_eq_some_iff.mp hx).1
  rw [show q = 0 by omega] at hx
  cases hx
  show va_at _ _ (gb G + h.1, cE G (cN h) h.1) H1
  have he : cE G (cN h) h.1 = .inl (gC G 14, N, .inl (fun _ => 0)) := by
    unfold cE cAr
    rw [hk, if_neg (by decide), if_pos (by decide), hl0]
    simp only [cN, up_eq]
  rw [he]
  exact e1
theorem c_newL (hO : OC Γ M mc ms) (b : Nat) (hbb : h.1 = b) {n : Int32} {N : Nat} (hw : Cond.arrayClass .long ∈ lw_good) (hn : n = nI N) (hN : N < 65536) (hk : KD b = 15) (hl0 : LEN b = N) (h1 : k + 1 ≤ mc) (h2 : sl + N ≤ ms) (d : DD M pc (.newarray .long) 2 npc) (kk : EC Γ M (k + 1) (sl + N) npc lv (.ref (gb (cG Γ) + b) :: st) (cN h)) : EC Γ M k sl pc lv (.int n :: st) h := by
  obtain ⟨p, e, R, s, m, args, below, meth, c, cells, slots, Z, G, tg⟩ := Γ
  obtain ⟨hx, hb, hml, hown, hts, hTF, hgb, ⟨hR1, hR2, hR3, hR4⟩⟩ := hO
  subst hbb
  obtain ⟨d, rfl⟩ := d
  subst hn
  intro H locs ls hH hS hl
  refine va_newaK (atype := .long) hx hb (hts _ hw) rfl d rfl (nI_pos (by omega)) (nI_clamp (by omega)) (by show N * 8 ≤ _; omega) (Nat.le_trans h1 hR3) (Nat.le_trans h2 hR4) rfl fun H1 cA e1 z1 o1 hAr hNm => ?_
  have hcA : cA = gC G 15 := Option.some.inj (hNm.symm.trans (hTF.1.2 2 (gC G 15, .long) rfl).2)
  subst hcA
  rw [hH.1] at e1 z1 ⊢
  refine kk H1 locs ls ⟨by rw [z1]; rfl, ?_⟩ ⟨Nat.le_trans hS.1 (by rw [z1, hH.1]; omega), fun x g1 g2 => (o1 x (Nat.lt_of_lt_of_le g1 hS.1)).trans (hS.2.1 x g1 g2), hS.2.2⟩ hl
  rw [cP_new]
  refine (hH.2.kept (fun q x hx => o1 x.1 (hH.2 q x hx).lt)).app (fun q x hx => ?_)
  have hz : q < 1 := (List.getElem?_eq_some_iff.mp hx).1
  rw [show q = 0 by omega] at hx
  cases hx
  show va_at _ _ (gb G + h.1, cE G (cN h) h.1) H1
  have he : cE G (cN h) h.1 = .inl (gC G 15, N, .inr (.inl (fun _ => 0))) := by
    unfold cE cAr
    rw [hk, if_neg (by decide), if_neg (by decide), if_pos (by decide), hl0]
    simp only [cN, up_eq]
  rw [he]
  exact e1
theorem c_newB (hO : OC Γ M mc ms) (b : Nat) (hbb : h.1 = b) {n : Int32} {N : Nat} (hw : Cond.arrayClass .byte ∈ lw_good) (hn : n = nI N) (hN : N < 65536) (hk : KD b = 13) (hl0 : LEN b = N) (h1 : k + 1 ≤ mc) (h2 : sl + N ≤ ms) (d : DD M pc (.newarray .byte) 2 npc) (kk : EC Γ M (k + 1) (sl + N) npc lv (.ref (gb (cG Γ) + b) :: st) (cN h)) : EC Γ M k sl pc lv (.int n :: st) h := by
  obtain ⟨p, e, R, s, m, args, below, meth, c, cells, slots, Z, G, tg⟩ := Γ
  obtain ⟨hx, hb, hml, hown, hts, hTF, hgb, ⟨hR1, hR2, hR3, hR4⟩⟩ := hO
  subst hbb
  obtain ⟨d, rfl⟩ := d
  subst hn
  intro H locs ls hH hS hl
  refine va_newaK (atype := .byte) hx hb (hts _ hw) rfl d rfl (nI_pos (by omega)) (nI_clamp (by omega)) (by show N * 1 ≤ _; omega) (Nat.le_trans h1 hR3) (Nat.le_trans h2 hR4) rfl fun H1 cA e1 z1 o1 hAr hNm => ?_
  have hcA : cA = gC G 13 := Option.some.inj (hNm.symm.trans (hTF.1.2 0 (gC G 13, .byte) rfl).2)
  subst hcA
  rw [hH.1] at e1 z1 ⊢
  refine kk H1 locs ls ⟨by rw [z1]; rfl, ?_⟩ ⟨Nat.le_trans hS.1 (by rw [z1, hH.1]; omega), fun x g1 g2 => (o1 x (Nat.lt_of_lt_of_le g1 hS.1)).trans (hS.2.1 x g1 g2), hS.2.2⟩ hl
  rw [cP_new]
  refine (hH.2.kept (fun q x hx => o1 x.1 (hH.2 q x hx).lt)).app (fun q x hx => ?_)
  have hz : q < 1 := (List.getElem?_eq_some_iff.mp hx).1
  rw [show q = 0 by omega] at hx
  cases hx
  show va_at _ _ (gb G + h.1, cE G (cN h) h.1) H1
  have he : cE G (cN h) h.1 = .inl (gC G 13, N, .inl (fun _ => 0)) := by
    unfold cE cAr
    rw [hk, if_neg (by decide), if_pos (by decide), hl0]
    simp only [cN, up_eq]
  rw [he]
  exact e1
end ECR
