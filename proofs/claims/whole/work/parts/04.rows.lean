/-! ===== the judgement: from here the machine comes to what the term says ===== -/
/-- machine, platform, room, state at the entry, method, arguments, frames below, cells and slots made, goal, places, what is told at the end -/
abbrev Cx : Type := Program × Env × Room × State × MethodId × Array Value × List Frame × Method × Code × Nat × Nat × (State → Prop) × Gl × (Hp × Option Value)
def cG (Γ : Cx) : Gl := Γ.2.2.2.2.2.2.2.2.2.2.2.2.1
def tgt (Γ : Cx) : Hp × Option Value := Γ.2.2.2.2.2.2.2.2.2.2.2.2.2
def rf (Γ : Cx) (a : Nat) : Value := .ref (gb (cG Γ) + a)
def sf (Γ : Cx) (k : Nat) : Value := .ref (gk (cG Γ) k)
def Rt (M : Mi) (r : Option Value) (pc : Nat) (st : List Value) : Prop :=
  (∃ v : Int32, decode M.2.1 pc = .ok (.ireturn, 1) ∧ st = [.int v] ∧ M.2.2.2.1 = some .int ∧ r = some (.int v)) ∨
  (∃ v : Int32, decode M.2.1 pc = .ok (.ireturn, 1) ∧ st = [.int v] ∧ M.2.2.2.1 = some .boolean ∧ r = some (.int (v &&& 1))) ∨
  (∃ v : Int64, decode M.2.1 pc = .ok (.lreturn, 1) ∧ st = [.long v] ∧ M.2.2.2.1 = some .long ∧ r = some (.long v)) ∨
  (decode M.2.1 pc = .ok (.return_, 1) ∧ st = [] ∧ M.2.2.2.1 = none ∧ r = none) ∨
  ∃ (v : Int32) (ty : FieldType), decode M.2.1 pc = .ok (.ireturn, 1) ∧ st = [.int v] ∧ M.2.2.2.1 = some ty ∧ narrow ty (.int v) = .int v ∧ r = some (.int v)
def EW (Γ : Cx) (M : Mi) (pc : Nat) (lv : List (Nat × Value)) (st : List Value) (h : Hp) : Prop := match Γ with
  | (p, e, R, s, m, args, below, meth, c, cells, slots, Z, G, _) => ∀ (H : Heap) (locs : List Loc) (ls : Array Slot), HR G h H → va_S (gA G) s.heap H locs → lv_has ls M.2.2.1 lv → W p (gl G) e R s m args below meth c H locs cells slots Z (F0 m pc ls st)
def Ok (Γ : Cx) (M : Mi) : Prop := match Γ with
  | (p, e, R, s, m, args, below, meth, c, cells, slots, Z, G, tg) =>
    p.tables.exec = Jvm.exec ∧ c.code = M.2.1 ∧ c.maxLocals = M.2.2.1 ∧ s.vm.findClass M.1.cls = some m.cls ∧ (∀ w ∈ lw_good, w.before args s = true) ∧ TF G s ∧ SF G s s.heap ∧ (M.2.2.2.2 ≤ R.frames ∧ 37 * M.2.2.2.2 ≤ R.locals ∧ cells ≤ R.cells ∧ slots ≤ R.slots) ∧
    ∀ (H : Heap) (locs : List Loc) (pc : Nat) (ls : Array Slot) (st : List Value), HR G tg.1 H → va_S (gA G) s.heap H locs → Rt M tg.2 pc st → W p (gl G) e R s m args below meth c H locs cells slots Z (F0 m pc ls st)
def EG {τ : Type} (Γ : Cx) (M : Mi) (pc : Nat) (lv : List (Nat × Value)) (st : List Value) (h : Hp) (t : Option τ) (K : τ → Prop) : Prop := ∀ x, t = some x → K x → EW Γ M pc lv st h
/-- the instruction at pc, its length, the next place -/
def DD (M : Mi) (pc : Nat) (i : Instr) (n npc : Nat) : Prop := decode M.2.1 pc = .ok (i, n) ∧ pc + n = npc
/-- an index in its range; a term under a test -/
def ib (i : Int32) (n : Nat) : Bool := decide (¬ (i < 0 ∨ n ≤ i.toNatClampNeg))
abbrev nx (i : Int32) : Nat := i.toNatClampNeg
def gd {τ : Type} (b : Bool) (t : Option τ) : Option τ := if b = true then t else none
def bnd {α τ : Type} (e : α) (f : α → Option τ) : Option τ := f e
theorem gd_t {τ : Type} {b : Bool} {t : Option τ} {z : τ} (h : gd b t = some z) : b = true ∧ t = some z := by
  unfold gd at h
  split at h
  · exact ⟨by assumption, h⟩
  · cases h
theorem ib_in {i : Int32} {n : Nat} (h : ib i n = true) : vp_in i n := by simpa [ib, vp_in] using h
section EGR
variable {τ : Type} {Γ : Cx} {M : Mi} {pc npc : Nat} {lv lv' : List (Nat × Value)} {st : List Value} {h : Hp} {t t1 t2 : Option τ} {K : τ → Prop}
theorem x_none : EG Γ M pc lv st h (none : Option τ) K := fun _ e => nomatch e
theorem x_sub (is : List Nat) (hl : lv_pick lv is = lv') (k : EG Γ M pc lv' st h t K) : EG Γ M pc lv st h t K := by
  obtain ⟨p, e, R, s, m, args, below, meth, c, cells, slots, Z, G, tg⟩ := Γ
  intro z hz hk H locs ls hH hS hv
  exact k z hz hk H locs ls hH hS (lv_sub hv is hl)
theorem x_leaf {o : τ} (k : K o → EW Γ M pc lv st h) : EG Γ M pc lv st h (some o) K := fun x e hk => k (by cases e; exact hk)
theorem x_leafs (is : List Nat) {o : τ} (hl : lv_pick lv is = lv') (k : K o → EW Γ M pc lv' st h) : EG Γ M pc lv st h (some o) K := x_sub is hl (x_leaf k)
theorem x_run (hx : ∃ x, t = some x ∧ K x) (k : EG Γ M pc lv st h t K) : EW Γ M pc lv st h := by
  obtain ⟨x, e, hk⟩ := hx
  exact k x e hk
theorem x_bind {ρ : Type} {u : Option ρ} {f : ρ → Option τ} (k : EG Γ M pc lv st h u (fun y => ∃ x, f y = some x ∧ K x)) : EG Γ M pc lv st h (u.bind f) K := by
  intro x e hk
  cases hu : u with
  | none => rw [hu] at e; cases e
  | some y => exact k y hu ⟨x, by rw [hu] at e; exact e, hk⟩
theorem x_bnd {α : Type} {e : α} {f : α → Option τ} (k : EG Γ M pc lv st h (f e) K) : EG Γ M pc lv st h (bnd e f) K := k

theorem x_iadd (hO : Ok Γ M) {x y : Int32} (d : DD M pc .iadd 1 npc) (k : EG Γ M npc lv (.int (x + y) :: st) h t K) : EG Γ M pc lv (.int y :: .int x :: st) h t K := by
  obtain ⟨p, e, R, s, m, args, below, meth, c, cells, slots, Z, G, tg⟩ := Γ
  obtain ⟨hx, hb, hml, hown, hts, hTF, hSF, hR, hret⟩ := hO
  obtain ⟨d, rfl⟩ := d
  intro z hz hk H locs ls hH hS hl
  exact lv_iadd hx hb d (k z hz hk H locs ls hH hS hl)
theorem x_isub (hO : Ok Γ M) {x y : Int32} (d : DD M pc .isub 1 npc) (k : EG Γ M npc lv (.int (x - y) :: st) h t K) : EG Γ M pc lv (.int y :: .int x :: st) h t K := by
  obtain ⟨p, e, R, s, m, args, below, meth, c, cells, slots, Z, G, tg⟩ := Γ
  obtain ⟨hx, hb, hml, hown, hts, hTF, hSF, hR, hret⟩ := hO
  obtain ⟨d, rfl⟩ := d
  intro z hz hk H locs ls hH hS hl
  exact lv_isub hx hb d (k z hz hk H locs ls hH hS hl)
theorem x_imul (hO : Ok Γ M) {x y : Int32} (d : DD M pc .imul 1 npc) (k : EG Γ M npc lv (.int (x * y) :: st) h t K) : EG Γ M pc lv (.int y :: .int x :: st) h t K := by
  obtain ⟨p, e, R, s, m, args, below, meth, c, cells, slots, Z, G, tg⟩ := Γ
  obtain ⟨hx, hb, hml, hown, hts, hTF, hSF, hR, hret⟩ := hO
  obtain ⟨d, rfl⟩ := d
  intro z hz hk H locs ls hH hS hl
  exact lv_imul hx hb d (k z hz hk H locs ls hH hS hl)
theorem x_iand (hO : Ok Γ M) {x y : Int32} (d : DD M pc .iand 1 npc) (k : EG Γ M npc lv (.int (x &&& y) :: st) h t K) : EG Γ M pc lv (.int y :: .int x :: st) h t K := by
  obtain ⟨p, e, R, s, m, args, below, meth, c, cells, slots, Z, G, tg⟩ := Γ
  obtain ⟨hx, hb, hml, hown, hts, hTF, hSF, hR, hret⟩ := hO
  obtain ⟨d, rfl⟩ := d
  intro z hz hk H locs ls hH hS hl
  exact lv_iand hx hb d (k z hz hk H locs ls hH hS hl)
theorem x_ior (hO : Ok Γ M) {x y : Int32} (d : DD M pc .ior 1 npc) (k : EG Γ M npc lv (.int (x ||| y) :: st) h t K) : EG Γ M pc lv (.int y :: .int x :: st) h t K := by
  obtain ⟨p, e, R, s, m, args, below, meth, c, cells, slots, Z, G, tg⟩ := Γ
  obtain ⟨hx, hb, hml, hown, hts, hTF, hSF, hR, hret⟩ := hO
  obtain ⟨d, rfl⟩ := d
  intro z hz hk H locs ls hH hS hl
  exact lv_ior hx hb d (k z hz hk H locs ls hH hS hl)
theorem x_ixor (hO : Ok Γ M) {x y : Int32} (d : DD M pc .ixor 1 npc) (k : EG Γ M npc lv (.int (x ^^^ y) :: st) h t K) : EG Γ M pc lv (.int y :: .int x :: st) h t K := by
  obtain ⟨p, e, R, s, m, args, below, meth, c, cells, slots, Z, G, tg⟩ := Γ
  obtain ⟨hx, hb, hml, hown, hts, hTF, hSF, hR, hret⟩ := hO
  obtain ⟨d, rfl⟩ := d
  intro z hz hk H locs ls hH hS hl
  exact lv_ixor hx hb d (k z hz hk H locs ls hH hS hl)
theorem x_ishl (hO : Ok Γ M) {x y : Int32} (d : DD M pc .ishl 1 npc) (k : EG Γ M npc lv (.int (x <<< (y &&& 31)) :: st) h t K) : EG Γ M pc lv (.int y :: .int x :: st) h t K := by
  obtain ⟨p, e, R, s, m, args, below, meth, c, cells, slots, Z, G, tg⟩ := Γ
  obtain ⟨hx, hb, hml, hown, hts, hTF, hSF, hR, hret⟩ := hO
  obtain ⟨d, rfl⟩ := d
  intro z hz hk H locs ls hH hS hl
  exact lv_ishl hx hb d (k z hz hk H locs ls hH hS hl)
theorem x_ishr (hO : Ok Γ M) {x y : Int32} (d : DD M pc .ishr 1 npc) (k : EG Γ M npc lv (.int (x >>> (y &&& 31)) :: st) h t K) : EG Γ M pc lv (.int y :: .int x :: st) h t K := by
  obtain ⟨p, e, R, s, m, args, below, meth, c, cells, slots, Z, G, tg⟩ := Γ
  obtain ⟨hx, hb, hml, hown, hts, hTF, hSF, hR, hret⟩ := hO
  obtain ⟨d, rfl⟩ := d
  intro z hz hk H locs ls hH hS hl
  exact lv_ishr hx hb d (k z hz hk H locs ls hH hS hl)
theorem x_ladd (hO : Ok Γ M) {x y : Int64} (d : DD M pc .ladd 1 npc) (k : EG Γ M npc lv (.long (x + y) :: st) h t K) : EG Γ M pc lv (.long y :: .long x :: st) h t K := by
  obtain ⟨p, e, R, s, m, args, below, meth, c, cells, slots, Z, G, tg⟩ := Γ
  obtain ⟨hx, hb, hml, hown, hts, hTF, hSF, hR, hret⟩ := hO
  obtain ⟨d, rfl⟩ := d
  intro z hz hk H locs ls hH hS hl
  exact lv_ladd hx hb d (k z hz hk H locs ls hH hS hl)
theorem x_lsub (hO : Ok Γ M) {x y : Int64} (d : DD M pc .lsub 1 npc) (k : EG Γ M npc lv (.long (x - y) :: st) h t K) : EG Γ M pc lv (.long y :: .long x :: st) h t K := by
  obtain ⟨p, e, R, s, m, args, below, meth, c, cells, slots, Z, G, tg⟩ := Γ
  obtain ⟨hx, hb, hml, hown, hts, hTF, hSF, hR, hret⟩ := hO
  obtain ⟨d, rfl⟩ := d
  intro z hz hk H locs ls hH hS hl
  exact lv_lsub hx hb d (k z hz hk H locs ls hH hS hl)
theorem x_lmul (hO : Ok Γ M) {x y : Int64} (d : DD M pc .lmul 1 npc) (k : EG Γ M npc lv (.long (x * y) :: st) h t K) : EG Γ M pc lv (.long y :: .long x :: st) h t K := by
  obtain ⟨p, e, R, s, m, args, below, meth, c, cells, slots, Z, G, tg⟩ := Γ
  obtain ⟨hx, hb, hml, hown, hts, hTF, hSF, hR, hret⟩ := hO
  obtain ⟨d, rfl⟩ := d
  intro z hz hk H locs ls hH hS hl
  exact lv_lmul hx hb d (k z hz hk H locs ls hH hS hl)
theorem x_land (hO : Ok Γ M) {x y : Int64} (d : DD M pc .land 1 npc) (k : EG Γ M npc lv (.long (x &&& y) :: st) h t K) : EG Γ M pc lv (.long y :: .long x :: st) h t K := by
  obtain ⟨p, e, R, s, m, args, below, meth, c, cells, slots, Z, G, tg⟩ := Γ
  obtain ⟨hx, hb, hml, hown, hts, hTF, hSF, hR, hret⟩ := hO
  obtain ⟨d, rfl⟩ := d
  intro z hz hk H locs ls hH hS hl
  exact lv_land hx hb d (k z hz hk H locs ls hH hS hl)
theorem x_lor (hO : Ok Γ M) {x y : Int64} (d : DD M pc .lor 1 npc) (k : EG Γ M npc lv (.long (x ||| y) :: st) h t K) : EG Γ M pc lv (.long y :: .long x :: st) h t K := by
  obtain ⟨p, e, R, s, m, args, below, meth, c, cells, slots, Z, G, tg⟩ := Γ
  obtain ⟨hx, hb, hml, hown, hts, hTF, hSF, hR, hret⟩ := hO
  obtain ⟨d, rfl⟩ := d
  intro z hz hk H locs ls hH hS hl
  exact lv_lor hx hb d (k z hz hk H locs ls hH hS hl)
theorem x_ineg (hO : Ok Γ M) {x : Int32} (d : DD M pc .ineg 1 npc) (k : EG Γ M npc lv (.int (-x) :: st) h t K) : EG Γ M pc lv (.int x :: st) h t K := by
  obtain ⟨p, e, R, s, m, args, below, meth, c, cells, slots, Z, G, tg⟩ := Γ
  obtain ⟨hx, hb, hml, hown, hts, hTF, hSF, hR, hret⟩ := hO
  obtain ⟨d, rfl⟩ := d
  intro z hz hk H locs ls hH hS hl
  exact lv_ineg hx hb d (k z hz hk H locs ls hH hS hl)
theorem x_iushr (hO : Ok Γ M) {x y : Int32} (d : DD M pc .iushr 1 npc) (k : EG Γ M npc lv (.int (x.toUInt32 >>> (y.toUInt32 &&& Int32.toUInt32 31)).toInt32 :: st) h t K) : EG Γ M pc lv (.int y :: .int x :: st) h t K := by
  obtain ⟨p, e, R, s, m, args, below, meth, c, cells, slots, Z, G, tg⟩ := Γ
  obtain ⟨hx, hb, hml, hown, hts, hTF, hSF, hR, hret⟩ := hO
  obtain ⟨d, rfl⟩ := d
  intro z hz hk H locs ls hH hS hl
  exact lv_iushr hx hb d rfl (k z hz hk H locs ls hH hS hl)
theorem x_lshl (hO : Ok Γ M) {x : Int64} {y : Int32} (d : DD M pc .lshl 1 npc) (k : EG Γ M npc lv (.long (x <<< (y.toInt64 &&& 63)) :: st) h t K) : EG Γ M pc lv (.int y :: .long x :: st) h t K := by
  obtain ⟨p, e, R, s, m, args, below, meth, c, cells, slots, Z, G, tg⟩ := Γ
  obtain ⟨hx, hb, hml, hown, hts, hTF, hSF, hR, hret⟩ := hO
  obtain ⟨d, rfl⟩ := d
  intro z hz hk H locs ls hH hS hl
  exact lv_lshl hx hb d rfl (k z hz hk H locs ls hH hS hl)
theorem x_i2b (hO : Ok Γ M) {x : Int32} (d : DD M pc .i2b 1 npc) (k : EG Γ M npc lv (.int (x.toInt8.toInt32) :: st) h t K) : EG Γ M pc lv (.int x :: st) h t K := by
  obtain ⟨p, e, R, s, m, args, below, meth, c, cells, slots, Z, G, tg⟩ := Γ
  obtain ⟨hx, hb, hml, hown, hts, hTF, hSF, hR, hret⟩ := hO
  obtain ⟨d, rfl⟩ := d
  intro z hz hk H locs ls hH hS hl
  exact lv_i2b hx hb d rfl (k z hz hk H locs ls hH hS hl)
theorem x_i2s (hO : Ok Γ M) {x : Int32} (d : DD M pc .i2s 1 npc) (k : EG Γ M npc lv (.int (x.toInt16.toInt32) :: st) h t K) : EG Γ M pc lv (.int x :: st) h t K := by
  obtain ⟨p, e, R, s, m, args, below, meth, c, cells, slots, Z, G, tg⟩ := Γ
  obtain ⟨hx, hb, hml, hown, hts, hTF, hSF, hR, hret⟩ := hO
  obtain ⟨d, rfl⟩ := d
  intro z hz hk H locs ls hH hS hl
  exact lv_i2s hx hb d rfl (k z hz hk H locs ls hH hS hl)
theorem x_i2c (hO : Ok Γ M) {x : Int32} (d : DD M pc .i2c 1 npc) (k : EG Γ M npc lv (.int ((x.toUInt32 % 65536).toInt32) :: st) h t K) : EG Γ M pc lv (.int x :: st) h t K := by
  obtain ⟨p, e, R, s, m, args, below, meth, c, cells, slots, Z, G, tg⟩ := Γ
  obtain ⟨hx, hb, hml, hown, hts, hTF, hSF, hR, hret⟩ := hO
  obtain ⟨d, rfl⟩ := d
  intro z hz hk H locs ls hH hS hl
  exact lv_i2c hx hb d rfl (k z hz hk H locs ls hH hS hl)
theorem x_i2l (hO : Ok Γ M) {x : Int32} (d : DD M pc .i2l 1 npc) (k : EG Γ M npc lv (.long (x.toInt64) :: st) h t K) : EG Γ M pc lv (.int x :: st) h t K := by
  obtain ⟨p, e, R, s, m, args, below, meth, c, cells, slots, Z, G, tg⟩ := Γ
  obtain ⟨hx, hb, hml, hown, hts, hTF, hSF, hR, hret⟩ := hO
  obtain ⟨d, rfl⟩ := d
  intro z hz hk H locs ls hH hS hl
  exact lv_i2l hx hb d rfl (k z hz hk H locs ls hH hS hl)
theorem x_l2i (hO : Ok Γ M) {x : Int64} (d : DD M pc .l2i 1 npc) (k : EG Γ M npc lv (.int (x.toInt32) :: st) h t K) : EG Γ M pc lv (.long x :: st) h t K := by
  obtain ⟨p, e, R, s, m, args, below, meth, c, cells, slots, Z, G, tg⟩ := Γ
  obtain ⟨hx, hb, hml, hown, hts, hTF, hSF, hR, hret⟩ := hO
  obtain ⟨d, rfl⟩ := d
  intro z hz hk H locs ls hH hS hl
  exact lv_l2i hx hb d rfl (k z hz hk H locs ls hH hS hl)
theorem x_lcmp (hO : Ok Γ M) {x y : Int64} (d : DD M pc .lcmp 1 npc) (k : EG Γ M npc lv (.int (lg_cmp x y) :: st) h t K) : EG Γ M pc lv (.long y :: .long x :: st) h t K := by
  obtain ⟨p, e, R, s, m, args, below, meth, c, cells, slots, Z, G, tg⟩ := Γ
  obtain ⟨hx, hb, hml, hown, hts, hTF, hSF, hR, hret⟩ := hO
  obtain ⟨d, rfl⟩ := d
  intro z hz hk H locs ls hH hS hl
  exact W.lcmp hx hb d (k z hz hk H locs ls hH hS hl)
theorem x_dup_i (hO : Ok Γ M) {x : Int32} (d : DD M pc .dup 1 npc) (k : EG Γ M npc lv (.int x :: .int x :: st) h t K) : EG Γ M pc lv (.int x :: st) h t K := by
  obtain ⟨p, e, R, s, m, args, below, meth, c, cells, slots, Z, G, tg⟩ := Γ
  obtain ⟨hx, hb, hml, hown, hts, hTF, hSF, hR, hret⟩ := hO
  obtain ⟨d, rfl⟩ := d
  intro z hz hk H locs ls hH hS hl
  exact lv_dup hx hb d rfl (k z hz hk H locs ls hH hS hl)
theorem x_dup_r (hO : Ok Γ M) {x : Nat} (d : DD M pc .dup 1 npc) (k : EG Γ M npc lv (rf Γ x :: rf Γ x :: st) h t K) : EG Γ M pc lv (rf Γ x :: st) h t K := by
  obtain ⟨p, e, R, s, m, args, below, meth, c, cells, slots, Z, G, tg⟩ := Γ
  obtain ⟨hx, hb, hml, hown, hts, hTF, hSF, hR, hret⟩ := hO
  obtain ⟨d, rfl⟩ := d
  intro z hz hk H locs ls hH hS hl
  exact lv_dup hx hb d rfl (k z hz hk H locs ls hH hS hl)
theorem x_dup2_ii (hO : Ok Γ M) {x y : Int32} (d : DD M pc .dup2 1 npc) (k : EG Γ M npc lv (.int y :: .int x :: .int y :: .int x :: st) h t K) : EG Γ M pc lv (.int y :: .int x :: st) h t K := by
  obtain ⟨p, e, R, s, m, args, below, meth, c, cells, slots, Z, G, tg⟩ := Γ
  obtain ⟨hx, hb, hml, hown, hts, hTF, hSF, hR, hret⟩ := hO
  obtain ⟨d, rfl⟩ := d
  intro z hz hk H locs ls hH hS hl
  exact lv_dup2_11 hx hb d rfl rfl (k z hz hk H locs ls hH hS hl)
theorem x_dup2_ri (hO : Ok Γ M) {x : Nat} {y : Int32} (d : DD M pc .dup2 1 npc) (k : EG Γ M npc lv (.int y :: rf Γ x :: .int y :: rf Γ x :: st) h t K) : EG Γ M pc lv (.int y :: rf Γ x :: st) h t K := by
  obtain ⟨p, e, R, s, m, args, below, meth, c, cells, slots, Z, G, tg⟩ := Γ
  obtain ⟨hx, hb, hml, hown, hts, hTF, hSF, hR, hret⟩ := hO
  obtain ⟨d, rfl⟩ := d
  intro z hz hk H locs ls hH hS hl
  exact lv_dup2_11 hx hb d rfl rfl (k z hz hk H locs ls hH hS hl)
theorem x_pop_i (hO : Ok Γ M) {x : Int32} (d : DD M pc .pop 1 npc) (k : EG Γ M npc lv (st) h t K) : EG Γ M pc lv (.int x :: st) h t K := by
  obtain ⟨p, e, R, s, m, args, below, meth, c, cells, slots, Z, G, tg⟩ := Γ
  obtain ⟨hx, hb, hml, hown, hts, hTF, hSF, hR, hret⟩ := hO
  obtain ⟨d, rfl⟩ := d
  intro z hz hk H locs ls hH hS hl
  exact lv_pop hx hb d rfl (k z hz hk H locs ls hH hS hl)
theorem x_pop_r (hO : Ok Γ M) {x : Nat} (d : DD M pc .pop 1 npc) (k : EG Γ M npc lv (st) h t K) : EG Γ M pc lv (rf Γ x :: st) h t K := by
  obtain ⟨p, e, R, s, m, args, below, meth, c, cells, slots, Z, G, tg⟩ := Γ
  obtain ⟨hx, hb, hml, hown, hts, hTF, hSF, hR, hret⟩ := hO
  obtain ⟨d, rfl⟩ := d
  intro z hz hk H locs ls hH hS hl
  exact lv_pop hx hb d rfl (k z hz hk H locs ls hH hS hl)
theorem x_iconst (hO : Ok Γ M) {n : Int} {v : Int32} (hv : Int32.ofInt n = v) (d : DD M pc (.iconst n) 1 npc) (k : EG Γ M npc lv (.int v :: st) h t K) : EG Γ M pc lv (st) h t K := by
  obtain ⟨p, e, R, s, m, args, below, meth, c, cells, slots, Z, G, tg⟩ := Γ
  obtain ⟨hx, hb, hml, hown, hts, hTF, hSF, hR, hret⟩ := hO
  obtain ⟨d, rfl⟩ := d
  intro z hz hk H locs ls hH hS hl
  exact lv_iconst hx hb d hv (k z hz hk H locs ls hH hS hl)
theorem x_bipush (hO : Ok Γ M) {n : Int} {v : Int32} (hv : (Int8.ofInt n).toInt32 = v) (d : DD M pc (.bipush n) 2 npc) (k : EG Γ M npc lv (.int v :: st) h t K) : EG Γ M pc lv (st) h t K := by
  obtain ⟨p, e, R, s, m, args, below, meth, c, cells, slots, Z, G, tg⟩ := Γ
  obtain ⟨hx, hb, hml, hown, hts, hTF, hSF, hR, hret⟩ := hO
  obtain ⟨d, rfl⟩ := d
  intro z hz hk H locs ls hH hS hl
  exact lv_bipush hx hb d hv (k z hz hk H locs ls hH hS hl)
theorem x_sipush (hO : Ok Γ M) {n : Int} {v : Int32} (hv : (Int16.ofInt n).toInt32 = v) (d : DD M pc (.sipush n) 3 npc) (k : EG Γ M npc lv (.int v :: st) h t K) : EG Γ M pc lv (st) h t K := by
  obtain ⟨p, e, R, s, m, args, below, meth, c, cells, slots, Z, G, tg⟩ := Γ
  obtain ⟨hx, hb, hml, hown, hts, hTF, hSF, hR, hret⟩ := hO
  obtain ⟨d, rfl⟩ := d
  intro z hz hk H locs ls hH hS hl
  exact lv_sipush hx hb d hv (k z hz hk H locs ls hH hS hl)
theorem x_lconst (hO : Ok Γ M) {n : Fin 2} {v : Int64} (hv : Int64.ofNat (n : Nat) = v) (d : DD M pc (.lconst n) 1 npc) (k : EG Γ M npc lv (.long v :: st) h t K) : EG Γ M pc lv (st) h t K := by
  obtain ⟨p, e, R, s, m, args, below, meth, c, cells, slots, Z, G, tg⟩ := Γ
  obtain ⟨hx, hb, hml, hown, hts, hTF, hSF, hR, hret⟩ := hO
  obtain ⟨d, rfl⟩ := d
  intro z hz hk H locs ls hH hS hl
  exact lv_lconst hx hb d hv (k z hz hk H locs ls hH hS hl)
theorem x_iload_n (hO : Ok Γ M) (j : Nat) {f : Fin 4} {i : Nat} {x : Int32} (hi : (f : Nat) = i) (hj : lv[j]? = some (i, .int x)) (d : DD M pc (.iload_n f) 1 npc) (k : EG Γ M npc lv (.int x :: st) h t K) : EG Γ M pc lv (st) h t K := by
  obtain ⟨p, e, R, s, m, args, below, meth, c, cells, slots, Z, G, tg⟩ := Γ
  obtain ⟨hx, hb, hml, hown, hts, hTF, hSF, hR, hret⟩ := hO
  obtain ⟨d, rfl⟩ := d
  intro z hz hk H locs ls hH hS hl
  exact lv_iload_n hx hb d hi (lv_at hl j hj) (k z hz hk H locs ls hH hS hl)
theorem x_iload (hO : Ok Γ M) (j : Nat) {i : Nat} {x : Int32} (hj : lv[j]? = some (i, .int x)) (d : DD M pc (.iload i) 2 npc) (k : EG Γ M npc lv (.int x :: st) h t K) : EG Γ M pc lv (st) h t K := by
  obtain ⟨p, e, R, s, m, args, below, meth, c, cells, slots, Z, G, tg⟩ := Γ
  obtain ⟨hx, hb, hml, hown, hts, hTF, hSF, hR, hret⟩ := hO
  obtain ⟨d, rfl⟩ := d
  intro z hz hk H locs ls hH hS hl
  exact lv_iload hx hb d (lv_at hl j hj) (k z hz hk H locs ls hH hS hl)
theorem x_lload_n (hO : Ok Γ M) (j : Nat) {f : Fin 4} {i : Nat} {x : Int64} (hi : (f : Nat) = i) (hj : lv[j]? = some (i, .long x)) (d : DD M pc (.lload_n f) 1 npc) (k : EG Γ M npc lv (.long x :: st) h t K) : EG Γ M pc lv (st) h t K := by
  obtain ⟨p, e, R, s, m, args, below, meth, c, cells, slots, Z, G, tg⟩ := Γ
  obtain ⟨hx, hb, hml, hown, hts, hTF, hSF, hR, hret⟩ := hO
  obtain ⟨d, rfl⟩ := d
  intro z hz hk H locs ls hH hS hl
  exact lv_lload_n hx hb d hi (lv_at hl j hj) (k z hz hk H locs ls hH hS hl)
theorem x_lload (hO : Ok Γ M) (j : Nat) {i : Nat} {x : Int64} (hj : lv[j]? = some (i, .long x)) (d : DD M pc (.lload i) 2 npc) (k : EG Γ M npc lv (.long x :: st) h t K) : EG Γ M pc lv (st) h t K := by
  obtain ⟨p, e, R, s, m, args, below, meth, c, cells, slots, Z, G, tg⟩ := Γ
  obtain ⟨hx, hb, hml, hown, hts, hTF, hSF, hR, hret⟩ := hO
  obtain ⟨d, rfl⟩ := d
  intro z hz hk H locs ls hH hS hl
  exact lv_lload hx hb d (lv_at hl j hj) (k z hz hk H locs ls hH hS hl)
theorem x_aload_n (hO : Ok Γ M) (j : Nat) {f : Fin 4} {i : Nat} {x : Nat} (hi : (f : Nat) = i) (hj : lv[j]? = some (i, .ref x)) (d : DD M pc (.aload_n f) 1 npc) (k : EG Γ M npc lv (.ref x :: st) h t K) : EG Γ M pc lv (st) h t K := by
  obtain ⟨p, e, R, s, m, args, below, meth, c, cells, slots, Z, G, tg⟩ := Γ
  obtain ⟨hx, hb, hml, hown, hts, hTF, hSF, hR, hret⟩ := hO
  obtain ⟨d, rfl⟩ := d
  intro z hz hk H locs ls hH hS hl
  exact lv_aload_n hx hb d hi (lv_at hl j hj) (k z hz hk H locs ls hH hS hl)
theorem x_aload (hO : Ok Γ M) (j : Nat) {i : Nat} {x : Nat} (hj : lv[j]? = some (i, .ref x)) (d : DD M pc (.aload i) 2 npc) (k : EG Γ M npc lv (.ref x :: st) h t K) : EG Γ M pc lv (st) h t K := by
  obtain ⟨p, e, R, s, m, args, below, meth, c, cells, slots, Z, G, tg⟩ := Γ
  obtain ⟨hx, hb, hml, hown, hts, hTF, hSF, hR, hret⟩ := hO
  obtain ⟨d, rfl⟩ := d
  intro z hz hk H locs ls hH hS hl
  exact lv_aload hx hb d (lv_at hl j hj) (k z hz hk H locs ls hH hS hl)
theorem x_istore_n (hO : Ok Γ M) {f : Fin 4} {i : Nat} {x : Int32} (hi : (f : Nat) = i) (lv' : List (Nat × Value)) (d : DD M pc (.istore_n f) 1 npc) (hn : i < M.2.2.1) (he : (i, Value.int x) :: lv.filter (fun q => !(q.1 == i) && !(q.1 + 1 == i && q.2.category == 2)) = lv') (k : EG Γ M npc lv' st h t K) : EG Γ M pc lv (.int x :: st) h t K := by
  obtain ⟨p, e, R, s, m, args, below, meth, c, cells, slots, Z, G, tg⟩ := Γ
  obtain ⟨hx, hb, hml, hown, hts, hTF, hSF, hR, hret⟩ := hO
  obtain ⟨d, rfl⟩ := d
  intro z hz hk H locs ls hH hS hl
  exact lv_istore_n hx hb d hi hl hn he (fun ls' hl' => k z hz hk H locs ls' hH hS hl')
theorem x_istore (hO : Ok Γ M) {i : Nat} {x : Int32} (lv' : List (Nat × Value)) (d : DD M pc (.istore i) 2 npc) (hn : i < M.2.2.1) (he : (i, Value.int x) :: lv.filter (fun q => !(q.1 == i) && !(q.1 + 1 == i && q.2.category == 2)) = lv') (k : EG Γ M npc lv' st h t K) : EG Γ M pc lv (.int x :: st) h t K := by
  obtain ⟨p, e, R, s, m, args, below, meth, c, cells, slots, Z, G, tg⟩ := Γ
  obtain ⟨hx, hb, hml, hown, hts, hTF, hSF, hR, hret⟩ := hO
  obtain ⟨d, rfl⟩ := d
  intro z hz hk H locs ls hH hS hl
  exact lv_istore hx hb d hl hn he (fun ls' hl' => k z hz hk H locs ls' hH hS hl')
theorem x_lstore_n (hO : Ok Γ M) {f : Fin 4} {i : Nat} {x : Int64} (hi : (f : Nat) = i) (lv' : List (Nat × Value)) (d : DD M pc (.lstore_n f) 1 npc) (hn : i + 1 < M.2.2.1) (he : (i, Value.long x) :: lv.filter (fun q => !(q.1 == i) && (!(q.1 == i + 1) && !(q.1 + 1 == i && q.2.category == 2))) = lv') (k : EG Γ M npc lv' st h t K) : EG Γ M pc lv (.long x :: st) h t K := by
  obtain ⟨p, e, R, s, m, args, below, meth, c, cells, slots, Z, G, tg⟩ := Γ
  obtain ⟨hx, hb, hml, hown, hts, hTF, hSF, hR, hret⟩ := hO
  obtain ⟨d, rfl⟩ := d
  intro z hz hk H locs ls hH hS hl
  exact lv_lstore_n hx hb d hi hl hn he (fun ls' hl' => k z hz hk H locs ls' hH hS hl')
theorem x_lstore (hO : Ok Γ M) {i : Nat} {x : Int64} (lv' : List (Nat × Value)) (d : DD M pc (.lstore i) 2 npc) (hn : i + 1 < M.2.2.1) (he : (i, Value.long x) :: lv.filter (fun q => !(q.1 == i) && (!(q.1 == i + 1) && !(q.1 + 1 == i && q.2.category == 2))) = lv') (k : EG Γ M npc lv' st h t K) : EG Γ M pc lv (.long x :: st) h t K := by
  obtain ⟨p, e, R, s, m, args, below, meth, c, cells, slots, Z, G, tg⟩ := Γ
  obtain ⟨hx, hb, hml, hown, hts, hTF, hSF, hR, hret⟩ := hO
  obtain ⟨d, rfl⟩ := d
  intro z hz hk H locs ls hH hS hl
  exact lv_lstore hx hb d hl hn he (fun ls' hl' => k z hz hk H locs ls' hH hS hl')
theorem x_astore_n (hO : Ok Γ M) {f : Fin 4} {i : Nat} {x : Nat} (hi : (f : Nat) = i) (lv' : List (Nat × Value)) (d : DD M pc (.astore_n f) 1 npc) (hn : i < M.2.2.1) (he : (i, Value.ref x) :: lv.filter (fun q => !(q.1 == i) && !(q.1 + 1 == i && q.2.category == 2)) = lv') (k : EG Γ M npc lv' st h t K) : EG Γ M pc lv (.ref x :: st) h t K := by
  obtain ⟨p, e, R, s, m, args, below, meth, c, cells, slots, Z, G, tg⟩ := Γ
  obtain ⟨hx, hb, hml, hown, hts, hTF, hSF, hR, hret⟩ := hO
  obtain ⟨d, rfl⟩ := d
  intro z hz hk H locs ls hH hS hl
  exact lv_astore_n hx hb d hi hl hn he (fun ls' hl' => k z hz hk H locs ls' hH hS hl')
theorem x_astore (hO : Ok Γ M) {i : Nat} {x : Nat} (lv' : List (Nat × Value)) (d : DD M pc (.astore i) 2 npc) (hn : i < M.2.2.1) (he : (i, Value.ref x) :: lv.filter (fun q => !(q.1 == i) && !(q.1 + 1 == i && q.2.category == 2)) = lv') (k : EG Γ M npc lv' st h t K) : EG Γ M pc lv (.ref x :: st) h t K := by
  obtain ⟨p, e, R, s, m, args, below, meth, c, cells, slots, Z, G, tg⟩ := Γ
  obtain ⟨hx, hb, hml, hown, hts, hTF, hSF, hR, hret⟩ := hO
  obtain ⟨d, rfl⟩ := d
  intro z hz hk H locs ls hH hS hl
  exact lv_astore hx hb d hl hn he (fun ls' hl' => k z hz hk H locs ls' hH hS hl')
theorem x_iinc (hO : Ok Γ M) (j : Nat) {i : Nat} {n : Int} {x v : Int32} (lv' : List (Nat × Value)) (d : DD M pc (.iinc i n) 3 npc) (hj : lv[j]? = some (i, .int x)) (hv : Int32.ofInt n = v) (hn : i < M.2.2.1) (he : (i, Value.int (x + v)) :: lv.filter (fun q => !(q.1 == i) && !(q.1 + 1 == i && q.2.category == 2)) = lv') (k : EG Γ M npc lv' st h t K) : EG Γ M pc lv st h t K := by
  obtain ⟨p, e, R, s, m, args, below, meth, c, cells, slots, Z, G, tg⟩ := Γ
  obtain ⟨hx, hb, hml, hown, hts, hTF, hSF, hR, hret⟩ := hO
  obtain ⟨d, rfl⟩ := d
  intro z hz hk H locs ls hH hS hl
  exact lv_iinc hx hb d hl hj (by rw [hv]) hn he (fun ls' hl' => k z hz hk H locs ls' hH hS hl')
theorem x_idiv (hO : Ok Γ M) {x y : Int32} (d : DD M pc .idiv 1 npc) (k : EG Γ M npc lv (.int (x / y) :: st) h t K) : EG Γ M pc lv (.int y :: .int x :: st) h (gd (!decide (y = 0)) t) K := by
  obtain ⟨p, e, R, s, m, args, below, meth, c, cells, slots, Z, G, tg⟩ := Γ
  obtain ⟨hx, hb, hml, hown, hts, hTF, hSF, hR, hret⟩ := hO
  obtain ⟨d, rfl⟩ := d
  intro z hz hk H locs ls hH hS hl
  obtain ⟨h1, h2⟩ := gd_t hz
  exact lv_idiv hx hb d (by simpa using h1) (k z h2 hk H locs ls hH hS hl)
theorem x_idivc (hO : Ok Γ M) {x y : Int32} (hy : ¬ y = 0) (d : DD M pc .idiv 1 npc) (k : EG Γ M npc lv (.int (x / y) :: st) h t K) : EG Γ M pc lv (.int y :: .int x :: st) h t K := by
  obtain ⟨p, e, R, s, m, args, below, meth, c, cells, slots, Z, G, tg⟩ := Γ
  obtain ⟨hx, hb, hml, hown, hts, hTF, hSF, hR, hret⟩ := hO
  obtain ⟨d, rfl⟩ := d
  intro z hz hk H locs ls hH hS hl
  exact lv_idiv hx hb d hy (k z hz hk H locs ls hH hS hl)
theorem x_irem (hO : Ok Γ M) {x y : Int32} (d : DD M pc .irem 1 npc) (k : EG Γ M npc lv (.int (x - x / y * y) :: st) h t K) : EG Γ M pc lv (.int y :: .int x :: st) h (gd (!decide (y = 0)) t) K := by
  obtain ⟨p, e, R, s, m, args, below, meth, c, cells, slots, Z, G, tg⟩ := Γ
  obtain ⟨hx, hb, hml, hown, hts, hTF, hSF, hR, hret⟩ := hO
  obtain ⟨d, rfl⟩ := d
  intro z hz hk H locs ls hH hS hl
  obtain ⟨h1, h2⟩ := gd_t hz
  exact lv_irem hx hb d (by simpa using h1) (k z h2 hk H locs ls hH hS hl)
theorem x_iremc (hO : Ok Γ M) {x y : Int32} (hy : ¬ y = 0) (d : DD M pc .irem 1 npc) (k : EG Γ M npc lv (.int (x - x / y * y) :: st) h t K) : EG Γ M pc lv (.int y :: .int x :: st) h t K := by
  obtain ⟨p, e, R, s, m, args, below, meth, c, cells, slots, Z, G, tg⟩ := Γ
  obtain ⟨hx, hb, hml, hown, hts, hTF, hSF, hR, hret⟩ := hO
  obtain ⟨d, rfl⟩ := d
  intro z hz hk H locs ls hH hS hl
  exact lv_irem hx hb d hy (k z hz hk H locs ls hH hS hl)
theorem x_icmp_eq (hO : Ok Γ M) {x y : Int32} {off : Int} {tg : Nat} (d : DD M pc (.if_icmp .eq off) 3 npc) (ht : (pc : Int) + off = (tg : Int)) (k1 : EG Γ M tg lv st h t1 K) (k2 : EG Γ M npc lv st h t2 K) : EG Γ M pc lv (.int y :: .int x :: st) h (if x = y then t1 else t2) K := by
  obtain ⟨p, e, R, s, m, args, below, meth, c, cells, slots, Z, G, tgv⟩ := Γ
  obtain ⟨hx, hb, hml, hown, hts, hTF, hSF, hR, hret⟩ := hO
  obtain ⟨d, rfl⟩ := d
  intro z hz hk H locs ls hH hS hl
  refine lv_icmp_eq hx hb d ht (fun q => ?_) (fun q => ?_)
  · exact k1 z (by rw [if_pos q] at hz; exact hz) hk H locs ls hH hS hl
  · exact k2 z (by rw [if_neg q] at hz; exact hz) hk H locs ls hH hS hl
theorem x_icmp_ne (hO : Ok Γ M) {x y : Int32} {off : Int} {tg : Nat} (d : DD M pc (.if_icmp .ne off) 3 npc) (ht : (pc : Int) + off = (tg : Int)) (k1 : EG Γ M tg lv st h t1 K) (k2 : EG Γ M npc lv st h t2 K) : EG Γ M pc lv (.int y :: .int x :: st) h (if x = y then t2 else t1) K := by
  obtain ⟨p, e, R, s, m, args, below, meth, c, cells, slots, Z, G, tgv⟩ := Γ
  obtain ⟨hx, hb, hml, hown, hts, hTF, hSF, hR, hret⟩ := hO
  obtain ⟨d, rfl⟩ := d
  intro z hz hk H locs ls hH hS hl
  refine lv_icmp_ne hx hb d ht (fun q => ?_) (fun q => ?_)
  · exact k1 z (by rw [if_neg q] at hz; exact hz) hk H locs ls hH hS hl
  · exact k2 z (by rw [if_pos q] at hz; exact hz) hk H locs ls hH hS hl
theorem x_icmp_lt (hO : Ok Γ M) {x y : Int32} {off : Int} {tg : Nat} (d : DD M pc (.if_icmp .lt off) 3 npc) (ht : (pc : Int) + off = (tg : Int)) (k1 : EG Γ M tg lv st h t1 K) (k2 : EG Γ M npc lv st h t2 K) : EG Γ M pc lv (.int y :: .int x :: st) h (if x < y then t1 else t2) K := by
  obtain ⟨p, e, R, s, m, args, below, meth, c, cells, slots, Z, G, tgv⟩ := Γ
  obtain ⟨hx, hb, hml, hown, hts, hTF, hSF, hR, hret⟩ := hO
  obtain ⟨d, rfl⟩ := d
  intro z hz hk H locs ls hH hS hl
  refine lv_icmp_lt hx hb d ht (fun q => ?_) (fun q => ?_)
  · exact k1 z (by rw [if_pos q] at hz; exact hz) hk H locs ls hH hS hl
  · exact k2 z (by rw [if_neg q] at hz; exact hz) hk H locs ls hH hS hl
theorem x_icmp_ge (hO : Ok Γ M) {x y : Int32} {off : Int} {tg : Nat} (d : DD M pc (.if_icmp .ge off) 3 npc) (ht : (pc : Int) + off = (tg : Int)) (k1 : EG Γ M tg lv st h t1 K) (k2 : EG Γ M npc lv st h t2 K) : EG Γ M pc lv (.int y :: .int x :: st) h (if y ≤ x then t1 else t2) K := by
  obtain ⟨p, e, R, s, m, args, below, meth, c, cells, slots, Z, G, tgv⟩ := Γ
  obtain ⟨hx, hb, hml, hown, hts, hTF, hSF, hR, hret⟩ := hO
  obtain ⟨d, rfl⟩ := d
  intro z hz hk H locs ls hH hS hl
  refine lv_icmp_ge hx hb d ht (fun q => ?_) (fun q => ?_)
  · exact k1 z (by rw [if_pos q] at hz; exact hz) hk H locs ls hH hS hl
  · exact k2 z (by rw [if_neg q] at hz; exact hz) hk H locs ls hH hS hl
theorem x_icmp_gt (hO : Ok Γ M) {x y : Int32} {off : Int} {tg : Nat} (d : DD M pc (.if_icmp .gt off) 3 npc) (ht : (pc : Int) + off = (tg : Int)) (k1 : EG Γ M tg lv st h t1 K) (k2 : EG Γ M npc lv st h t2 K) : EG Γ M pc lv (.int y :: .int x :: st) h (if y < x then t1 else t2) K := by
  obtain ⟨p, e, R, s, m, args, below, meth, c, cells, slots, Z, G, tgv⟩ := Γ
  obtain ⟨hx, hb, hml, hown, hts, hTF, hSF, hR, hret⟩ := hO
  obtain ⟨d, rfl⟩ := d
  intro z hz hk H locs ls hH hS hl
  refine lv_icmp_gt hx hb d ht (fun q => ?_) (fun q => ?_)
  · exact k1 z (by rw [if_pos q] at hz; exact hz) hk H locs ls hH hS hl
  · exact k2 z (by rw [if_neg q] at hz; exact hz) hk H locs ls hH hS hl
theorem x_icmp_le (hO : Ok Γ M) {x y : Int32} {off : Int} {tg : Nat} (d : DD M pc (.if_icmp .le off) 3 npc) (ht : (pc : Int) + off = (tg : Int)) (k1 : EG Γ M tg lv st h t1 K) (k2 : EG Γ M npc lv st h t2 K) : EG Γ M pc lv (.int y :: .int x :: st) h (if x ≤ y then t1 else t2) K := by
  obtain ⟨p, e, R, s, m, args, below, meth, c, cells, slots, Z, G, tgv⟩ := Γ
  obtain ⟨hx, hb, hml, hown, hts, hTF, hSF, hR, hret⟩ := hO
  obtain ⟨d, rfl⟩ := d
  intro z hz hk H locs ls hH hS hl
  refine lv_icmp_le hx hb d ht (fun q => ?_) (fun q => ?_)
  · exact k1 z (by rw [if_pos q] at hz; exact hz) hk H locs ls hH hS hl
  · exact k2 z (by rw [if_neg q] at hz; exact hz) hk H locs ls hH hS hl
theorem x_if_eq (hO : Ok Γ M) {x : Int32} {off : Int} {tg : Nat} (d : DD M pc (.ifCond .eq off) 3 npc) (ht : (pc : Int) + off = (tg : Int)) (k1 : EG Γ M tg lv st h t1 K) (k2 : EG Γ M npc lv st h t2 K) : EG Γ M pc lv (.int x :: st) h (if x = 0 then t1 else t2) K := by
  obtain ⟨p, e, R, s, m, args, below, meth, c, cells, slots, Z, G, tgv⟩ := Γ
  obtain ⟨hx, hb, hml, hown, hts, hTF, hSF, hR, hret⟩ := hO
  obtain ⟨d, rfl⟩ := d
  intro z hz hk H locs ls hH hS hl
  refine lv_if_eq hx hb d ht (fun q => ?_) (fun q => ?_)
  · exact k1 z (by rw [if_pos q] at hz; exact hz) hk H locs ls hH hS hl
  · exact k2 z (by rw [if_neg q] at hz; exact hz) hk H locs ls hH hS hl
theorem x_if_ne (hO : Ok Γ M) {x : Int32} {off : Int} {tg : Nat} (d : DD M pc (.ifCond .ne off) 3 npc) (ht : (pc : Int) + off = (tg : Int)) (k1 : EG Γ M tg lv st h t1 K) (k2 : EG Γ M npc lv st h t2 K) : EG Γ M pc lv (.int x :: st) h (if x = 0 then t2 else t1) K := by
  obtain ⟨p, e, R, s, m, args, below, meth, c, cells, slots, Z, G, tgv⟩ := Γ
  obtain ⟨hx, hb, hml, hown, hts, hTF, hSF, hR, hret⟩ := hO
  obtain ⟨d, rfl⟩ := d
  intro z hz hk H locs ls hH hS hl
  refine lv_if_ne hx hb d ht (fun q => ?_) (fun q => ?_)
  · exact k1 z (by rw [if_neg q] at hz; exact hz) hk H locs ls hH hS hl
  · exact k2 z (by rw [if_pos q] at hz; exact hz) hk H locs ls hH hS hl
theorem x_if_lt (hO : Ok Γ M) {x : Int32} {off : Int} {tg : Nat} (d : DD M pc (.ifCond .lt off) 3 npc) (ht : (pc : Int) + off = (tg : Int)) (k1 : EG Γ M tg lv st h t1 K) (k2 : EG Γ M npc lv st h t2 K) : EG Γ M pc lv (.int x :: st) h (if x < 0 then t1 else t2) K := by
  obtain ⟨p, e, R, s, m, args, below, meth, c, cells, slots, Z, G, tgv⟩ := Γ
  obtain ⟨hx, hb, hml, hown, hts, hTF, hSF, hR, hret⟩ := hO
  obtain ⟨d, rfl⟩ := d
  intro z hz hk H locs ls hH hS hl
  refine lv_if_lt hx hb d ht (fun q => ?_) (fun q => ?_)
  · exact k1 z (by rw [if_pos q] at hz; exact hz) hk H locs ls hH hS hl
  · exact k2 z (by rw [if_neg q] at hz; exact hz) hk H locs ls hH hS hl
theorem x_if_ge (hO : Ok Γ M) {x : Int32} {off : Int} {tg : Nat} (d : DD M pc (.ifCond .ge off) 3 npc) (ht : (pc : Int) + off = (tg : Int)) (k1 : EG Γ M tg lv st h t1 K) (k2 : EG Γ M npc lv st h t2 K) : EG Γ M pc lv (.int x :: st) h (if 0 ≤ x then t1 else t2) K := by
  obtain ⟨p, e, R, s, m, args, below, meth, c, cells, slots, Z, G, tgv⟩ := Γ
  obtain ⟨hx, hb, hml, hown, hts, hTF, hSF, hR, hret⟩ := hO
  obtain ⟨d, rfl⟩ := d
  intro z hz hk H locs ls hH hS hl
  refine lv_if_ge hx hb d ht (fun q => ?_) (fun q => ?_)
  · exact k1 z (by rw [if_pos q] at hz; exact hz) hk H locs ls hH hS hl
  · exact k2 z (by rw [if_neg q] at hz; exact hz) hk H locs ls hH hS hl
theorem x_if_gt (hO : Ok Γ M) {x : Int32} {off : Int} {tg : Nat} (d : DD M pc (.ifCond .gt off) 3 npc) (ht : (pc : Int) + off = (tg : Int)) (k1 : EG Γ M tg lv st h t1 K) (k2 : EG Γ M npc lv st h t2 K) : EG Γ M pc lv (.int x :: st) h (if 0 < x then t1 else t2) K := by
  obtain ⟨p, e, R, s, m, args, below, meth, c, cells, slots, Z, G, tgv⟩ := Γ
  obtain ⟨hx, hb, hml, hown, hts, hTF, hSF, hR, hret⟩ := hO
  obtain ⟨d, rfl⟩ := d
  intro z hz hk H locs ls hH hS hl
  refine lv_if_gt hx hb d ht (fun q => ?_) (fun q => ?_)
  · exact k1 z (by rw [if_pos q] at hz; exact hz) hk H locs ls hH hS hl
  · exact k2 z (by rw [if_neg q] at hz; exact hz) hk H locs ls hH hS hl
theorem x_if_le (hO : Ok Γ M) {x : Int32} {off : Int} {tg : Nat} (d : DD M pc (.ifCond .le off) 3 npc) (ht : (pc : Int) + off = (tg : Int)) (k1 : EG Γ M tg lv st h t1 K) (k2 : EG Γ M npc lv st h t2 K) : EG Γ M pc lv (.int x :: st) h (if x ≤ 0 then t1 else t2) K := by
  obtain ⟨p, e, R, s, m, args, below, meth, c, cells, slots, Z, G, tgv⟩ := Γ
  obtain ⟨hx, hb, hml, hown, hts, hTF, hSF, hR, hret⟩ := hO
  obtain ⟨d, rfl⟩ := d
  intro z hz hk H locs ls hH hS hl
  refine lv_if_le hx hb d ht (fun q => ?_) (fun q => ?_)
  · exact k1 z (by rw [if_pos q] at hz; exact hz) hk H locs ls hH hS hl
  · exact k2 z (by rw [if_neg q] at hz; exact hz) hk H locs ls hH hS hl
theorem x_goto (hO : Ok Γ M) {off : Int} {tg : Nat} (d : DD M pc (.goto off) 3 npc) (ht : (pc : Int) + off = (tg : Int)) (k : EG Γ M tg lv st h t K) : EG Γ M pc lv st h t K := by
  obtain ⟨p, e, R, s, m, args, below, meth, c, cells, slots, Z, G, tgv⟩ := Γ
  obtain ⟨hx, hb, hml, hown, hts, hTF, hSF, hR, hret⟩ := hO
  obtain ⟨d, rfl⟩ := d
  intro z hz hk H locs ls hH hS hl
  exact lv_goto hx hb d ht (k z hz hk H locs ls hH hS hl)
theorem x_ldc (hO : Ok Γ M) {v : Int32} {i : Nat} (hw : Cond.constant M.1.cls i v ∈ lw_good) (d : DD M pc (.ldc i) 2 npc) (k : EG Γ M npc lv (.int v :: st) h t K) : EG Γ M pc lv st h t K := by
  obtain ⟨p, e, R, s, m, args, below, meth, c, cells, slots, Z, G, tg⟩ := Γ
  obtain ⟨hx, hb, hml, hown, hts, hTF, hSF, hR, hret⟩ := hO
  obtain ⟨d, rfl⟩ := d
  intro z hz hk H locs ls hH hS hl
  exact lv_ldc hx hb hown (hts _ hw) d (k z hz hk H locs ls hH hS hl)
theorem x_ldcw (hO : Ok Γ M) {v : Int32} {i : Nat} (hw : Cond.constant M.1.cls i v ∈ lw_good) (d : DD M pc (.ldc_w i) 3 npc) (k : EG Γ M npc lv (.int v :: st) h t K) : EG Γ M pc lv st h t K := by
  obtain ⟨p, e, R, s, m, args, below, meth, c, cells, slots, Z, G, tg⟩ := Γ
  obtain ⟨hx, hb, hml, hown, hts, hTF, hSF, hR, hret⟩ := hO
  obtain ⟨d, rfl⟩ := d
  intro z hz hk H locs ls hH hS hl
  exact lv_ldcw hx hb hown (hts _ hw) d (k z hz hk H locs ls hH hS hl)
theorem x_ldc2 (hO : Ok Γ M) {v : Int64} {i : Nat} (hw : Cond.constantLong M.1.cls i v ∈ lw_good) (d : DD M pc (.ldc2_w i) 3 npc) (k : EG Γ M npc lv (.long v :: st) h t K) : EG Γ M pc lv st h t K := by
  obtain ⟨p, e, R, s, m, args, below, meth, c, cells, slots, Z, G, tg⟩ := Γ
  obtain ⟨hx, hb, hml, hown, hts, hTF, hSF, hR, hret⟩ := hO
  obtain ⟨d, rfl⟩ := d
  intro z hz hk H locs ls hH hS hl
  exact lv_ldc2 hx hb hown (hts _ hw) d (k z hz hk H locs ls hH hS hl)
theorem x_ldcS (hO : Ok Γ M) {j i : Nat} {tx : String} (hw : (M.1.cls, i, tx, j) ∈ SRF) (d : DD M pc (.ldc i) 2 npc) (k : EG Γ M npc lv (sf Γ j :: st) h t K) : EG Γ M pc lv st h t K := by
  obtain ⟨p, e, R, s, m, args, below, meth, c, cells, slots, Z, G, tg⟩ := Γ
  obtain ⟨hx, hb, hml, hown, hts, hTF, hSF, hR, hret⟩ := hO
  obtain ⟨d, rfl⟩ := d
  intro z hz hk H locs ls hH hS hl
  exact va_ldcS hx hb hown (hTF.2.2 _ hw) d (k z hz hk H locs ls hH hS hl)
theorem w_ldcwS {p : Program} {l : Launch} {e : Env} {R : Room} {s : State} {m : MethodId} {args : Array Value} {below : List Frame} {meth : Method} {c : Code} {H : Heap} {locs : List Loc} {cells slots : Nat} {Q : State → Prop} {cc : ByteArray} {pc : Nat} {ls : Array Slot} {rest : List Value} (hexec : p.tables.exec = Jvm.exec) (hb : c.code = cc) {own tx : String} {index q : Nat} (hown : s.vm.findClass own = some m.cls) (hZ : vk_R own index tx q s) (hdg : decode cc pc = .ok (.ldc_w index, 3))
    (k : W p l e R s m args below meth c H locs cells slots Q (F0 m (pc + 3) ls (.ref q :: rest))) : W p l e R s m args below meth c H locs cells slots Q (F0 m pc ls rest) := by
  intro T hT X
  obtain ⟨t, a1, b1⟩ := k T hT X
  refine ⟨t, ?_, b1⟩
  have h1 : (Cond.stringRef own index tx).before args s = true := hZ.1
  obtain ⟨k, cf, i, a', hk, hcf, hcp, -, hr, hev'⟩ := Cond.stringRef_spec hown h1
  have hev : (Term.string own index).eval args s none [] s = some (.ref q) := hZ.2
  cases hev.symm.trans hev'
  obtain ⟨k', hk', he⟩ := X.warmed.alike.2.2 _ _ hk
  have hr' : k'.resolved[index]? = some (some (.string q)) := by
    rcases X.warmed.entry hk hk' index with h | ⟨h, -⟩
    · rw [h]; exact hr
    · rw [hr] at h; cases h
  subst hb
  jvm_step X.here [hexec, hdg, ldc_w.wp_string (e := e) (s := T) (f := F0 m pc ls rest) X.here.top hk' (by rw [he]; exact hcf) hcp hr']
  exact a1
theorem x_ldcwS (hO : Ok Γ M) {j i : Nat} {tx : String} (hw : (M.1.cls, i, tx, j) ∈ SRF) (d : DD M pc (.ldc_w i) 3 npc) (k : EG Γ M npc lv (sf Γ j :: st) h t K) : EG Γ M pc lv st h t K := by
  obtain ⟨p, e, R, s, m, args, below, meth, c, cells, slots, Z, G, tg⟩ := Γ
  obtain ⟨hx, hb, hml, hown, hts, hTF, hSF, hR, hret⟩ := hO
  obtain ⟨d, rfl⟩ := d
  intro z hz hk H locs ls hH hS hl
  exact w_ldcwS hx hb hown (hTF.2.2 _ hw) d (k z hz hk H locs ls hH hS hl)
end EGR
