/-! ===== the abstract machine: a heap of numbered cells ===== -/
/-- numbers, longs, the one reference that moves (a reader's text) -/
abbrev Hp : Type := (Nat → Nat → Int32) × (Nat → Nat → Int64) × (Nat → Nat)
def hI (h : Hp) : Nat → Nat → Int32 := h.1
def hL (h : Hp) : Nat → Nat → Int64 := h.2.1
def hT (h : Hp) : Nat → Nat := h.2.2
def sI (h : Hp) (c : Nat) (f : Nat → Int32) : Hp := (va_up h.1 c f, h.2.1, h.2.2)
def sL (h : Hp) (c : Nat) (f : Nat → Int64) : Hp := (h.1, va_up h.2.1 c f, h.2.2)
def sT (h : Hp) (c a : Nat) : Hp := (h.1, h.2.1, va_up h.2.2 c a)
def uI (h : Hp) (c k : Nat) (v : Int32) : Hp := sI h c (upd (hI h c) k v)
def uL (h : Hp) (c k : Nat) (v : Int64) : Hp := sL h c (vp_updL (hL h c) k v)
def KD (c : Nat) : Nat := KDL.getD c 99
def LEN (c : Nat) : Nat := LNL.getD c 0
def GR (c k : Nat) : Nat := (GRL.getD c []).getD k 0
def FT (ci : Nat) : List Nat := FTL.getD ci []
def RK (ci k : Nat) : Nat := (RKL.getD ci []).getD k 99
/-- cell c is of kind k -/
abbrev Is (c k : Nat) : Prop := c < NC ∧ KD c = k
theorem GR_all : ∀ c, c < NC → KD c < 13 → ∀ k, k < 52 → (FT (KD c))[k]? = some 2 → GR c k < NC ∧ KD (GR c k) = RK (KD c) k := by decide +kernel
theorem FT_len : ∀ ci, ci < 13 → (FT ci).length ≤ 52 := by decide +kernel
theorem GR_is {c ci k rk : Nat} (hc : Is c ci) (hci : ci < 13) (hf : (FT ci)[k]? = some 2) (hr : RK ci k = rk) : Is (GR c k) rk := by
  obtain ⟨h1, h2⟩ := hc
  subst h2
  have hk : k < 52 := Nat.lt_of_lt_of_le (List.getElem?_eq_some_iff.mp hf).1 (FT_len _ hci)
  obtain ⟨a, b⟩ := GR_all c h1 hci k hk hf
  exact ⟨a, b.trans hr⟩
theorem GR_h : ∀ c, c < NC → KD c = 16 → ∀ k, k < LEN c → GR c k < NC ∧ KD (GR c k) = 2 := by decide +kernel
theorem GR_t : ∀ c, c < NC → KD c = 17 → ∀ k, k < LEN c → GR c k < NC ∧ KD (GR c k) = 10 := by decide +kernel
/-- launch; numbers of classes and slots; classes of arrays; where the cells begin; where String constants and their bytes lie -/
abbrev Gl : Type := Launch × va_G × (Nat → ClassId) × Nat × (Nat → Nat) × (Nat → Nat)
def gl (G : Gl) : Launch := G.1
def gD (G : Gl) : va_G := G.2.1
def gC (G : Gl) : Nat → ClassId := G.2.2.1
def gb (G : Gl) : Nat := G.2.2.2.1
def gk (G : Gl) : Nat → Nat := G.2.2.2.2.1
def gv (G : Gl) : Nat → Nat := G.2.2.2.2.2
def gA (G : Gl) : Nat → Prop := fun q => gb G ≤ q
def gty (G : Gl) : List (ClassId × FieldType) := [(gC G 13, .byte), (gC G 14, .int), (gC G 15, .long), (gC G 16, .object "HoleDeck$House"), (gC G 17, .object "HoleDeck$Tray")]
def fval (G : Gl) (h : Hp) (c k t : Nat) : Value := if t = 0 then .int (hI h c k) else if t = 1 then .long (hL h c k) else if t = 2 then .ref (gb G + GR c k) else .ref (gb G + hT h c)
def cont (G : Gl) (h : Hp) (c : Nat) : vp_A := (LEN c, if KD c < 15 then .inl (hI h c) else if KD c = 15 then .inr (.inl (hL h c)) else .inr (.inr (.inr (.inr (fun k => some (gb G + GR c k))))))
def ent (G : Gl) (h : Hp) (c : Nat) : va_E := if KD c < 13 then .inr (KD c, (FT (KD c)).mapIdx (fun k t => fval G h c k t)) else .inl (gC G (KD c), cont G h c)
def pool (G : Gl) (h : Hp) : va_W := (List.range NC).map (fun c => (gb G + c, ent G h c))
theorem pool_get {G : Gl} {h : Hp} {c : Nat} (hc : c < NC) : (pool G h)[c]? = some (gb G + c, ent G h c) := by simp [pool, hc]
theorem pool_lt {G : Gl} {h : Hp} {c : Nat} {q : Nat × va_E} (hq : (pool G h)[c]? = some q) : c < NC ∧ q = (gb G + c, ent G h c) := by
  have h1 : c < NC := by
    have := (List.getElem?_eq_some_iff.mp hq).1
    simpa [pool] using this
  exact ⟨h1, Option.some.inj (hq.symm.trans (pool_get h1))⟩
theorem pool_set {G : Gl} {h h' : Hp} {c : Nat} (hd : ∀ d, d ≠ c → ent G h' d = ent G h d) : (pool G h).set c (gb G + c, ent G h' c) = pool G h' := by
  apply List.ext_getElem?
  intro i
  rw [List.getElem?_set]
  by_cases hi : i < NC
  · by_cases hc : c = i
    · subst hc
      simp [pool, hi]
    · rw [if_neg hc, pool_get hi, pool_get hi, hd i (fun e => hc e.symm)]
  · have h1 : (pool G h)[i]? = none := by simp [pool]; omega
    have h2 : (pool G h')[i]? = none := by simp [pool]; omega
    by_cases hc : c = i
    · subst hc
      simp [pool, hi]
    · rw [if_neg hc, h1, h2]
theorem pool_D {G : Gl} {h : Hp} : va_D (gA G) (pool G h) := by
  refine ⟨fun i j p q hp hq e => ?_, fun k q hq => ?_⟩
  · obtain ⟨-, rfl⟩ := pool_lt hp
    obtain ⟨-, rfl⟩ := pool_lt hq
    exact Nat.add_left_cancel e
  · obtain ⟨-, rfl⟩ := pool_lt hq
    exact Nat.le_add_right _ _
theorem ent_obj {G : Gl} {h : Hp} {c ci : Nat} (hc : Is c ci) (hci : ci < 13) : ent G h c = .inr (ci, (FT ci).mapIdx (fun k t => fval G h c k t)) := by
  obtain ⟨-, rfl⟩ := hc
  unfold ent
  rw [if_pos hci]
theorem ent_i {G : Gl} {h : Hp} {c : Nat} (hc : Is c 14) : ent G h c = .inl (gC G 14, LEN c, .inl (hI h c)) := by
  obtain ⟨-, hk⟩ := hc
  unfold ent cont
  rw [hk, if_neg (by decide), if_pos (by decide)]
theorem ent_b {G : Gl} {h : Hp} {c : Nat} (hc : Is c 13) : ent G h c = .inl (gC G 13, LEN c, .inl (hI h c)) := by
  obtain ⟨-, hk⟩ := hc
  unfold ent cont
  rw [hk, if_neg (by decide), if_pos (by decide)]
theorem ent_l {G : Gl} {h : Hp} {c : Nat} (hc : Is c 15) : ent G h c = .inl (gC G 15, LEN c, .inr (.inl (hL h c))) := by
  obtain ⟨-, hk⟩ := hc
  unfold ent cont
  rw [hk, if_neg (by decide), if_neg (by decide), if_pos (by decide)]
theorem ent_h {G : Gl} {h : Hp} {c : Nat} (hc : Is c 16) : ent G h c = .inl (gC G 16, LEN c, .inr (.inr (.inr (.inr (fun k => some (gb G + GR c k)))))) := by
  obtain ⟨-, hk⟩ := hc
  unfold ent cont
  rw [hk, if_neg (by decide), if_neg (by decide), if_neg (by decide)]
theorem ent_t {G : Gl} {h : Hp} {c : Nat} (hc : Is c 17) : ent G h c = .inl (gC G 17, LEN c, .inr (.inr (.inr (.inr (fun k => some (gb G + GR c k)))))) := by
  obtain ⟨-, hk⟩ := hc
  unfold ent cont
  rw [hk, if_neg (by decide), if_neg (by decide), if_neg (by decide)]
theorem up_ne {α : Type} {f : Nat → α} {c d : Nat} {v : α} (hd : d ≠ c) : va_up f c v d = f d := if_neg hd
theorem up_eq {α : Type} {f : Nat → α} {c : Nat} {v : α} : va_up f c v c = v := if_pos rfl
theorem ent_sI {G : Gl} {h : Hp} {c : Nat} {f : Nat → Int32} (d : Nat) (hd : d ≠ c) : ent G (sI h c f) d = ent G h d := by
  simp only [ent, cont, fval, hI, hL, hT, sI, up_ne hd]
theorem ent_sL {G : Gl} {h : Hp} {c : Nat} {f : Nat → Int64} (d : Nat) (hd : d ≠ c) : ent G (sL h c f) d = ent G h d := by
  simp only [ent, cont, fval, hI, hL, hT, sL, up_ne hd]
theorem ent_sT {G : Gl} {h : Hp} {c a : Nat} (d : Nat) (hd : d ≠ c) : ent G (sT h c a) d = ent G h d := by
  simp only [ent, cont, fval, hI, hL, hT, sT, up_ne hd]
theorem hI_sI {h : Hp} {c : Nat} {f : Nat → Int32} : hI (sI h c f) c = f := up_eq
theorem hL_sL {h : Hp} {c : Nat} {f : Nat → Int64} : hL (sL h c f) c = f := up_eq
/-- the heap H holds the cells as h says -/
def HR (G : Gl) (h : Hp) (H : Heap) : Prop := va_P (gD G) vwCl (pool G h) H ∧ ∀ c, Is c 7 → Is (hT h c) 14
def isNest : Cond → Bool
  | .fieldLinkNest .. => true
  | .methodLinkNest .. => true
  | _ => false
def lw_good : List Cond := lw_tbl.filter goodWord
def lw_nest : List Cond := lw_tbl.filter isNest
theorem tb_in {i : Nat} {w : Cond} (h : tables_1[i]? = some w) : w ∈ lw_tbl := List.mem_append_right _ (List.mem_of_getElem? h)
theorem tb_good {i : Nat} {w : Cond} (h : tables_1[i]? = some w) (hg : goodWord w = true) : w ∈ lw_good := List.mem_filter.mpr ⟨tb_in h, hg⟩
theorem tb_nest {i : Nat} {w : Cond} (h : tables_1[i]? = some w) (hg : isNest w = true) : w ∈ lw_nest := List.mem_filter.mpr ⟨tb_in h, hg⟩
theorem tb_sel {i : Nat} {w : Cond} (h : (k2_sels lw_privs)[i]? = some w) (hg : goodWord w = true) : w ∈ lw_good := List.mem_filter.mpr ⟨List.mem_append_left _ (List.mem_of_getElem? h), hg⟩
theorem good_in : ∀ w ∈ lw_good, w ∈ lw_tbl := fun _ h => (List.mem_filter.mp h).1
theorem good_ok {ws : List Cond} (h : ∀ w ∈ ws, w ∈ lw_good) : GoodIn lw_good ws := fun w hw => ⟨h w hw, good_of_word (List.mem_filter.mp (h w hw)).2⟩
/-- what the tables say, beyond words that are kept by themselves -/
def TF (G : Gl) (U : State) : Prop := va_K (gD G) vwCl (gty G) U ∧ (∀ w ∈ lw_nest, va_Nw w U) ∧ ∀ q ∈ SRF, vk_R q.1 q.2.1 q.2.2.1 (gk G q.2.2.2) U
/-- what lies outside the cells -/
def SF (G : Gl) (U : State) (H : Heap) : Prop := vk_S NS SLN SBY (gk G) (gv G) (gA G) U H ∧ va_Z "java/lang/String" "COMPACT_STRINGS" "Z" (.int 1) (gA G) U H ∧ va_Zq "jdk/internal/util/Preconditions" "SIOOBE_FORMATTER" "Ljava/util/function/BiFunction;" (gA G) U H
theorem TF.warm {G : Gl} {s U : State} (hW : s.WarmedH U.vm) (h : TF G s) : TF G U := by
  refine ⟨va_K.moved hW.alike h.1, fun w hw => ?_, fun q hq => vk_R.warm hW (h.2.2 q hq)⟩
  have h1 := h.2.1 w hw
  have h2 := (List.mem_filter.mp hw).2
  cases w <;> first | exact va_Nw.warmF hW h1 | exact va_Nw.warmM hW h1 | (exact absurd h2 (by simp [isNest]))
theorem nest_onT {w : Cond} (h : isNest w = true) : w.onTables = true := by
  cases w <;> first | rfl | exact absurd h (by simp [isNest])
theorem TF.same {G : Gl} {u U : State} (hv : U.vm = u.vm) (h : TF G u) : TF G U :=
  ⟨va_K.moved (by rw [hv]; exact Vm.Alike.refl u.vm) h.1, fun w hw => va_Nw.same (nest_onT (List.mem_filter.mp hw).2) hv.symm (h.2.1 w hw), fun q hq => vk_R.same hv (h.2.2 q hq)⟩
theorem SF.moved {G : Gl} {u U : State} {H : Heap} (hvm : u.vm.Alike U.vm) (h : SF G u H) : SF G U H := ⟨h.1.moved hvm, h.2.1.moved hvm, h.2.2.moved hvm⟩
theorem SF.kept {G : Gl} {U : State} {H H1 : Heap} (h : SF G U H) (hq : ∀ a : Nat, a < H.size → ¬ gA G a → H1[a]? = H[a]?) : SF G U H1 := ⟨h.1.kept hq, h.2.1.kept hq, h.2.2.kept hq⟩
def ST (G : Gl) (h : Hp) (U : State) : Prop := HR G h U.heap ∧ TF G U ∧ SF G U U.heap
theorem ST.blind {G : Gl} {h : Hp} {vs : List Value} : FrameBlind (va_Pc vs (ST G h)) := fun _ U _ _ q =>
  ⟨q.1, q.2.1, TF.same (u := U) rfl q.2.2.1, SF.moved (u := U) (Vm.Alike.refl U.vm) q.2.2.2⟩
