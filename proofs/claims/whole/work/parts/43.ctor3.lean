/-- the cells from n on have these kinds and lengths -/
def LAY (n : Nat) (L : List (Nat × Nat)) : Prop := ∀ (j : Nat) (q : Nat × Nat), L[j]? = some q → KD (n + j) = q.1 ∧ LEN (n + j) = q.2
theorem LAY.of {n : Nat} {L : List (Nat × Nat)} (h : (List.range L.length).all (fun j => decide (KD (n + j) = (L.getD j (0, 0)).1) && decide (LEN (n + j) = (L.getD j (0, 0)).2)) = true) : LAY n L := by
  intro j q hq
  have hj : j < L.length := (List.getElem?_eq_some_iff.mp hq).1
  have h1 := List.all_eq_true.mp h j (List.mem_range.mpr hj)
  simp only [Bool.and_eq_true, decide_eq_true_eq, List.getD_eq_getElem?_getD, hq, Option.getD_some] at h1
  exact h1
theorem LAY.sub {n : Nat} {L L' : List (Nat × Nat)} (h : LAY n L) (o : Nat) (hs : L' = (L.drop o).take L'.length) : LAY (n + o) L' := by
  intro j q hq
  rw [hs, List.getElem?_take, List.getElem?_drop] at hq
  split at hq
  · have := h (o + j) q hq
    rw [Nat.add_assoc]
    exact this
  · cases hq
section EC3
variable {Γ : Cx} {M : Mi} {mc ms k sl pc npc : Nat} {lv lv' : List (Nat × Value)} {st : List Value} {h : Hc}
theorem c_aast (hO : OC Γ M mc ms) {a b j ci kd t0 : Nat} {i : Int32} {C : String} {T : u_T} {N : Nat} (ha : a < h.1) (hka : KD a = kd) (hkd : 15 < kd) (ht : ∀ G : Gl, (gty G)[t0]? = some (gC G kd, .object C)) (hb' : b < h.1) (hkb : KD b = ci) (hci : ci < 13) (hc : vwCl[ci]? = some (C, T, N)) (hi : i = nI j) (hj : j < LEN a) (hL : LEN a < 65536) (d : DD M pc .aastore 1 npc) (kk : EC Γ M k sl npc lv st (cR h a j b)) : EC Γ M k sl pc lv (.ref (gb (cG Γ) + b) :: .int i :: .ref (gb (cG Γ) + a) :: st) h := by
  obtain ⟨p, e, R, s, m, args, below, meth, c, cells, slots, Z, G, tg⟩ := Γ
  obtain ⟨hx, hb, hml, hown, hts, hTF, hgb, hR⟩ := hO
  obtain ⟨d, rfl⟩ := d
  subst hi
  intro H locs ls hH hS hl
  have he : ∀ h : Hc, cE G h a = .inl (gC G kd, LEN a, .inr (.inr (.inr (.inr (fun k => (h.2.2.2 a k).map (fun x => gb G + x)))))) := fun h => by
    unfold cE cAr
    rw [hka, if_neg (by omega), if_neg (by omega), if_neg (by omega)]
  have hcell : H[gb G + a]? = some (vp_cell (gC G kd) (LEN a, .inr (.inr (.inr (.inr (fun k => (h.2.2.2 a k).map (fun x => gb G + x))))))) := by have := hH.2 a _ (cP_get ha); rw [he] at this; exact this
  obtain ⟨r', hr', cellV, g1, g2, g3, -⟩ : va_at (gD G) vwCl (gb G + b, .inr (ci, (FT ci).mapIdx (fun k t => cV G h b k t))) H := by have := hH.2 b _ (cP_get hb'); rw [cE_o hkb hci] at this; exact this
  have hcls := (hTF.1.1 ci _ hc).2
  obtain ⟨kA, comp, k1, k2, k3, -⟩ := (hTF.1.2 t0 _ (ht G)).2
  have hcomp : comp = (gD G).1 ci := Option.some.inj (k3.symm.trans hcls.1)
  subst hcomp
  obtain ⟨kC, hkC, -⟩ := hcls.2
  have hcl : (nI j).toNatClampNeg = j := nI_clamp (by omega)
  refine W.aast hx hb hcell (fun q h => by cases h) (fun h => by cases h) k1 k2 rfl hkC ⟨nI_pos (by omega), by show _ < (arrV _ _ _).slots.size; rw [arrV_size, hcl]; exact hj⟩ g1 (fun q h => by rw [g3] at h; cases h) (by rw [g2]; exact hkC) (by rw [g2]; exact va_assign hcls) rfl rfl d fun H1 e1 z1 o1 => ?_
  rw [hcl] at e1
  refine kk H1 _ ls ⟨by rw [z1]; exact hH.1, ?_⟩ (hS.put z1 o1 (Nat.le_add_right _ _)) hl
  have := hH.2.set (p := a) cP_D (cP_get ha) (e := cE G (cR h a j b) a) (H1 := H1) (by
    rw [he]
    show H1[gb G + a]? = some (vp_cell _ _)
    rw [e1, vp_cell_q, vp_cell_q, arrV_store]
    congr 2
    funext q
    by_cases hq : q = j
    · subst hq
      simp [updV, cR, up_eq, va_rf]
    · simp [updV, cR, up_eq, up_ne hq, hq]) o1
  have e2 : (cP G h).set a (gb G + a, cE G (cR h a j b) a) = cP G (cR h a j b) := cP_set rfl cE_R
  rw [e2] at this
  exact this
/-- what a constructor's contract says: cells from h to h' -/
def CC (G : Gl) (M : Mi) (c mc ms : Nat) (h h' : Hc) : Prop := Met (gl G) M.1 (Cond.code M.1 M.2.1 M.2.2.1 M.2.2.2.1 :: lw_good) { frames := M.2.2.2.2, cells := mc, slots := ms, locals := 37 * M.2.2.2.2 } (va_Pc [.ref (gb G + c)] (fun U => HC G h U.heap ∧ TF G U ∧ gb G ≤ U.heap.size ∧ va_AO "HoleDeck$House" U ∧ va_AO "HoleDeck$Tray" U)) (fun _ st oc t => (oc = .returned none ∧ HC G h' t.heap) ∧ va_F (gA G) st t) mc ms (gA G)
def AO (Γ : Cx) : Prop := va_AO "HoleDeck$House" Γ.2.2.2.1 ∧ va_AO "HoleDeck$Tray" Γ.2.2.2.1
def LI (own : String) (i : Nat) (My : Mi) : Prop := LB My 0 ∧ My.1.name = "<init>" ∧ Cond.instanceMethod My.1 ∈ lw_good ∧ My.2.2.2.1 = none ∧ (Cond.methodLink own i My.1 ∈ lw_good ∨ ∃ host, Cond.methodLinkNest own i My.1 host ∈ lw_nest)
theorem c_call (hO : OC Γ M mc ms) (hao : AO Γ) {My : Mi} {i a mc' ms' : Nat} {h' : Hc} (lk : LI M.1.cls i My) (hm : CC (cG Γ) My a mc' ms' h h') (hh : My.2.2.2.2 + 1 ≤ M.2.2.2.2) (hr : (st.map fun v => v.category).sum ≤ 8) (h1 : k + mc' ≤ mc) (h2 : sl + ms' ≤ ms) (d : DD M pc (.invokespecial i) 3 npc) (kk : EC Γ M (k + mc') (sl + ms') npc lv st h') : EC Γ M k sl pc lv (.ref (gb (cG Γ) + a) :: st) h := by
  obtain ⟨p, e, R, s, m, args, below, meth, c, cells, slots, Z, G, tg⟩ := Γ
  obtain ⟨hx, hb, hml, hown, hts, hTF, hgb, ⟨hR1, hR2, hR3, hR4⟩⟩ := hO
  obtain ⟨d, rfl⟩ := d
  intro H locs ls hH hS hl
  obtain ⟨lb, l0, l1, l2, l3⟩ := lk
  have hM : Met (gl G) My.1 _ _ _ _ _ _ _ := hm
  have hlo : 8 + (My.2.2.1 + 11) + 37 * My.2.2.2.2 ≤ R.locals := by
    have := lb.2.2.2.2
    omega
  have hfr : My.2.2.2.2 + 1 ≤ R.frames := Nat.le_trans hh hR1
  have hws := pay_in hts (good_ok (code_ok lb))
  have hp : PreS s H (va_Pc [.ref (gb G + a)] (fun U => HC G h U.heap ∧ TF G U ∧ gb G ≤ U.heap.size ∧ va_AO "HoleDeck$House" U ∧ va_AO "HoleDeck$Tray" U)) (.ref (gb G + a) :: []) := ⟨fun _ U _ _ q => ⟨q.1, q.2.1, TF.same (u := U) rfl q.2.2.1, q.2.2.2.1, va_AO.moved (u := U) (Vm.Alike.refl U.vm) q.2.2.2.2.1, va_AO.moved (u := U) (Vm.Alike.refl U.vm) q.2.2.2.2.2⟩, fun U hU hW => ⟨rfl, by rw [hU]; exact hH, hTF.warm hW, by rw [hU]; exact Nat.le_trans hgb hS.1, hao.1.moved hW.alike, hao.2.moved hW.alike⟩⟩
  have run : va_Run p (gl G) e R s m args below meth c H locs k sl mc' ms' (F0 m pc ls (.ref (gb G + a) :: st)) st (fun st oc t => (oc = .returned none ∧ HC G h' t.heap) ∧ va_F (gA G) st t) (gA G) := by
    rw [show My.2.2.2.1 = none from l2] at hM hws
    have hcm : Cond.code My.1 My.2.1 My.2.2.1 none ∈ lw_good := by rw [← l2]; exact lb.2.1
    rcases l3 with l3 | ⟨host, l3⟩
    · exact va_runI (Ts := lw_good) (own := M.1.cls) (bytes := My.2.1) (maxL := My.2.2.1) (As := []) (rest := st) (n := 0) ⟨hx, hb, hml, hown, hts⟩ hM ⟨⟨rfl, rfl, hfr, hlo, hws, List.mem_cons_self, hts _ hcm, hts _ lb.1, lb.2.2.1, lb_n lb, hts _ l3⟩, l0, hts _ l1⟩ hp rfl rfl hl.1 rfl (lv_room hr) d ⟨Nat.le_trans h1 hR3, Nat.le_trans h2 hR4⟩
    · exact va_runIN (Ts := lw_good) (own := M.1.cls) (bytes := My.2.1) (maxL := My.2.2.1) (host := host) (As := []) (rest := st) (n := 0) ⟨hx, hb, hml, hown, hts⟩ hM ⟨⟨⟨rfl, rfl, hfr, hlo, hws, List.mem_cons_self⟩, hts _ hcm, hts _ lb.1, lb.2.2.1, lb_n lb, va_Nw.use rfl (hTF.2.1 _ l3)⟩, l0, hts _ l1⟩ hp rfl rfl hl.1 rfl (lv_room hr) d ⟨Nat.le_trans h1 hR3, Nat.le_trans h2 hR4⟩
  intro T hT X
  obtain ⟨v, st₀, t, T', L, h0, X', hL, e1, e2, ⟨⟨hv, hH1⟩, hz, hk⟩, stp⟩ := run T hT X
  cases hv
  rw [h0] at hz hk
  obtain ⟨t2, a1, b1⟩ := kk T'.heap (locs ++ L) ls (by rw [e1]; exact hH1) ⟨Nat.le_trans hS.1 (by rw [e1]; exact hz), fun q h1 h2 => by rw [e1, hk q (Nat.lt_of_lt_of_le h1 hS.1) h2]; exact hS.2.1 q h1 h2, fun q hq => by
      rcases List.mem_append.mp hq with h | h
      · exact hS.2.2 q h
      · exact hL q h⟩ hl T' rfl X'
  exact ⟨t2, stp t2 a1, b1⟩
theorem CC.of {G : Gl} {M : Mi} {a mc ms : Nat} {h h' : Hc} (hy : plainName M.1.cls = true) (hM : M.1.name = "<init>") (hret : M.2.2.2.1 = none) (hn : 1 ≤ M.2.2.1) (hb : ∀ Γ : Cx, cG Γ = G → OC Γ M mc ms → AO Γ → isInit Γ → (∀ (pc : Nat) (lv : List (Nat × Value)), decode M.2.1 pc = .ok (.return_, 1) → EC Γ M mc ms pc lv [] h') → EC Γ M 0 0 0 [(0, .ref (gb G + a))] [] h) : CC G M a mc ms h h' := by
  refine Met.ofW (cc := M.2.1) (maxL := M.2.2.1) (ret := M.2.2.2.1) hy rfl ?_
  intro p e s m args below meth c s₁ B hml hv
  obtain ⟨rfl, hH, hTF, hgb, hA1, hA2⟩ := hv
  have hts := atoms_spec (ws := Cond.code M.1 M.2.1 M.2.2.1 M.2.2.2.1 :: lw_good) B.pre
  have hin : meth.name = M.1.name := (name_of_methodNamed B.named B.method).1
  have hlocks := B.notSynchronized
  have hl := lv_entry ([.ref (gb G + a)]) (n := M.2.2.1) hn
  have q := hb (p, e, { frames := M.2.2.2.2, cells := mc, slots := ms, locals := 37 * M.2.2.2.2 }, s, m, #[.ref (gb G + a)], below, meth, c, 0, 0, MQ below (fun _ st oc t => (oc = .returned none ∧ HC G h' t.heap) ∧ va_F (gA G) st t) #[.ref (gb G + a)] s mc ms (gA G), G, ((fun _ _ => 0, fun _ _ => 0, fun _ => 0), none)) rfl
    ⟨B.exec, B.bytes, hml, findClass_of_methodNamed B.named, fun w hw => hts w (List.mem_cons_of_mem _ hw), hTF, hgb, ⟨Nat.le_refl _, Nat.le_refl _, Nat.le_refl _, Nat.le_refl _⟩⟩ ⟨hA1, hA2⟩ (hin.trans hM)
    (fun pc lv hd H locs ls hH hS _ => W.vret B.exec B.bytes (B.returns.trans hret) (fun t ht _ => ⟨⟨rfl, by rw [ht]; exact hH⟩, hS.F ht⟩) hS.2.2 hd)
  rw [lg_entry_eq]
  exact q s.heap [] _ hH va_S.rf hl
end EC3
