/-! ===== fields, arrays, calls, loops ===== -/
theorem cl_in : ∀ (ci : Nat) (C : String) (T : u_T) (N : Nat), vwCl[ci]? = some (C, T, N) → ∀ w ∈ u_ws C T N, w ∈ lw_good := by
  intro ci C T N h
  match ci, h with
  | 0, h => cases h; decide +kernel
  | 1, h => cases h; decide +kernel
  | 2, h => cases h; decide +kernel
  | 3, h => cases h; decide +kernel
  | 4, h => cases h; decide +kernel
  | 5, h => cases h; decide +kernel
  | 6, h => cases h; decide +kernel
  | 7, h => cases h; decide +kernel
  | 8, h => cases h; decide +kernel
  | 9, h => cases h; decide +kernel
  | 10, h => cases h; decide +kernel
  | 11, h => cases h; decide +kernel
  | 12, h => cases h; decide +kernel
  | n + 13, h => simp [vwCl] at h
theorem cl_ty : ∀ (ci : Nat) (C : String) (T : u_T) (N : Nat), vwCl[ci]? = some (C, T, N) → (∃ ty : Nat → FieldType, ∀ k, k < N → parseFieldDescriptor (T k).2.2.1 = some (ty k)) ∧ (∀ a, a < N → ∀ b, b < N → a ≠ b → (T a).2.1 ≠ (T b).2.1) ∧ (FT ci).length = N := by
  intro ci C T N h
  match ci, h with
  | 0, h => cases h; exact ⟨⟨tyX0, tyX0_ok⟩, nmX0, rfl⟩
  | 1, h => cases h; exact ⟨⟨tyX1, tyX1_ok⟩, nmX1, rfl⟩
  | 2, h => cases h; exact ⟨⟨tyX2, tyX2_ok⟩, nmX2, rfl⟩
  | 3, h => cases h; exact ⟨⟨tyX3, tyX3_ok⟩, nmX3, rfl⟩
  | 4, h => cases h; exact ⟨⟨tyX4, tyX4_ok⟩, nmX4, rfl⟩
  | 5, h => cases h; exact ⟨⟨tyX5, tyX5_ok⟩, nmX5, rfl⟩
  | 6, h => cases h; exact ⟨⟨tyX6, tyX6_ok⟩, nmX6, rfl⟩
  | 7, h => cases h; exact ⟨⟨tyX7, tyX7_ok⟩, nmX7, rfl⟩
  | 8, h => cases h; exact ⟨⟨tyX8, tyX8_ok⟩, nmX8, rfl⟩
  | 9, h => cases h; exact ⟨⟨tyX9, tyX9_ok⟩, nmX9, rfl⟩
  | 10, h => cases h; exact ⟨⟨tyX10, tyX10_ok⟩, nmX10, rfl⟩
  | 11, h => cases h; exact ⟨⟨tyX11, tyX11_ok⟩, nmX11, rfl⟩
  | 12, h => cases h; exact ⟨⟨tyX12, tyX12_ok⟩, nmX12, rfl⟩
  | n + 13, h => simp [vwCl] at h
/-- entry i of own's pool is field k of kind ci, of the sort t (0 int, 1 long, 2 reference, 3 a reader's text), final or not, of descriptor d -/
def FL (own : String) (i ci k t : Nat) (fin : Bool) (ds : String) : Prop := ∃ (C : String) (T : u_T) (N : Nat), vwCl[ci]? = some (C, T, N) ∧ k < N ∧ (T k).1 = C ∧ (T k).2.2.2 = fin ∧ (T k).2.2.1 = ds ∧ (FT ci)[k]? = some t ∧ ci < 13 ∧
  (Cond.fieldLink own i C (T k).2.1 (T k).2.2.1 ∈ lw_good ∨ ∃ host, Cond.fieldLinkNest own i C (T k).2.1 (T k).2.2.1 host ∈ lw_nest)
section EGH
variable {τ : Type} {Γ : Cx} {M : Mi} {pc npc : Nat} {lv lv' : List (Nat × Value)} {st st0 : List Value} {h : Hp} {t t1 t2 : Option τ} {K : τ → Prop}
theorem w_get {p : Program} {l : Launch} {e : Env} {R : Room} {s : State} {m : MethodId} {args : Array Value} {below : List Frame} {meth : Method} {c : Code} {H : Heap} {locs : List Loc} {cells slots : Nat} {Q : State → Prop} {cc : ByteArray} {ls : Array Slot} {G : Gl} {own : String} {i ci k ty a : Nat} {fin : Bool} {ds : String}
    (hx : p.tables.exec = Jvm.exec) (hb : c.code = cc) (hown : s.vm.findClass own = some m.cls) (hts : ∀ w ∈ lw_good, w.before args s = true) (hTF : TF G s) (hH : HR G h H) (fl : FL own i ci k ty fin ds) (ha : Is a ci) (hd : decode cc pc = .ok (.getfield i, 3))
    (kk : W p l e R s m args below meth c H locs cells slots Q (F0 m (pc + 3) ls (fval G h a k ty :: st))) : W p l e R s m args below meth c H locs cells slots Q (F0 m pc ls (.ref (gb G + a) :: st)) := by
  obtain ⟨C, T, N, hc, hk, h1, h2, h3, h4, h5, h6⟩ := fl
  have he : (pool G h)[a]? = some (gb G + a, .inr (ci, (FT ci).mapIdx (fun k t => fval G h a k t))) := by rw [pool_get ha.1, ent_obj ha h5]
  have hv : ((FT ci).mapIdx (fun k t => fval G h a k t))[k]? = some (fval G h a k ty) := by rw [List.getElem?_mapIdx, h4]; rfl
  rcases h6 with h6 | ⟨host, h6⟩
  · exact va_get (C := C) (T := T) (N := N) hx hb hts (cl_in ci C T N hc) hown hTF.1 hH.1 a he hc k hk (hts _ h6) (by rw [h1]; exact fun _ q => q) hv hd kk
  · exact va_getN (C := C) (T := T) (N := N) hx hb hts (cl_in ci C T N hc) hown hTF.1 hH.1 a he hc k hk (va_Nw.use rfl (hTF.2.1 _ h6)) (by rw [h1]; exact fun _ q => q) hv hd kk
theorem x_getI (hO : Ok Γ M) {i ci k a : Nat} {fin : Bool} {ds : String} (fl : FL M.1.cls i ci k 0 fin ds) (ha : Is a ci) (d : DD M pc (.getfield i) 3 npc) (kk : EG Γ M npc lv (.int (hI h a k) :: st) h t K) : EG Γ M pc lv (rf Γ a :: st) h t K := by
  obtain ⟨p, e, R, s, m, args, below, meth, c, cells, slots, Z, G, tg⟩ := Γ
  obtain ⟨hx, hb, hml, hown, hts, hTF, hSF, hR, hret⟩ := hO
  obtain ⟨d, rfl⟩ := d
  intro z hz hk H locs ls hH hS hl
  exact w_get hx hb hown hts hTF hH fl ha d (kk z hz hk H locs ls hH hS hl)
theorem x_getL (hO : Ok Γ M) {i ci k a : Nat} {fin : Bool} {ds : String} (fl : FL M.1.cls i ci k 1 fin ds) (ha : Is a ci) (d : DD M pc (.getfield i) 3 npc) (kk : EG Γ M npc lv (.long (hL h a k) :: st) h t K) : EG Γ M pc lv (rf Γ a :: st) h t K := by
  obtain ⟨p, e, R, s, m, args, below, meth, c, cells, slots, Z, G, tg⟩ := Γ
  obtain ⟨hx, hb, hml, hown, hts, hTF, hSF, hR, hret⟩ := hO
  obtain ⟨d, rfl⟩ := d
  intro z hz hk H locs ls hH hS hl
  exact w_get hx hb hown hts hTF hH fl ha d (kk z hz hk H locs ls hH hS hl)
theorem x_getR (hO : Ok Γ M) {i ci k a : Nat} {fin : Bool} {ds : String} (fl : FL M.1.cls i ci k 2 fin ds) (ha : Is a ci) (d : DD M pc (.getfield i) 3 npc) (kk : EG Γ M npc lv (rf Γ (GR a k) :: st) h t K) : EG Γ M pc lv (rf Γ a :: st) h t K := by
  obtain ⟨p, e, R, s, m, args, below, meth, c, cells, slots, Z, G, tg⟩ := Γ
  obtain ⟨hx, hb, hml, hown, hts, hTF, hSF, hR, hret⟩ := hO
  obtain ⟨d, rfl⟩ := d
  intro z hz hk H locs ls hH hS hl
  exact w_get hx hb hown hts hTF hH fl ha d (kk z hz hk H locs ls hH hS hl)
theorem x_getT (hO : Ok Γ M) {i ci k a : Nat} {fin : Bool} {ds : String} (fl : FL M.1.cls i ci k 3 fin ds) (h7 : ci = 7) (ha : Is a ci) (d : DD M pc (.getfield i) 3 npc) (kk : Is (hT h a) 14 → EG Γ M npc lv (rf Γ (hT h a) :: st) h t K) : EG Γ M pc lv (rf Γ a :: st) h t K := by
  obtain ⟨p, e, R, s, m, args, below, meth, c, cells, slots, Z, G, tg⟩ := Γ
  obtain ⟨hx, hb, hml, hown, hts, hTF, hSF, hR, hret⟩ := hO
  obtain ⟨d, rfl⟩ := d
  subst h7
  intro z hz hk H locs ls hH hS hl
  exact w_get hx hb hown hts hTF hH fl ha d (kk (hH.2 a ha) z hz hk H locs ls hH hS hl)
theorem w_put {p : Program} {l : Launch} {e : Env} {R : Room} {s : State} {m : MethodId} {args : Array Value} {below : List Frame} {meth : Method} {c : Code} {H : Heap} {locs : List Loc} {cells slots : Nat} {Q : State → Prop} {cc : ByteArray} {ls : Array Slot} {G : Gl} {own : String} {i ci k ty a : Nat} {ds : String} {H0 : Heap} {fty : FieldType} {v : Value} {h' : Hp}
    (hx : p.tables.exec = Jvm.exec) (hb : c.code = cc) (hown : s.vm.findClass own = some m.cls) (hts : ∀ w ∈ lw_good, w.before args s = true) (hTF : TF G s) (hH : HR G h H) (hS : va_S (gA G) H0 H locs) (fl : FL own i ci k ty false ds) (ha : Is a ci) (hd : decode cc pc = .ok (.putfield i, 3))
    (hp : parseFieldDescriptor ds = some fty) (hn : narrow fty v = v) (hf : fits fty v = true) (hent : ∀ d, d ≠ a → ent G h' d = ent G h d) (hv : ∀ j tj, (FT ci)[j]? = some tj → fval G h' a j tj = if j = k then v else fval G h a j tj) (hT : ∀ c, Is c 7 → Is (hT h' c) 14)
    (kk : ∀ (H1 : Heap) (locs1 : List Loc), HR G h' H1 → va_S (gA G) H0 H1 locs1 → W p l e R s m args below meth c H1 locs1 cells slots Q (F0 m (pc + 3) ls st)) : W p l e R s m args below meth c H locs cells slots Q (F0 m pc ls (v :: .ref (gb G + a) :: st)) := by
  obtain ⟨C, T, N, hc, hk, h1, h2, h3, h4, h5, h6⟩ := fl
  obtain ⟨⟨ty0, hty⟩, hnm, hN⟩ := cl_ty ci C T N hc
  have he : (pool G h)[a]? = some (gb G + a, .inr (ci, (FT ci).mapIdx (fun k t => fval G h a k t))) := by rw [pool_get ha.1, ent_obj ha h5]
  have hset : ((FT ci).mapIdx (fun k t => fval G h a k t)).set k v = (FT ci).mapIdx (fun k t => fval G h' a k t) := by
    apply List.ext_getElem?
    intro j
    rw [List.getElem?_set, List.getElem?_mapIdx, List.getElem?_mapIdx]
    cases hj : (FT ci)[j]? with
    | none =>
      have hlj : ¬ j < (FT ci).length := fun q => by rw [List.getElem?_eq_getElem q] at hj; cases hj
      by_cases e1 : k = j
      · subst e1
        exact absurd (hN ▸ hk) hlj
      · rw [if_neg e1]; rfl
    | some tj =>
      have hlj : j < (FT ci).length := (List.getElem?_eq_some_iff.mp hj).1
      simp only [Option.map_some, hv j tj hj]
      by_cases e1 : k = j
      · subst e1
        simp [hlj]
      · rw [if_neg e1, if_neg (fun q => e1 q.symm)]
  have hpool : (pool G h).set a (gb G + a, .inr (ci, ((FT ci).mapIdx (fun k t => fval G h a k t)).set k v)) = pool G h' := by
    rw [hset, ← ent_obj (G := G) (h := h') ha h5]
    exact pool_set hent
  have hl : k < ((FT ci).mapIdx (fun k t => fval G h a k t)).length := by rw [List.length_mapIdx, hN]; exact hk
  rcases h6 with h6 | ⟨host, h6⟩
  · refine va_put (C := C) (T := T) (N := N) hx hb hts (cl_in ci C T N hc) ty0 hty hnm hown hTF.1 hH.1 pool_D hS a he hc k hk (hts _ h6) (by rw [h1]; exact fun _ q => q) h2 (ty := fty) (by rw [h3]; exact hp) hn hf hl hd (fun H1 locs1 hP1 _ hS1 => ?_)
    rw [hpool] at hP1
    exact kk H1 locs1 ⟨hP1, hT⟩ hS1
  · refine va_putN (C := C) (T := T) (N := N) hx hb hts (cl_in ci C T N hc) ty0 hty hnm hown hTF.1 hH.1 pool_D hS a he hc k hk (va_Nw.use rfl (hTF.2.1 _ h6)) (by rw [h1]; exact fun _ q => q) h2 (ty := fty) (by rw [h3]; exact hp) hn hf hl hd (fun H1 locs1 hP1 _ hS1 => ?_)
    rw [hpool] at hP1
    exact kk H1 locs1 ⟨hP1, hT⟩ hS1
theorem fv_uI {G : Gl} {a k : Nat} {v : Int32} {L : List Nat} (hk : L[k]? = some 0) : ∀ j tj, L[j]? = some tj → fval G (uI h a k v) a j tj = if j = k then .int v else fval G h a j tj := by
  intro j tj hj
  by_cases e1 : j = k
  · subst e1
    rw [hk] at hj
    cases hj
    simp [fval, hI, uI, sI, up_eq, upd]
  · rw [if_neg e1]
    simp [fval, hI, hL, hT, uI, sI, up_eq, upd, e1]
theorem fv_uL {G : Gl} {a k : Nat} {v : Int64} {L : List Nat} (hk : L[k]? = some 1) : ∀ j tj, L[j]? = some tj → fval G (uL h a k v) a j tj = if j = k then .long v else fval G h a j tj := by
  intro j tj hj
  by_cases e1 : j = k
  · subst e1
    rw [hk] at hj
    cases hj
    simp [fval, hL, uL, sL, up_eq, vp_updL]
  · rw [if_neg e1]
    simp [fval, hI, hL, hT, uL, sL, up_eq, vp_updL, e1]
theorem x_putI (hO : Ok Γ M) {i ci k a : Nat} {v : Int32} (fl : FL M.1.cls i ci k 0 false "I") (ha : Is a ci) (d : DD M pc (.putfield i) 3 npc) (kk : EG Γ M npc lv st (uI h a k v) t K) : EG Γ M pc lv (.int v :: rf Γ a :: st) h t K := by
  obtain ⟨p, e, R, s, m, args, below, meth, c, cells, slots, Z, G, tg⟩ := Γ
  obtain ⟨hx, hb, hml, hown, hts, hTF, hSF, hR, hret⟩ := hO
  obtain ⟨d, rfl⟩ := d
  intro z hz hk H locs ls hH hS hl
  have hf0 : (FT ci)[k]? = some 0 := by obtain ⟨C, T, N, _, _, _, _, _, q, _⟩ := fl; exact q
  exact w_put (fty := .int) (h' := uI h a k v) hx hb hown hts hTF hH hS fl ha d (by decide +kernel) rfl rfl (fun d hd => ent_sI d hd) (fv_uI hf0) hH.2 (fun H1 l1 hH1 hS1 => kk z hz hk H1 l1 ls hH1 hS1 hl)
theorem x_putZ (hO : Ok Γ M) {i ci k a : Nat} {v : Int32} (hv : v = 0 ∨ v = 1) (fl : FL M.1.cls i ci k 0 false "Z") (ha : Is a ci) (d : DD M pc (.putfield i) 3 npc) (kk : EG Γ M npc lv st (uI h a k v) t K) : EG Γ M pc lv (.int v :: rf Γ a :: st) h t K := by
  obtain ⟨p, e, R, s, m, args, below, meth, c, cells, slots, Z, G, tg⟩ := Γ
  obtain ⟨hx, hb, hml, hown, hts, hTF, hSF, hR, hret⟩ := hO
  obtain ⟨d, rfl⟩ := d
  intro z hz hk H locs ls hH hS hl
  have hf0 : (FT ci)[k]? = some 0 := by obtain ⟨C, T, N, _, _, _, _, _, q, _⟩ := fl; exact q
  exact w_put (fty := .boolean) (h' := uI h a k v) hx hb hown hts hTF hH hS fl ha d (by decide +kernel) (by rcases hv with rfl | rfl <;> rfl) (by rcases hv with rfl | rfl <;> rfl) (fun d hd => ent_sI d hd) (fv_uI hf0) hH.2 (fun H1 l1 hH1 hS1 => kk z hz hk H1 l1 ls hH1 hS1 hl)
theorem x_putL (hO : Ok Γ M) {i ci k a : Nat} {v : Int64} (fl : FL M.1.cls i ci k 1 false "J") (ha : Is a ci) (d : DD M pc (.putfield i) 3 npc) (kk : EG Γ M npc lv st (uL h a k v) t K) : EG Γ M pc lv (.long v :: rf Γ a :: st) h t K := by
  obtain ⟨p, e, R, s, m, args, below, meth, c, cells, slots, Z, G, tg⟩ := Γ
  obtain ⟨hx, hb, hml, hown, hts, hTF, hSF, hR, hret⟩ := hO
  obtain ⟨d, rfl⟩ := d
  intro z hz hk H locs ls hH hS hl
  have hf0 : (FT ci)[k]? = some 1 := by obtain ⟨C, T, N, _, _, _, _, _, q, _⟩ := fl; exact q
  exact w_put (fty := .long) (h' := uL h a k v) hx hb hown hts hTF hH hS fl ha d (by decide +kernel) rfl rfl (fun d hd => ent_sL d hd) (fv_uL hf0) hH.2 (fun H1 l1 hH1 hS1 => kk z hz hk H1 l1 ls hH1 hS1 hl)
theorem x_putT (hO : Ok Γ M) {i ci k a b : Nat} (fl : FL M.1.cls i ci k 3 false "[I") (h7 : FT ci = [3, 0, 0, 0, 0, 0, 0]) (hb14 : Is b 14) (ha : Is a ci) (d : DD M pc (.putfield i) 3 npc) (kk : EG Γ M npc lv st (sT h a b) t K) : EG Γ M pc lv (rf Γ b :: rf Γ a :: st) h t K := by
  obtain ⟨p, e, R, s, m, args, below, meth, c, cells, slots, Z, G, tg⟩ := Γ
  obtain ⟨hx, hb, hml, hown, hts, hTF, hSF, hR, hret⟩ := hO
  obtain ⟨d, rfl⟩ := d
  intro z hz hk H locs ls hH hS hl
  have hf0 : (FT ci)[k]? = some 3 := by obtain ⟨C, T, N, _, _, _, _, _, q, _⟩ := fl; exact q
  have hk0 : ∀ j : Nat, (FT ci)[j]? = some 3 → j = 0 := by
    intro j hj
    rw [h7] at hj
    match j, hj with
    | 0, _ => rfl
    | 1, q | 2, q | 3, q | 4, q | 5, q | 6, q => simp at q
    | n + 7, q => simp at q
  refine w_put (fty := .array .int) (h' := sT h a b) (v := .ref (gb G + b)) hx hb hown hts hTF hH hS fl ha d (by decide +kernel) rfl rfl (fun d hd => ent_sT d hd) (fun j tj hj => ?_) (fun c hc => ?_) (fun H1 l1 hH1 hS1 => kk z hz hk H1 l1 ls hH1 hS1 hl)
  · have hk1 := hk0 k hf0
    subst hk1
    by_cases e1 : j = 0
    · subst e1
      rw [hf0] at hj
      cases hj
      simp [fval, hT, sT, up_eq, cG]
    · rw [if_neg e1]
      have h3 : tj ≠ 3 := fun q => e1 (hk0 j (by rw [hj, q]))
      rw [h7] at hj
      have h4 : tj = 0 := by
        match j, hj with
        | 0, q => exact absurd rfl e1
        | 1, q | 2, q | 3, q | 4, q | 5, q | 6, q => simpa using q.symm
        | n + 7, q => simp at q
      subst h4
      simp [fval, hI, sT]
  · show Is (va_up h.2.2 a b c) 14
    by_cases e1 : c = a
    · subst e1; rw [up_eq]; exact hb14
    · rw [up_ne e1]; exact hH.2 c hc
end EGH
