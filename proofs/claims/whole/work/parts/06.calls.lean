theorem pool_i {G : Gl} {h : Hp} {a : Nat} (ha : Is a 14) : (pool G h)[a]? = some (gb G + a, .inl (gC G 14, LEN a, .inl (hI h a))) := by rw [pool_get ha.1, ent_i ha]
theorem pool_b {G : Gl} {h : Hp} {a : Nat} (ha : Is a 13) : (pool G h)[a]? = some (gb G + a, .inl (gC G 13, LEN a, .inl (hI h a))) := by rw [pool_get ha.1, ent_b ha]
theorem pool_l {G : Gl} {h : Hp} {a : Nat} (ha : Is a 15) : (pool G h)[a]? = some (gb G + a, .inl (gC G 15, LEN a, .inr (.inl (hL h a)))) := by rw [pool_get ha.1, ent_l ha]
theorem pool_h {G : Gl} {h : Hp} {a : Nat} (ha : Is a 16) : (pool G h)[a]? = some (gb G + a, .inl (gC G 16, LEN a, .inr (.inr (.inr (.inr (fun k => some (gb G + GR a k))))))) := by rw [pool_get ha.1, ent_h ha]
theorem pool_t {G : Gl} {h : Hp} {a : Nat} (ha : Is a 17) : (pool G h)[a]? = some (gb G + a, .inl (gC G 17, LEN a, .inr (.inr (.inr (.inr (fun k => some (gb G + GR a k))))))) := by rw [pool_get ha.1, ent_t ha]
theorem pool_o {G : Gl} {h : Hp} {a ci : Nat} (ha : Is a ci) (hci : ci < 13) : (pool G h)[a]? = some (gb G + a, .inr (ci, (FT ci).mapIdx (fun k t => fval G h a k t))) := by rw [pool_get ha.1, ent_obj ha hci]
section EGA
variable {τ : Type} {Γ : Cx} {M : Mi} {pc npc : Nat} {lv lv' : List (Nat × Value)} {st st0 : List Value} {h : Hp} {t t1 t2 : Option τ} {K : τ → Prop}
theorem x_iald (hO : Ok Γ M) {a : Nat} {i : Int32} (ha : Is a 14) (d : DD M pc .iaload 1 npc) (kk : EG Γ M npc lv (.int (hI h a (nx i)) :: st) h t K) : EG Γ M pc lv (.int i :: rf Γ a :: st) h (gd (ib i (LEN a)) t) K := by
  obtain ⟨p, e, R, s, m, args, below, meth, c, cells, slots, Z, G, tg⟩ := Γ
  obtain ⟨hx, hb, hml, hown, hts, hTF, hSF, hR, hret⟩ := hO
  obtain ⟨d, rfl⟩ := d
  intro z hz hk H locs ls hH hS hl
  obtain ⟨h1, h2⟩ := gd_t hz
  exact va_iald hx hb hTF.1 hH.1 a 1 (pool_i ha) rfl (ib_in h1) d (kk z h2 hk H locs ls hH hS hl)
theorem x_bald (hO : Ok Γ M) {a : Nat} {i : Int32} (ha : Is a 13) (d : DD M pc .baload 1 npc) (kk : EG Γ M npc lv (.int (hI h a (nx i)) :: st) h t K) : EG Γ M pc lv (.int i :: rf Γ a :: st) h (gd (ib i (LEN a)) t) K := by
  obtain ⟨p, e, R, s, m, args, below, meth, c, cells, slots, Z, G, tg⟩ := Γ
  obtain ⟨hx, hb, hml, hown, hts, hTF, hSF, hR, hret⟩ := hO
  obtain ⟨d, rfl⟩ := d
  intro z hz hk H locs ls hH hS hl
  obtain ⟨h1, h2⟩ := gd_t hz
  exact va_bald hx hb hTF.1 hH.1 a 0 (pool_b ha) rfl (ib_in h1) d (kk z h2 hk H locs ls hH hS hl)
theorem x_lald (hO : Ok Γ M) {a : Nat} {i : Int32} (ha : Is a 15) (d : DD M pc .laload 1 npc) (kk : EG Γ M npc lv (.long (hL h a (nx i)) :: st) h t K) : EG Γ M pc lv (.int i :: rf Γ a :: st) h (gd (ib i (LEN a)) t) K := by
  obtain ⟨p, e, R, s, m, args, below, meth, c, cells, slots, Z, G, tg⟩ := Γ
  obtain ⟨hx, hb, hml, hown, hts, hTF, hSF, hR, hret⟩ := hO
  obtain ⟨d, rfl⟩ := d
  intro z hz hk H locs ls hH hS hl
  obtain ⟨h1, h2⟩ := gd_t hz
  exact va_lald hx hb hTF.1 hH.1 a 2 (pool_l ha) rfl (ib_in h1) d (kk z h2 hk H locs ls hH hS hl)
theorem x_aaldH (hO : Ok Γ M) {a : Nat} {i : Int32} (ha : Is a 16) (d : DD M pc .aaload 1 npc) (kk : Is (GR a (nx i)) 2 → EG Γ M npc lv (rf Γ (GR a (nx i)) :: st) h t K) : EG Γ M pc lv (.int i :: rf Γ a :: st) h (gd (ib i (LEN a)) t) K := by
  obtain ⟨p, e, R, s, m, args, below, meth, c, cells, slots, Z, G, tg⟩ := Γ
  obtain ⟨hx, hb, hml, hown, hts, hTF, hSF, hR, hret⟩ := hO
  obtain ⟨d, rfl⟩ := d
  intro z hz hk H locs ls hH hS hl
  obtain ⟨h1, h2⟩ := gd_t hz
  have h3 : nx i < LEN a := Nat.not_le.mp fun q => ib_in h1 (Or.inr q)
  exact va_aldq hx hb hTF.1 hH.1 a 3 (pool_h ha) rfl (ib_in h1) d (kk (GR_h a ha.1 ha.2 _ h3) z h2 hk H locs ls hH hS hl)
theorem x_aaldT (hO : Ok Γ M) {a : Nat} {i : Int32} (ha : Is a 17) (d : DD M pc .aaload 1 npc) (kk : Is (GR a (nx i)) 10 → EG Γ M npc lv (rf Γ (GR a (nx i)) :: st) h t K) : EG Γ M pc lv (.int i :: rf Γ a :: st) h (gd (ib i (LEN a)) t) K := by
  obtain ⟨p, e, R, s, m, args, below, meth, c, cells, slots, Z, G, tg⟩ := Γ
  obtain ⟨hx, hb, hml, hown, hts, hTF, hSF, hR, hret⟩ := hO
  obtain ⟨d, rfl⟩ := d
  intro z hz hk H locs ls hH hS hl
  obtain ⟨h1, h2⟩ := gd_t hz
  have h3 : nx i < LEN a := Nat.not_le.mp fun q => ib_in h1 (Or.inr q)
  exact va_aldq hx hb hTF.1 hH.1 a 4 (pool_t ha) rfl (ib_in h1) d (kk (GR_t a ha.1 ha.2 _ h3) z h2 hk H locs ls hH hS hl)
theorem x_alenI (hO : Ok Γ M) {a : Nat} (ha : Is a 14) (d : DD M pc .arraylength 1 npc) (kk : EG Γ M npc lv (.int (nI (LEN a)) :: st) h t K) : EG Γ M pc lv (rf Γ a :: st) h t K := by
  obtain ⟨p, e, R, s, m, args, below, meth, c, cells, slots, Z, G, tg⟩ := Γ
  obtain ⟨hx, hb, hml, hown, hts, hTF, hSF, hR, hret⟩ := hO
  obtain ⟨d, rfl⟩ := d
  intro z hz hk H locs ls hH hS hl
  exact va_alen hx hb hTF.1 hH.1 a 1 (pool_i ha) rfl rfl d (kk z hz hk H locs ls hH hS hl)
theorem x_alenL (hO : Ok Γ M) {a : Nat} (ha : Is a 15) (d : DD M pc .arraylength 1 npc) (kk : EG Γ M npc lv (.int (nI (LEN a)) :: st) h t K) : EG Γ M pc lv (rf Γ a :: st) h t K := by
  obtain ⟨p, e, R, s, m, args, below, meth, c, cells, slots, Z, G, tg⟩ := Γ
  obtain ⟨hx, hb, hml, hown, hts, hTF, hSF, hR, hret⟩ := hO
  obtain ⟨d, rfl⟩ := d
  intro z hz hk H locs ls hH hS hl
  exact va_alen hx hb hTF.1 hH.1 a 2 (pool_l ha) rfl rfl d (kk z hz hk H locs ls hH hS hl)
theorem x_iast (hO : Ok Γ M) {a : Nat} {i v : Int32} (ha : Is a 14) (d : DD M pc .iastore 1 npc) (kk : EG Γ M npc lv st (uI h a (nx i) v) t K) : EG Γ M pc lv (.int v :: .int i :: rf Γ a :: st) h (gd (ib i (LEN a)) t) K := by
  obtain ⟨p, e, R, s, m, args, below, meth, c, cells, slots, Z, G, tg⟩ := Γ
  obtain ⟨hx, hb, hml, hown, hts, hTF, hSF, hR, hret⟩ := hO
  obtain ⟨d, rfl⟩ := d
  intro z hz hk H locs ls hH hS hl
  obtain ⟨h1, h2⟩ := gd_t hz
  refine va_iast hx hb hTF.1 hH.1 pool_D hS a 1 (pool_i ha) rfl (ib_in h1) d (fun H1 l1 hP1 _ hS1 => kk z h2 hk H1 l1 ls ⟨?_, hH.2⟩ hS1 hl)
  rw [← pool_set (h := h) (h' := uI h a (nx i) v) (c := a) (fun d hd => ent_sI d hd), ent_i (h := uI h a (nx i) v) ha]
  unfold uI
  rw [hI_sI]
  exact hP1
theorem x_bast (hO : Ok Γ M) {a : Nat} {i v : Int32} (ha : Is a 13) (d : DD M pc .bastore 1 npc) (kk : EG Γ M npc lv st (uI h a (nx i) v.toInt8.toInt32) t K) : EG Γ M pc lv (.int v :: .int i :: rf Γ a :: st) h (gd (ib i (LEN a)) t) K := by
  obtain ⟨p, e, R, s, m, args, below, meth, c, cells, slots, Z, G, tg⟩ := Γ
  obtain ⟨hx, hb, hml, hown, hts, hTF, hSF, hR, hret⟩ := hO
  obtain ⟨d, rfl⟩ := d
  intro z hz hk H locs ls hH hS hl
  obtain ⟨h1, h2⟩ := gd_t hz
  refine va_bast hx hb hTF.1 hH.1 pool_D hS a 0 (pool_b ha) rfl (ib_in h1) d (fun H1 l1 hP1 _ hS1 => kk z h2 hk H1 l1 ls ⟨?_, hH.2⟩ hS1 hl)
  rw [← pool_set (h := h) (h' := uI h a (nx i) v.toInt8.toInt32) (c := a) (fun d hd => ent_sI d hd), ent_b (h := uI h a (nx i) v.toInt8.toInt32) ha]
  unfold uI
  rw [hI_sI]
  rw [vp_nar_byte] at hP1
  exact hP1
theorem x_last (hO : Ok Γ M) {a : Nat} {i : Int32} {v : Int64} (ha : Is a 15) (d : DD M pc .lastore 1 npc) (kk : EG Γ M npc lv st (uL h a (nx i) v) t K) : EG Γ M pc lv (.long v :: .int i :: rf Γ a :: st) h (gd (ib i (LEN a)) t) K := by
  obtain ⟨p, e, R, s, m, args, below, meth, c, cells, slots, Z, G, tg⟩ := Γ
  obtain ⟨hx, hb, hml, hown, hts, hTF, hSF, hR, hret⟩ := hO
  obtain ⟨d, rfl⟩ := d
  intro z hz hk H locs ls hH hS hl
  obtain ⟨h1, h2⟩ := gd_t hz
  refine va_last hx hb hTF.1 hH.1 pool_D hS a 2 (pool_l ha) rfl (ib_in h1) d (fun H1 l1 hP1 _ hS1 => kk z h2 hk H1 l1 ls ⟨?_, hH.2⟩ hS1 hl)
  rw [← pool_set (h := h) (h' := uL h a (nx i) v) (c := a) (fun d hd => ent_sL d hd), ent_l (h := uL h a (nx i) v) ha]
  unfold uL
  rw [hL_sL]
  exact hP1
/-- System.arraycopy: the ranges are there -/
def cpok (sp dp n : Int32) (l0 l1 : Nat) : Bool := decide (¬ sp < 0 ∧ ¬ dp < 0 ∧ ¬ n < 0 ∧ nx sp + nx n ≤ l0 ∧ nx dp + nx n ≤ l1)
/-- own's pool entry i is System.arraycopy -/
def LC (own : String) (i : Nat) : Prop := Cond.methodLink own i arraycopyName ∈ lw_good ∧ Cond.native arraycopyName ∈ lw_good ∧ Cond.static arraycopyName ∈ lw_good ∧ Cond.initialized "java/lang/System" ∈ lw_good
theorem x_copyI (hO : Ok Γ M) {a0 a ix : Nat} {sp dp n : Int32} (lc : LC M.1.cls ix) (h0 : Is a0 14) (ha : Is a 14) (hh : 1 ≤ M.2.2.2.2) (hr : (st.map fun v => v.category).sum ≤ 8) (d : DD M pc (.invokestatic ix) 3 npc) (kk : EG Γ M npc lv st (sI h a (va_cpy (hI h a0) (hI h a) (nx sp) (nx dp) (nx n))) t K) : EG Γ M pc lv (.int n :: .int dp :: rf Γ a :: .int sp :: rf Γ a0 :: st) h (gd (cpok sp dp n (LEN a0) (LEN a)) t) K := by
  obtain ⟨p, e, R, s, m, args, below, meth, c, cells, slots, Z, G, tg⟩ := Γ
  obtain ⟨hx, hb, hml, hown, hts, hTF, hSF, hR, hret⟩ := hO
  obtain ⟨d, rfl⟩ := d
  intro z hz hk H locs ls hH hS hl
  obtain ⟨h1, h2⟩ := gd_t hz
  obtain ⟨g1, g2, g3, g4, g5⟩ := of_decide_eq_true h1
  have hnf : nativeFrameWords "java/lang/System" "arraycopy" 5 = 7 := by decide +kernel
  obtain ⟨hR1, hR2, hR3, hR4⟩ := hR
  have hfr : 1 ≤ R.frames := Nat.le_trans hh hR1
  have hlo : (st.map fun v => v.category).sum + (nativeFrameWords "java/lang/System" "arraycopy" 5 + 11) ≤ R.locals := by
    rw [hnf]
    omega
  refine va_copyi hx hb (by rw [hml]; exact hl.1.symm) hown (hts _ lc.1) (hts _ lc.2.1) (hts _ lc.2.2.1) (hts _ lc.2.2.2) hTF.1 hH.1 pool_D hS a0 a 1 1 (pool_i h0) (pool_i ha) rfl rfl rfl g1 g2 g3 g4 g5 (fun _ _ => rfl) hfr hlo d (fun H1 l1 hP1 _ hS1 => kk z h2 hk H1 l1 ls ⟨?_, hH.2⟩ hS1 hl)
  rw [← pool_set (h := h) (h' := sI h a (va_cpy (hI h a0) (hI h a) (nx sp) (nx dp) (nx n))) (c := a) (fun d hd => ent_sI d hd), ent_i (h := sI h a _) ha, hI_sI]
  exact hP1
theorem x_copyL (hO : Ok Γ M) {a0 a ix : Nat} {sp dp n : Int32} (lc : LC M.1.cls ix) (h0 : Is a0 15) (ha : Is a 15) (hh : 1 ≤ M.2.2.2.2) (hr : (st.map fun v => v.category).sum ≤ 8) (d : DD M pc (.invokestatic ix) 3 npc) (kk : EG Γ M npc lv st (sL h a (va_cpy (hL h a0) (hL h a) (nx sp) (nx dp) (nx n))) t K) : EG Γ M pc lv (.int n :: .int dp :: rf Γ a :: .int sp :: rf Γ a0 :: st) h (gd (cpok sp dp n (LEN a0) (LEN a)) t) K := by
  obtain ⟨p, e, R, s, m, args, below, meth, c, cells, slots, Z, G, tg⟩ := Γ
  obtain ⟨hx, hb, hml, hown, hts, hTF, hSF, hR, hret⟩ := hO
  obtain ⟨d, rfl⟩ := d
  intro z hz hk H locs ls hH hS hl
  obtain ⟨h1, h2⟩ := gd_t hz
  obtain ⟨g1, g2, g3, g4, g5⟩ := of_decide_eq_true h1
  have hnf : nativeFrameWords "java/lang/System" "arraycopy" 5 = 7 := by decide +kernel
  obtain ⟨hR1, hR2, hR3, hR4⟩ := hR
  have hfr : 1 ≤ R.frames := Nat.le_trans hh hR1
  have hlo : (st.map fun v => v.category).sum + (nativeFrameWords "java/lang/System" "arraycopy" 5 + 11) ≤ R.locals := by
    rw [hnf]
    omega
  refine va_copyl hx hb (by rw [hml]; exact hl.1.symm) hown (hts _ lc.1) (hts _ lc.2.1) (hts _ lc.2.2.1) (hts _ lc.2.2.2) hTF.1 hH.1 pool_D hS a0 a 2 2 (pool_l h0) (pool_l ha) rfl rfl rfl g1 g2 g3 g4 g5 (fun _ _ => rfl) hfr hlo d (fun H1 l1 hP1 _ hS1 => kk z h2 hk H1 l1 ls ⟨?_, hH.2⟩ hS1 hl)
  rw [← pool_set (h := h) (h' := sL h a (va_cpy (hL h a0) (hL h a) (nx sp) (nx dp) (nx n))) (c := a) (fun d hd => ent_sL d hd), ent_l (h := sL h a _) ha, hL_sL]
  exact hP1
theorem x_iret (hO : Ok Γ M) (hM : M.2.2.2.1 = some .int) {v : Int32} {o : τ} (d : DD M pc .ireturn 1 npc) (k : K o → (h, some (.int v)) = tgt Γ) : EG Γ M pc lv [.int v] h (some o) K := by
  obtain ⟨p, e, R, s, m, args, below, meth, c, cells, slots, Z, G, tg⟩ := Γ
  obtain ⟨hx, hb, hml, hown, hts, hTF, hSF, hR, hret⟩ := hO
  intro z hz hk H locs ls hH hS hl
  cases hz
  have e1 : (h, some (Value.int v)) = tg := k hk
  exact hret H locs pc ls _ (by rw [← e1]; exact hH) hS (Or.inl ⟨v, d.1, rfl, hM, by rw [← e1]⟩)
theorem x_zret (hO : Ok Γ M) (hM : M.2.2.2.1 = some .boolean) {v : Int32} {o : τ} (d : DD M pc .ireturn 1 npc) (k : K o → (h, some (.int (v &&& 1))) = tgt Γ) : EG Γ M pc lv [.int v] h (some o) K := by
  obtain ⟨p, e, R, s, m, args, below, meth, c, cells, slots, Z, G, tg⟩ := Γ
  obtain ⟨hx, hb, hml, hown, hts, hTF, hSF, hR, hret⟩ := hO
  intro z hz hk H locs ls hH hS hl
  cases hz
  have e1 : (h, some (Value.int (v &&& 1))) = tg := k hk
  exact hret H locs pc ls _ (by rw [← e1]; exact hH) hS (Or.inr (Or.inl ⟨v, d.1, rfl, hM, by rw [← e1]⟩))
theorem x_lret (hO : Ok Γ M) (hM : M.2.2.2.1 = some .long) {v : Int64} {o : τ} (d : DD M pc .lreturn 1 npc) (k : K o → (h, some (.long v)) = tgt Γ) : EG Γ M pc lv [.long v] h (some o) K := by
  obtain ⟨p, e, R, s, m, args, below, meth, c, cells, slots, Z, G, tg⟩ := Γ
  obtain ⟨hx, hb, hml, hown, hts, hTF, hSF, hR, hret⟩ := hO
  intro z hz hk H locs ls hH hS hl
  cases hz
  have e1 : (h, some (Value.long v)) = tg := k hk
  exact hret H locs pc ls _ (by rw [← e1]; exact hH) hS (Or.inr (Or.inr (Or.inl ⟨v, d.1, rfl, hM, by rw [← e1]⟩)))
theorem x_vret (hO : Ok Γ M) (hM : M.2.2.2.1 = none) {o : τ} (d : DD M pc .return_ 1 npc) (k : K o → (h, none) = tgt Γ) : EG Γ M pc lv [] h (some o) K := by
  obtain ⟨p, e, R, s, m, args, below, meth, c, cells, slots, Z, G, tg⟩ := Γ
  obtain ⟨hx, hb, hml, hown, hts, hTF, hSF, hR, hret⟩ := hO
  intro z hz hk H locs ls hH hS hl
  cases hz
  have e1 : (h, (none : Option Value)) = tg := k hk
  exact hret H locs pc ls _ (by rw [← e1]; exact hH) hS (Or.inr (Or.inr (Or.inr (Or.inl ⟨d.1, rfl, hM, by rw [← e1]⟩))))
theorem x_nret (hO : Ok Γ M) {ty : FieldType} (hM : M.2.2.2.1 = some ty) {v : Int32} {o : τ} (hn : narrow ty (.int v) = .int v) (d : DD M pc .ireturn 1 npc) (k : K o → (h, some (.int v)) = tgt Γ) : EG Γ M pc lv [.int v] h (some o) K := by
  obtain ⟨p, e, R, s, m, args, below, meth, c, cells, slots, Z, G, tg⟩ := Γ
  obtain ⟨hx, hb, hml, hown, hts, hTF, hSF, hR, hret⟩ := hO
  intro z hz hk H locs ls hH hS hl
  cases hz
  have e1 : (h, some (Value.int v)) = tg := k hk
  exact hret H locs pc ls _ (by rw [← e1]; exact hH) hS (Or.inr (Or.inr (Or.inr (Or.inr ⟨v, ty, d.1, rfl, hM, hn, by rw [← e1]⟩))))
end EGA
def iterN {σ ρ : Type} (f : σ → Option (σ ⊕ ρ)) : Nat → σ → Option ρ
  | 0, _ => none
  | n + 1, s => (f s).bind (fun o => Sum.elim (iterN f n) some o)
theorem iterN_succ {σ ρ : Type} {f : σ → Option (σ ⊕ ρ)} : ∀ {n : Nat} {s : σ} {r : ρ}, iterN f n s = some r → iterN f (n + 1) s = some r := by
  intro n
  induction n with
  | zero => intro s r e; cases e
  | succ n ih =>
    intro s r e
    unfold iterN at e ⊢
    cases hf : f s with
    | none => rw [hf] at e; cases e
    | some o =>
      rw [hf] at e
      cases o with
      | inl s' => exact ih e
      | inr y => exact e
theorem iterN_mono {σ ρ : Type} {f : σ → Option (σ ⊕ ρ)} {n : Nat} {s : σ} {r : ρ} (e : iterN f n s = some r) : ∀ {m : Nat}, n ≤ m → iterN f m s = some r := by
  intro m hm
  induction hm with
  | refl => exact e
  | step _ ih => exact iterN_succ ih

noncomputable def iterW {σ ρ : Type} (f : σ → Option (σ ⊕ ρ)) (s : σ) : Option ρ := @dite (Option ρ) (∃ n r, iterN f n s = some r) (Classical.propDecidable _) (fun h => iterN f (Classical.choose h) s) (fun _ => none)
theorem iterW_of {σ ρ : Type} {f : σ → Option (σ ⊕ ρ)} {n : Nat} {s : σ} {r : ρ} (e : iterN f n s = some r) : iterW f s = some r := by
  have h : ∃ n r, iterN f n s = some r := ⟨n, r, e⟩
  unfold iterW
  rw [dif_pos h]
  obtain ⟨r', e'⟩ := Classical.choose_spec h
  have h1 := iterN_mono e' (Nat.le_max_left (Classical.choose h) n)
  have h2 := iterN_mono e (Nat.le_max_right (Classical.choose h) n)
  rw [e']
  exact h1.symm.trans h2
theorem iterW_some {σ ρ : Type} {f : σ → Option (σ ⊕ ρ)} {s : σ} {r : ρ} (e : iterW f s = some r) : ∃ n, iterN f n s = some r := by
  unfold iterW at e
  split at e
  · exact ⟨_, e⟩
  · cases e
theorem iterW_eq {σ ρ : Type} {f : σ → Option (σ ⊕ ρ)} (s : σ) : iterW f s = (f s).bind (fun o => Sum.elim (iterW f) some o) := by
  cases hW : iterW f s with
  | some r =>
    obtain ⟨n, hn⟩ := iterW_some hW
    match n, hn with
    | n + 1, hn =>
      unfold iterN at hn
      cases hf : f s with
      | none => rw [hf] at hn; cases hn
      | some o =>
        rw [hf] at hn
        cases o with
        | inl s' => exact (iterW_of hn).symm
        | inr y => exact hn.symm
  | none =>
    cases hf : f s with
    | none => rfl
    | some o =>
      cases o with
      | inl s' =>
        show none = iterW f s'
        cases hs : iterW f s' with
        | none => rfl
        | some r =>
          obtain ⟨n, hn⟩ := iterW_some hs
          have : iterN f (n + 1) s = some r := by unfold iterN; rw [hf]; exact hn
          rw [iterW_of this] at hW
          cases hW
      | inr y =>
        have : iterN f 1 s = some y := by unfold iterN; rw [hf]; rfl
        rw [iterW_of this] at hW
        cases hW
section EGL
variable {Γ : Cx} {M : Mi} {pc : Nat}
theorem x_loop {σ ρ : Type} {B : σ → Option (σ ⊕ ρ)} {lvf : σ → List (Nat × Value)} {hf : σ → Hp} {Ky : ρ → Prop} (hB : ∀ s, EG Γ M pc (lvf s) [] (hf s) (B s) (fun o => Sum.elim (fun s' => EW Γ M pc (lvf s') [] (hf s')) Ky o)) (s : σ) : EG Γ M pc (lvf s) [] (hf s) (iterW B s) Ky := by
  intro x e hk
  obtain ⟨n, hn⟩ := iterW_some e
  clear e
  induction n generalizing s with
  | zero => cases hn
  | succ n ih =>
    unfold iterN at hn
    cases hb : B s with
    | none => rw [hb] at hn; cases hn
    | some o =>
      rw [hb] at hn
      cases o with
      | inl s' => exact hB s _ hb (ih s' hn)
      | inr y =>
        cases hn
        exact hB s _ hb hk
end EGL
def Qc (G : Gl) (x : Hp × Option Value) : Array Value → State → Outcome → State → Prop := fun _ st oc t => (oc = .returned x.2 ∧ HR G x.1 t.heap) ∧ va_F (gA G) st t
def rmd (d : Nat) : Room := { frames := d, cells := 0, slots := 0, locals := 37 * d }
/-- method M, called with vs over h, ends as o says -/
def CN (G : Gl) (M : Mi) (vs : List Value) (h : Hp) (o : Option (Hp × Option Value)) : Prop := ∀ x, o = some x → Met (gl G) M.1 (Cond.code M.1 M.2.1 M.2.2.1 M.2.2.2.1 :: lw_good) (rmd M.2.2.2.2) (va_Pc vs (ST G h)) (Qc G x) 0 0 (gA G)
theorem w_zret {p : Program} {l : Launch} {e : Env} {R : Room} {s : State} {m : MethodId} {args : Array Value} {below : List Frame} {meth : Method} {c : Code} {H : Heap} {locs : List Loc} {cells slots : Nat} {cc : ByteArray} {Qc : Array Value → State → Outcome → State → Prop} {free : Addr → Prop} {v : Int32} (hexec : p.tables.exec = Jvm.exec) (hb : c.code = cc) (hr : meth.sig.returnType = some .boolean)
    (hq : ∀ t : State, t.heap = H → s.WarmedH t.vm → Qc args s (.returned (some (.int (v &&& 1)))) t) (hf : ∀ q ∈ locs, free q.base)
    {pc : Nat} {ls : Array Slot} (hdg : decode cc pc = .ok (.ireturn, 1)) (hlocks : meth.locks = false) : W p l e R s m args below meth c H locs cells slots (MQ below Qc args s cells slots free) (F0 m pc ls [.int v]) := by
  intro T hT X
  obtain ⟨fs, hret, hrun, hended, hW, hframe⟩ := X.leave (v := some (.int (v &&& 1))) (fun h => by rw [hr] at h; cases h)
  have hmeth' : T.vm.method? m = some meth := X.method'
  refine ⟨T.setFrames fs, ?_, .returned (some (.int (v &&& 1))), hrun, hended, hq _ hT hW, locs, ⟨⟨_, rfl⟩, hW, hframe⟩, hf⟩
  jvm_step X.here [X.here.top, hexec, hb, hdg, hmeth', hr, narrow]
  (try refine ⟨rfl, ?_⟩); (try refine ⟨rfl, ?_⟩)
  first | (intro acts; rw [hret _ acts rfl rfl rfl]) | rw [hret _ _ rfl rfl rfl]
  exact Steps.refl _
theorem CN.of {G : Gl} {M : Mi} {vs : List Value} {h : Hp} {o : Option (Hp × Option Value)} (hy : plainName M.1.cls = true) (hn : (lg_sl vs).length ≤ M.2.2.1) (hb : ∀ Γ, cG Γ = G → Ok Γ M → EG Γ M 0 (lv_args 0 vs) [] h o (fun x => x = tgt Γ)) : CN G M vs h o := by
  intro x hx
  refine Met.ofW (cc := M.2.1) (maxL := M.2.2.1) (ret := M.2.2.2.1) hy rfl ?_
  intro p e s m args below meth c s₁ B hml hv
  obtain ⟨rfl, hH, hTF, hSF⟩ := hv
  have hts := atoms_spec (ws := Cond.code M.1 M.2.1 M.2.2.1 M.2.2.2.1 :: lw_good) B.pre
  have hlocks := B.notSynchronized
  have hO : Ok (p, e, rmd M.2.2.2.2, s, m, vs.toArray, below, meth, c, 0, 0, MQ below (Qc G x) vs.toArray s 0 0 (gA G), G, x) M := by
    refine ⟨B.exec, B.bytes, hml, findClass_of_methodNamed B.named, fun w hw => hts w (List.mem_cons_of_mem _ hw), hTF, hSF, ⟨Nat.le_refl _, Nat.le_refl _, Nat.zero_le _, Nat.zero_le _⟩, ?_⟩
    intro H locs pc ls st hH hS hr
    rcases hr with ⟨v, d, rfl, hM, hv⟩ | ⟨v, d, rfl, hM, hv⟩ | ⟨v, d, rfl, hM, hv⟩ | ⟨d, rfl, hM, hv⟩ | ⟨v, ty, d, rfl, hM, hn0, hv⟩
    · exact W.iret B.exec B.bytes (B.returns.trans hM) (fun t ht _ => ⟨⟨by rw [hv], by rw [ht]; exact hH⟩, hS.F ht⟩) hS.2.2 d
    · exact w_zret B.exec B.bytes (B.returns.trans hM) (fun t ht _ => ⟨⟨by rw [hv], by rw [ht]; exact hH⟩, hS.F ht⟩) hS.2.2 d hlocks
    · exact W.lret B.exec B.bytes (B.returns.trans hM) (fun t ht _ => ⟨⟨by rw [hv], by rw [ht]; exact hH⟩, hS.F ht⟩) hS.2.2 d
    · exact W.vret B.exec B.bytes (B.returns.trans hM) (fun t ht _ => ⟨⟨by rw [hv], by rw [ht]; exact hH⟩, hS.F ht⟩) hS.2.2 d
    · exact W.zret B.exec B.bytes (B.returns.trans hM) hn0 (fun t ht _ => ⟨⟨by rw [hv], by rw [ht]; exact hH⟩, hS.F ht⟩) hS.2.2 d
  have hl := lv_entry vs (n := M.2.2.1) hn
  rw [lg_entry_eq]
  exact hb _ rfl hO x hx rfl s.heap [] _ hH va_S.rf hl
/-- a call at pc: from what the callee answers to the next place -/
def Call (Γ : Cx) (M : Mi) (pc npc : Nat) (lv : List (Nat × Value)) (st0 st : List Value) (h : Hp) (o : Option (Hp × Option Value)) : Prop := ∀ x, o = some x → EW Γ M npc lv (x.2.toList ++ st) x.1 → EW Γ M pc lv st0 h
def LB (My : Mi) (n : Nat) : Prop := Cond.initialized My.1.cls ∈ lw_good ∧ Cond.code My.1 My.2.1 My.2.2.1 My.2.2.2.1 ∈ lw_good ∧ (My.1.cls ≠ "java/lang/invoke/MethodHandle" ∧ My.1.cls ≠ "java/lang/invoke/VarHandle") ∧ (parseMethodDescriptor My.1.desc).map (fun d => d.parameters.length) = some n ∧ My.2.2.1 ≤ 18
/-- own's pool entry i is the method My, by invokevirtual -/
def LV (own : String) (i : Nat) (My : Mi) (n : Nat) : Prop := LB My n ∧ Cond.instanceMethod My.1 ∈ lw_good ∧ Cond.selects My.1.cls My.1 My.1 ∈ lw_good ∧ (Cond.methodLink own i My.1 ∈ lw_good ∨ ∃ host, Cond.methodLinkNest own i My.1 host ∈ lw_nest)
def LT (own : String) (i : Nat) (My : Mi) (n : Nat) : Prop := LB My n ∧ Cond.static My.1 ∈ lw_good ∧ (Cond.methodLink own i My.1 ∈ lw_good ∨ ∃ host, Cond.methodLinkNest own i My.1 host ∈ lw_nest)
theorem code_ok {My : Mi} {n : Nat} (lb : LB My n) : ∀ w ∈ (Cond.code My.1 My.2.1 My.2.2.1 My.2.2.2.1 :: lw_good), w ∈ lw_good := fun w hw => (List.mem_cons.mp hw).elim (fun e => by rw [e]; exact lb.2.1) id
theorem lb_n {My : Mi} {n : Nat} (lb : LB My n) : ∀ sig, parseMethodDescriptor My.1.desc = some sig → n = sig.parameters.length := fun sig h => by
  have h2 := lb.2.2.2.1
  rw [h] at h2
  exact (Option.some.inj h2).symm
theorem w_after {p : Program} {l : Launch} {e : Env} {R : Room} {s : State} {m : MethodId} {args : Array Value} {below : List Frame} {meth : Method} {c : Code} {H : Heap} {locs : List Loc} {cells slots : Nat} {Q : State → Prop} {pc : Nat} {ls : Array Slot} {rest st0 : List Value} {a : Array Value} {G : Gl} {x : Hp × Option Value} {H0 : Heap}
    (hr : va_Run p l e R s m args below meth c H locs cells slots 0 0 (F0 m pc ls st0) rest (Qc G x a) (gA G)) (hS : va_S (gA G) H0 H locs)
    (kk : ∀ (H1 : Heap) (locs1 : List Loc), HR G x.1 H1 → va_S (gA G) H0 H1 locs1 → W p l e R s m args below meth c H1 locs1 cells slots Q (F0 m (pc + 3) ls (x.2.toList ++ rest))) : W p l e R s m args below meth c H locs cells slots Q (F0 m pc ls st0) := by
  intro T hT X
  obtain ⟨v, st₀, t, T', L, h0, X', hL, e1, e2, ⟨⟨hv, hH1⟩, hz, hk⟩, st⟩ := hr T hT X
  cases hv
  rw [h0] at hz hk
  obtain ⟨t2, a1, b1⟩ := kk T'.heap (locs ++ L) (by rw [e1]; exact hH1) ⟨Nat.le_trans hS.1 (by rw [e1]; exact hz), fun q h1 h2 => by rw [e1, hk q (Nat.lt_of_lt_of_le h1 hS.1) h2]; exact hS.2.1 q h1 h2, fun q hq => by
      rcases List.mem_append.mp hq with h | h
      · exact hS.2.2 q h
      · exact hL q h⟩ T' rfl X'
  exact ⟨t2, st t2 a1, b1⟩
theorem pre_of {G : Gl} {s U : State} {H : Heap} {locs : List Loc} {h : Hp} (hH : HR G h H) (hTF : TF G s) (hSF : SF G s s.heap) (hS : va_S (gA G) s.heap H locs) (hU : U.heap = H) (hW : s.WarmedH U.vm) : ST G h U :=
  ⟨by rw [hU]; exact hH, hTF.warm hW, by rw [hU]; exact (hSF.kept hS.2.1).moved hW.alike⟩
section EGC
variable {Γ : Cx} {M : Mi} {pc npc : Nat} {lv : List (Nat × Value)} {st st0 : List Value} {h : Hp}
theorem x_callV (hO : Ok Γ M) {My : Mi} {i n ci a : Nat} {T : u_T} {N : Nat} (lk : LV M.1.cls i My n) (ha : Is a ci) (hc : vwCl[ci]? = some (My.1.cls, T, N)) (hci : ci < 13) {As : List Value} (hn : As.length = n) (hh : My.2.2.2.2 + 1 ≤ M.2.2.2.2) {o : Option (Hp × Option Value)} (hm : CN (cG Γ) My (rf Γ a :: As) h o) (d : DD M pc (.invokevirtual i) 3 npc) (hst : st0 = As.reverse ++ rf Γ a :: st) (hr : (st.map fun v => v.category).sum ≤ 8) : Call Γ M pc npc lv st0 st h o := by
  obtain ⟨p, e, R, s, m, args, below, meth, c, cells, slots, Z, G, tg⟩ := Γ
  obtain ⟨hx, hb, hml, hown, hts, hTF, hSF, ⟨hR1, hR2, hR3, hR4⟩, hret⟩ := hO
  obtain ⟨d, rfl⟩ := d
  subst hst
  intro x ho kk H locs ls hH hS hl
  obtain ⟨lb, l1, l2, l3⟩ := lk
  have hM := hm x ho
  have hlo : 8 + (My.2.2.1 + 11) + (rmd My.2.2.2.2).locals ≤ R.locals := by
    have := lb.2.2.2.2
    show 8 + (My.2.2.1 + 11) + 37 * My.2.2.2.2 ≤ R.locals
    omega
  have hfr : (rmd My.2.2.2.2).frames + 1 ≤ R.frames := Nat.le_trans hh hR1
  have hws := pay_in hts (good_ok (code_ok lb))
  have hp : PreV s H My.1.cls (gb G + a) (va_Pc (.ref (gb G + a) :: As) (ST G h)) As := ⟨ST.blind, va_recv hTF.1 hH.1 hc (pool_o ha hci), fun U hU hW => ⟨rfl, pre_of hH hTF hSF hS hU hW⟩⟩
  rcases l3 with l3 | ⟨host, l3⟩
  · exact w_after (va_runV (Ts := lw_good) (own := M.1.cls) (C := My.1.cls) (bytes := My.2.1) (maxL := My.2.2.1) (ret := My.2.2.2.1) (As := As) (rest := st) ⟨hx, hb, hml, hown, hts⟩ hM ⟨⟨rfl, rfl, hfr, hlo, hws, List.mem_cons_self, hts _ lb.2.1, hts _ lb.1, lb.2.2.1, lb_n lb, hts _ l3⟩, hts _ l1, hts _ l2⟩ hp rfl hn hl.1 rfl (lv_room hr) d ⟨hR3, hR4⟩) hS (fun H1 l1' hH1 hS1 => kk H1 l1' ls hH1 hS1 hl)
  · exact w_after (va_runVN (Ts := lw_good) (own := M.1.cls) (C := My.1.cls) (bytes := My.2.1) (maxL := My.2.2.1) (ret := My.2.2.2.1) (host := host) (As := As) (rest := st) ⟨hx, hb, hml, hown, hts⟩ hM ⟨⟨⟨rfl, rfl, hfr, hlo, hws, List.mem_cons_self⟩, hts _ lb.2.1, hts _ lb.1, lb.2.2.1, lb_n lb, va_Nw.use rfl (hTF.2.1 _ l3)⟩, hts _ l1, hts _ l2⟩ hp rfl hn hl.1 rfl (lv_room hr) d ⟨hR3, hR4⟩) hS (fun H1 l1' hH1 hS1 => kk H1 l1' ls hH1 hS1 hl)
theorem x_callS (hO : Ok Γ M) {My : Mi} {i n : Nat} (lk : LT M.1.cls i My n) {As : List Value} (hn : As.length = n) (hh : My.2.2.2.2 + 1 ≤ M.2.2.2.2) {o : Option (Hp × Option Value)} (hm : CN (cG Γ) My As h o) (d : DD M pc (.invokestatic i) 3 npc) (hst : st0 = As.reverse ++ st) (hr : (st.map fun v => v.category).sum ≤ 8) : Call Γ M pc npc lv st0 st h o := by
  obtain ⟨p, e, R, s, m, args, below, meth, c, cells, slots, Z, G, tg⟩ := Γ
  obtain ⟨hx, hb, hml, hown, hts, hTF, hSF, ⟨hR1, hR2, hR3, hR4⟩, hret⟩ := hO
  obtain ⟨d, rfl⟩ := d
  subst hst
  intro x ho kk H locs ls hH hS hl
  obtain ⟨lb, l1, l3⟩ := lk
  have hM := hm x ho
  have hlo : 8 + (My.2.2.1 + 11) + (rmd My.2.2.2.2).locals ≤ R.locals := by
    have := lb.2.2.2.2
    show 8 + (My.2.2.1 + 11) + 37 * My.2.2.2.2 ≤ R.locals
    omega
  have hfr : (rmd My.2.2.2.2).frames + 1 ≤ R.frames := Nat.le_trans hh hR1
  have hws := pay_in hts (good_ok (code_ok lb))
  have hp : PreS s H (va_Pc As (ST G h)) As := ⟨ST.blind, fun U hU hW => ⟨rfl, pre_of hH hTF hSF hS hU hW⟩⟩
  rcases l3 with l3 | ⟨host, l3⟩
  · exact w_after (va_runS (Ts := lw_good) (own := M.1.cls) (bytes := My.2.1) (maxL := My.2.2.1) (ret := My.2.2.2.1) (As := As) (rest := st) ⟨hx, hb, hml, hown, hts⟩ hM ⟨⟨rfl, rfl, hfr, hlo, hws, List.mem_cons_self, hts _ lb.2.1, hts _ lb.1, lb.2.2.1, lb_n lb, hts _ l3⟩, hts _ l1⟩ hp rfl hn hl.1 rfl (lv_room hr) d ⟨hR3, hR4⟩) hS (fun H1 l1' hH1 hS1 => kk H1 l1' ls hH1 hS1 hl)
  · exact w_after (va_runSN (Ts := lw_good) (own := M.1.cls) (bytes := My.2.1) (maxL := My.2.2.1) (ret := My.2.2.2.1) (host := host) (As := As) (rest := st) ⟨hx, hb, hml, hown, hts⟩ hM ⟨⟨⟨rfl, rfl, hfr, hlo, hws, List.mem_cons_self⟩, hts _ lb.2.1, hts _ lb.1, lb.2.2.1, lb_n lb, va_Nw.use rfl (hTF.2.1 _ l3)⟩, hts _ l1, trivial⟩ hp rfl hn hl.1 rfl (lv_room hr) d ⟨hR3, hR4⟩) hS (fun H1 l1' hH1 hS1 => kk H1 l1' ls hH1 hS1 hl)
variable {τ : Type} {K : τ → Prop}
def emPI (h : Hp) (r : Int32) : Hp × Option Value := (h, some (.int r))
def emPL (h : Hp) (r : Int64) : Hp × Option Value := (h, some (.long r))
def emPV (h : Hp) (_ : Unit) : Hp × Option Value := (h, none)
def emHI (x : Hp × Int32) : Hp × Option Value := (x.1, some (.int x.2))
def emHL (x : Hp × Int64) : Hp × Option Value := (x.1, some (.long x.2))
def emHV (h : Hp) : Hp × Option Value := (h, none)
theorem y_gen {ρ : Type} {em : ρ → Hp × Option Value} {u : Option ρ} {f : ρ → Option τ} (hc : Call Γ M pc npc lv st0 st h (u.map em)) (k : ∀ r, EG Γ M npc lv ((em r).2.toList ++ st) (em r).1 (f r) K) : EG Γ M pc lv st0 h (u.bind f) K := by
  intro z hz hk
  cases hu : u with
  | none => rw [hu] at hz; cases hz
  | some r =>
    rw [hu] at hz
    exact hc (em r) (by rw [hu]; rfl) (k r z hz hk)
theorem y_PI {u : Option Int32} {f : Int32 → Option τ} (hc : Call Γ M pc npc lv st0 st h (u.map (emPI h))) (k : ∀ r, EG Γ M npc lv (.int r :: st) h (f r) K) : EG Γ M pc lv st0 h (u.bind f) K := y_gen hc k
theorem y_PL {u : Option Int64} {f : Int64 → Option τ} (hc : Call Γ M pc npc lv st0 st h (u.map (emPL h))) (k : ∀ r, EG Γ M npc lv (.long r :: st) h (f r) K) : EG Γ M pc lv st0 h (u.bind f) K := y_gen hc k
theorem y_PV {u : Option Unit} {f : Unit → Option τ} (hc : Call Γ M pc npc lv st0 st h (u.map (emPV h))) (k : ∀ r, EG Γ M npc lv st h (f r) K) : EG Γ M pc lv st0 h (u.bind f) K := y_gen hc k
theorem y_HI {u : Option (Hp × Int32)} {f : Hp × Int32 → Option τ} (hc : Call Γ M pc npc lv st0 st h (u.map emHI)) (k : ∀ r, EG Γ M npc lv (.int r.2 :: st) r.1 (f r) K) : EG Γ M pc lv st0 h (u.bind f) K := y_gen hc k
theorem y_HL {u : Option (Hp × Int64)} {f : Hp × Int64 → Option τ} (hc : Call Γ M pc npc lv st0 st h (u.map emHL)) (k : ∀ r, EG Γ M npc lv (.long r.2 :: st) r.1 (f r) K) : EG Γ M pc lv st0 h (u.bind f) K := y_gen hc k
theorem y_HV {u : Option Hp} {f : Hp → Option τ} (hc : Call Γ M pc npc lv st0 st h (u.map emHV)) (k : ∀ r, EG Γ M npc lv st r (f r) K) : EG Γ M pc lv st0 h (u.bind f) K := y_gen hc k
end EGC
/-- a method's contract out of its walk -/
theorem CN.fn {ρ : Type} {G : Gl} {M : Mi} {vs : List Value} {h : Hp} {em : ρ → Hp × Option Value} {u : Option ρ} (hy : plainName M.1.cls = true) (hn : (lg_sl vs).length ≤ M.2.2.1) (hb : ∀ Γ, cG Γ = G → Ok Γ M → EG Γ M 0 (lv_args 0 vs) [] h u (fun r => em r = tgt Γ)) : CN G M vs h (u.map em) := by
  refine CN.of hy hn (fun Γ hG hO x hx hk => ?_)
  cases hu : u with
  | none => rw [hu] at hx; cases hx
  | some r =>
    rw [hu] at hx
    cases hx
    exact hb Γ hG hO r hu hk
