/-! THE CLAIM OUT OF ONE WALK OF THE LAW'S BODY. Your part is whole_start (and what it stands on); all else here is the same for every law, but numbers. -/
def R_law : String := "HoleDeckLaw"
def lw_P (b : Addr) (xs : List Int32) (args : Array Value) (s : State) : Prop := args = #[.ref b] ∧ s.IntsAt b xs ∧ xs.length ≤ 3072 ∧ (Jvm.Cond.and given_1 narrow_1).before args s = true
def lw_Q (_ : Array Value) (s : State) (o : Outcome) (t : State) : Prop := o = .returned (some (.int 1)) ∧ Framed s o t [] 600000 7302250
def lw_Z (below : List Frame) (a : Array Value) (s : State) : State → Prop := fun t => ∃ o, t.status = .running ∧ Ended t below o ∧ lw_Q a s o t
/-- the law's own end, with 1 on the stack, nothing written that was there before, its room as the claim has it -/
theorem lw_ret {p : Program} {l : Launch} {e : Env} {s : State} {m : MethodId} {below : List Frame} {meth : Method} {c : Code} {b : Nat} (hx : p.tables.exec = Jvm.exec) (hb : c.code = code) (hr : meth.sig.returnType = ret) (hlocks : meth.locks = false) {pc : Nat} {H : Heap} {ls : Array Slot} (hdg : decode code pc = .ok (.ireturn, 1)) : W p l e room_1 s m #[Value.ref b] below meth c H [] 600000 7302250 (lw_Z below #[Value.ref b] s) (F0 m pc ls [.int 1]) := by
  intro T hT X
  obtain ⟨fs, hret, hrun, hended, hW, hframe⟩ := X.leave (v := some (.int 1)) (hlocks := hlocks) (fun h => by rw [hr] at h; cases h)
  have hmeth' : T.vm.method? m = some meth := X.method'
  refine ⟨T.setFrames fs, ?_, .returned (some (.int 1)), hrun, hended, rfl, ⟨_, rfl⟩, hW, hframe⟩
  jvm_step X.here [X.here.top, hx, hb, hdg, hmeth', hr, ret, narrow_b1]
  (try refine ⟨rfl, ?_⟩); (try refine ⟨rfl, ?_⟩)
  first | (intro acts; rw [hret _ acts rfl rfl rfl]) | rw [hret _ _ rfl rfl rfl]
  exact Steps.refl _
/-- what holds at the law's entry: the machine, the code, the tables' words (any of lw_tbl by 'hts w (by decide +kernel)'), the script of L ints xs at the cell b, what the Statement gives of the start (any of its parts by flat_of_before) -/
def lw_At (p : Program) (s : State) (m : MethodId) (meth : Method) (c : Code) (b L : Nat) (xs : Nat → Int32) : Prop :=
  p.tables.exec = Jvm.exec ∧ c.code = code ∧ meth.sig.returnType = ret ∧ c.maxLocals = 4 ∧ s.vm.findClass R_law = some m.cls ∧ (∀ w ∈ lw_tbl, w.before #[Value.ref b] s = true) ∧ va_X b L xs s s.heap ∧ b < s.heap.size ∧ meth.locks = false ∧ (Jvm.Cond.and given_1 narrow_1).before #[Value.ref b] s = true
/-! ===== the law from its entry ===== -/
theorem inst_ok : ∀ (ci : Nat) (C : String) (T : u_T) (N : Nat), vwCl[ci]? = some (C, T, N) → Cond.instantiable C N ∈ lw_good := by
  intro ci C T N h
  match ci, h with
  | 0, h => cases h; exact List.mem_filter.mpr ⟨List.mem_append_right _ (tbi1 _ (List.mem_of_getElem? (i := 39) rfl)), rfl⟩
  | 1, h => cases h; exact List.mem_filter.mpr ⟨List.mem_append_right _ (tbi1 _ (List.mem_of_getElem? (i := 160) rfl)), rfl⟩
  | 2, h => cases h; exact List.mem_filter.mpr ⟨List.mem_append_right _ (tbi1 _ (List.mem_of_getElem? (i := 33) rfl)), rfl⟩
  | 3, h => cases h; exact List.mem_filter.mpr ⟨List.mem_append_right _ (tbi2 _ (List.mem_of_getElem? (i := 11) rfl)), rfl⟩
  | 4, h => cases h; exact List.mem_filter.mpr ⟨List.mem_append_right _ (tbi2 _ (List.mem_of_getElem? (i := 90) rfl)), rfl⟩
  | 5, h => cases h; exact List.mem_filter.mpr ⟨List.mem_append_right _ (tbi2 _ (List.mem_of_getElem? (i := 131) rfl)), rfl⟩
  | 6, h => cases h; exact List.mem_filter.mpr ⟨List.mem_append_right _ (tbi2 _ (List.mem_of_getElem? (i := 46) rfl)), rfl⟩
  | 7, h => cases h; exact List.mem_filter.mpr ⟨List.mem_append_right _ (tbi1 _ (List.mem_of_getElem? (i := 166) rfl)), rfl⟩
  | 8, h => cases h; exact List.mem_filter.mpr ⟨List.mem_append_right _ (tbi1 _ (List.mem_of_getElem? (i := 220) rfl)), rfl⟩
  | 9, h => cases h; exact List.mem_filter.mpr ⟨List.mem_append_right _ (tbi1 _ (List.mem_of_getElem? (i := 74) rfl)), rfl⟩
  | 10, h => cases h; exact List.mem_filter.mpr ⟨List.mem_append_right _ (tbi2 _ (List.mem_of_getElem? (i := 165) rfl)), rfl⟩
  | 11, h => cases h; exact List.mem_filter.mpr ⟨List.mem_append_right _ (tbi1 _ (List.mem_of_getElem? (i := 23) rfl)), rfl⟩
  | 12, h => cases h; exact List.mem_filter.mpr ⟨List.mem_append_right _ (tbi6 _ (List.mem_of_getElem? (i := 79) rfl)), rfl⟩
  | n + 13, h => simp [vwCl] at h
def stm (i : Nat) : Term := match i with
  | 0 => .string "HoleDeck$BookReader" 47
  | 1 => .string "HoleDeck$Reader" 67
  | 2 => .string "HoleDeck$Reader" 69
  | 3 => .string "HoleDeck$Reader" 71
  | 4 => .string "HoleDeck$Reader" 73
  | 5 => .string "HoleDeck$StepReader" 50
  | 6 => .string "HoleDeck$StepReader" 99
  | 7 => .string "HoleDeck$StepReader" 101
  | 8 => .string "HoleDeck$StepReader" 103
  | 9 => .string "HoleDeck$StepReader" 105
  | 10 => .string "HoleDeck$StepReader" 107
  | 11 => .string "HoleDeck$StepReader" 109
  | 12 => .string "HoleDeck$StepReader" 111
  | 13 => .string "HoleDeck$StepReader" 135
  | 14 => .string "HoleDeckModel" 216
  | _ => .string "HoleDeckModel" 260
theorem nbl {a b : Cond} {args : Array Value} {s : State} (h : (Jvm.Cond.and a b).before args s = true) : a.before args s = true := by rw [Cond.before_and, Bool.and_eq_true] at h; exact h.1
theorem nbr {a b : Cond} {args : Array Value} {s : State} (h : (Jvm.Cond.and a b).before args s = true) : b.before args s = true := by rw [Cond.before_and, Bool.and_eq_true] at h; exact h.2
theorem st_ex {args : Array Value} {s : State} (hgv : (Jvm.Cond.and given_1 narrow_1).before args s = true) : ∀ i, i < NS → (Cond.exactly (stm i) "java/lang/String").before args s = true := by
  intro i hi
  match i, hi with
  | 0, _ => exact (nbr (nbl (nbr (nbl (nbl (nbr (nbl (nbl (nbl (nbr hgv))))))))))
  | 1, _ => exact (nbr (nbr (nbr (nbl (nbr (nbr (nbl (nbl (nbl (nbr hgv))))))))))
  | 2, _ => exact (nbl (nbr (nbl (nbl (nbl (nbl (nbr (nbl (nbl (nbr hgv))))))))))
  | 3, _ => exact (nbl (nbr (nbr (nbr (nbl (nbl (nbr (nbl (nbl (nbr hgv))))))))))
  | 4, _ => exact (nbl (nbl (nbr (nbr (nbr (nbl (nbr (nbl (nbl (nbr hgv))))))))))
  | 5, _ => exact (nbl (nbr (nbr (nbr (nbl (nbr (nbl (nbr (nbl (nbr hgv))))))))))
  | 6, _ => exact (nbl (nbl (nbl (nbl (nbl (nbr (nbr (nbl (nbr hgv)))))))))
  | 7, _ => exact (nbl (nbr (nbr (nbl (nbr (nbl (nbr (nbr (nbl (nbr hgv))))))))))
  | 8, _ => exact (nbl (nbr (nbl (nbr (nbl (nbr (nbr (nbr (nbl (nbr hgv))))))))))
  | 9, _ => exact (nbr (nbr (nbr (nbr (nbr (nbr (nbr (nbr (nbl (nbr hgv))))))))))
  | 10, _ => exact (nbl (nbl (nbl (nbr (nbr (nbl (nbl (nbl (nbr (nbr hgv))))))))))
  | 11, _ => exact (nbr (nbr (nbr (nbr (nbl (nbr (nbl (nbl (nbr (nbr hgv))))))))))
  | 12, _ => exact (nbl (nbr (nbl (nbr (nbl (nbl (nbr (nbl (nbr (nbr hgv))))))))))
  | 13, _ => exact (nbr (nbl (nbr (nbl (nbl (nbr (nbr (nbl (nbr (nbr hgv))))))))))
  | 14, _ => exact (nbl (nbr (nbl (nbl (nbl (nbl (nbl (nbr (nbr (nbr hgv))))))))))
  | 15, _ => exact (nbl (nbl (nbl (nbr (nbr (nbr (nbl (nbr (nbr (nbr hgv))))))))))
  | n + 16, hi => exact absurd hi (by show ¬ n + 16 < 16; omega)
theorem st_co {args : Array Value} {s : State} (hgv : (Jvm.Cond.and given_1 narrow_1).before args s = true) : ∀ i, i < NS → (Cond.eq (.field (stm i) "java/lang/String" "coder" "B") (.int 0)).before args s = true := by
  intro i hi
  match i, hi with
  | 0, _ => exact (nbl (nbr (nbr (nbl (nbl (nbr (nbl (nbl (nbl (nbr hgv))))))))))
  | 1, _ => exact (nbl (nbl (nbl (nbr (nbr (nbr (nbl (nbl (nbl (nbr hgv))))))))))
  | 2, _ => exact (nbr (nbr (nbl (nbl (nbl (nbl (nbr (nbl (nbl (nbr hgv))))))))))
  | 3, _ => exact (nbr (nbr (nbr (nbr (nbl (nbl (nbr (nbl (nbl (nbr hgv))))))))))
  | 4, _ => exact (nbr (nbl (nbr (nbr (nbr (nbl (nbr (nbl (nbl (nbr hgv))))))))))
  | 5, _ => exact (nbr (nbr (nbr (nbr (nbl (nbr (nbl (nbr (nbl (nbr hgv))))))))))
  | 6, _ => exact (nbl (nbr (nbl (nbl (nbl (nbl (nbr (nbr (nbl (nbr hgv))))))))))
  | 7, _ => exact (nbr (nbr (nbr (nbl (nbr (nbl (nbr (nbr (nbl (nbr hgv))))))))))
  | 8, _ => exact (nbr (nbr (nbl (nbr (nbl (nbr (nbr (nbr (nbl (nbr hgv))))))))))
  | 9, _ => exact (nbl (nbl (nbl (nbl (nbl (nbl (nbl (nbr (nbr hgv)))))))))
  | 10, _ => exact (nbr (nbl (nbl (nbr (nbr (nbl (nbl (nbl (nbr (nbr hgv))))))))))
  | 11, _ => exact (nbl (nbl (nbl (nbr (nbr (nbl (nbl (nbr (nbr hgv)))))))))
  | 12, _ => exact (nbr (nbr (nbl (nbr (nbl (nbl (nbr (nbl (nbr (nbr hgv))))))))))
  | 13, _ => exact (nbl (nbr (nbr (nbl (nbl (nbr (nbr (nbl (nbr (nbr hgv))))))))))
  | 14, _ => exact (nbr (nbr (nbl (nbl (nbl (nbl (nbl (nbr (nbr (nbr hgv))))))))))
  | 15, _ => exact (nbr (nbl (nbl (nbr (nbr (nbr (nbl (nbr (nbr (nbr hgv))))))))))
  | n + 16, hi => exact absurd hi (by show ¬ n + 16 < 16; omega)
theorem st_ar {args : Array Value} {s : State} (hgv : (Jvm.Cond.and given_1 narrow_1).before args s = true) : ∀ i, i < NS → (Cond.arrayOf (.field (stm i) "java/lang/String" "value" "[B") .byte).before args s = true := by
  intro i hi
  match i, hi with
  | 0, _ => exact (nbr (nbr (nbr (nbl (nbl (nbr (nbl (nbl (nbl (nbr hgv))))))))))
  | 1, _ => exact (nbr (nbl (nbl (nbr (nbr (nbr (nbl (nbl (nbl (nbr hgv))))))))))
  | 2, _ => exact (nbl (nbl (nbr (nbl (nbl (nbl (nbr (nbl (nbl (nbr hgv))))))))))
  | 3, _ => exact (nbl (nbl (nbl (nbr (nbl (nbr (nbl (nbl (nbr hgv)))))))))
  | 4, _ => exact (nbl (nbr (nbr (nbr (nbr (nbl (nbr (nbl (nbl (nbr hgv))))))))))
  | 5, _ => exact (nbl (nbl (nbl (nbr (nbr (nbl (nbr (nbl (nbr hgv)))))))))
  | 6, _ => exact (nbr (nbr (nbl (nbl (nbl (nbl (nbr (nbr (nbl (nbr hgv))))))))))
  | 7, _ => exact (nbl (nbl (nbl (nbr (nbr (nbl (nbr (nbr (nbl (nbr hgv))))))))))
  | 8, _ => exact (nbl (nbl (nbr (nbr (nbl (nbr (nbr (nbr (nbl (nbr hgv))))))))))
  | 9, _ => exact (nbl (nbr (nbl (nbl (nbl (nbl (nbl (nbl (nbr (nbr hgv))))))))))
  | 10, _ => exact (nbl (nbr (nbl (nbr (nbr (nbl (nbl (nbl (nbr (nbr hgv))))))))))
  | 11, _ => exact (nbl (nbr (nbl (nbl (nbr (nbr (nbl (nbl (nbr (nbr hgv))))))))))
  | 12, _ => exact (nbl (nbl (nbr (nbr (nbl (nbl (nbr (nbl (nbr (nbr hgv))))))))))
  | 13, _ => exact (nbr (nbr (nbr (nbl (nbl (nbr (nbr (nbl (nbr (nbr hgv))))))))))
  | 14, _ => exact (nbl (nbl (nbr (nbl (nbl (nbl (nbl (nbr (nbr (nbr hgv))))))))))
  | 15, _ => exact (nbl (nbr (nbl (nbr (nbr (nbr (nbl (nbr (nbr (nbr hgv))))))))))
  | n + 16, hi => exact absurd hi (by show ¬ n + 16 < 16; omega)
theorem st_le {args : Array Value} {s : State} (hgv : (Jvm.Cond.and given_1 narrow_1).before args s = true) : ∀ i, i < NS → (Cond.eq (.length (.field (stm i) "java/lang/String" "value" "[B")) (.int (Int32.ofNat (SLN.getD i 0)))).before args s = true := by
  intro i hi
  match i, hi with
  | 0, _ => exact (nbl (nbl (nbl (nbr (nbl (nbr (nbl (nbl (nbl (nbr hgv))))))))))
  | 1, _ => exact (nbl (nbr (nbl (nbr (nbr (nbr (nbl (nbl (nbl (nbr hgv))))))))))
  | 2, _ => exact (nbr (nbl (nbr (nbl (nbl (nbl (nbr (nbl (nbl (nbr hgv))))))))))
  | 3, _ => exact (nbl (nbr (nbl (nbl (nbr (nbl (nbr (nbl (nbl (nbr hgv))))))))))
  | 4, _ => exact (nbr (nbr (nbr (nbr (nbr (nbl (nbr (nbl (nbl (nbr hgv))))))))))
  | 5, _ => exact (nbl (nbr (nbl (nbl (nbr (nbr (nbl (nbr (nbl (nbr hgv))))))))))
  | 6, _ => exact (nbl (nbl (nbr (nbl (nbl (nbl (nbr (nbr (nbl (nbr hgv))))))))))
  | 7, _ => exact (nbr (nbl (nbl (nbr (nbr (nbl (nbr (nbr (nbl (nbr hgv))))))))))
  | 8, _ => exact (nbr (nbl (nbr (nbr (nbl (nbr (nbr (nbr (nbl (nbr hgv))))))))))
  | 9, _ => exact (nbr (nbr (nbl (nbl (nbl (nbl (nbl (nbl (nbr (nbr hgv))))))))))
  | 10, _ => exact (nbr (nbr (nbl (nbr (nbr (nbl (nbl (nbl (nbr (nbr hgv))))))))))
  | 11, _ => exact (nbr (nbr (nbl (nbl (nbr (nbr (nbl (nbl (nbr (nbr hgv))))))))))
  | 12, _ => exact (nbr (nbl (nbr (nbr (nbl (nbl (nbr (nbl (nbr (nbr hgv))))))))))
  | 13, _ => exact (nbl (nbl (nbl (nbr (nbl (nbr (nbr (nbl (nbr (nbr hgv))))))))))
  | 14, _ => exact (nbr (nbl (nbr (nbl (nbl (nbl (nbl (nbr (nbr (nbr hgv))))))))))
  | 15, _ => exact (nbr (nbr (nbl (nbr (nbr (nbr (nbl (nbr (nbr (nbr hgv))))))))))
  | n + 16, hi => exact absurd hi (by show ¬ n + 16 < 16; omega)
theorem st_el0 {args : Array Value} {s : State} (hgv : (Jvm.Cond.and given_1 narrow_1).before args s = true) : ∀ j, j < 4 → (Cond.eq (.elem (.field (stm 0) "java/lang/String" "value" "[B") (.int (Int32.ofNat j))) (.int ((SBY.getD 0 []).getD j 0))).before args s = true := by
  intro j hj
  match j, hj with
  | 0, _ => exact (nbr (nbl (nbl (nbr (nbl (nbr (nbl (nbl (nbl (nbr hgv))))))))))
  | 1, _ => exact (nbl (nbr (nbl (nbr (nbl (nbr (nbl (nbl (nbl (nbr hgv))))))))))
  | 2, _ => exact (nbr (nbr (nbl (nbr (nbl (nbr (nbl (nbl (nbl (nbr hgv))))))))))
  | 3, _ => exact (nbl (nbl (nbr (nbr (nbl (nbr (nbl (nbl (nbl (nbr hgv))))))))))
  | n + 4, hj => exact absurd hj (by omega)
theorem st_el1 {args : Array Value} {s : State} (hgv : (Jvm.Cond.and given_1 narrow_1).before args s = true) : ∀ j, j < 4 → (Cond.eq (.elem (.field (stm 1) "java/lang/String" "value" "[B") (.int (Int32.ofNat j))) (.int ((SBY.getD 1 []).getD j 0))).before args s = true := by
  intro j hj
  match j, hj with
  | 0, _ => exact (nbr (nbr (nbl (nbr (nbr (nbr (nbl (nbl (nbl (nbr hgv))))))))))
  | 1, _ => exact (nbl (nbl (nbr (nbr (nbr (nbr (nbl (nbl (nbl (nbr hgv))))))))))
  | 2, _ => exact (nbr (nbl (nbr (nbr (nbr (nbr (nbl (nbl (nbl (nbr hgv))))))))))
  | 3, _ => exact (nbl (nbr (nbr (nbr (nbr (nbr (nbl (nbl (nbl (nbr hgv))))))))))
  | n + 4, hj => exact absurd hj (by omega)
theorem st_el2 {args : Array Value} {s : State} (hgv : (Jvm.Cond.and given_1 narrow_1).before args s = true) : ∀ j, j < 4 → (Cond.eq (.elem (.field (stm 2) "java/lang/String" "value" "[B") (.int (Int32.ofNat j))) (.int ((SBY.getD 2 []).getD j 0))).before args s = true := by
  intro j hj
  match j, hj with
  | 0, _ => exact (nbl (nbr (nbr (nbl (nbl (nbl (nbr (nbl (nbl (nbr hgv))))))))))
  | 1, _ => exact (nbr (nbr (nbr (nbl (nbl (nbl (nbr (nbl (nbl (nbr hgv))))))))))
  | 2, _ => exact (nbl (nbl (nbr (nbl (nbl (nbr (nbl (nbl (nbr hgv)))))))))
  | 3, _ => exact (nbl (nbr (nbl (nbr (nbl (nbl (nbr (nbl (nbl (nbr hgv))))))))))
  | n + 4, hj => exact absurd hj (by omega)
theorem st_el3 {args : Array Value} {s : State} (hgv : (Jvm.Cond.and given_1 narrow_1).before args s = true) : ∀ j, j < 5 → (Cond.eq (.elem (.field (stm 3) "java/lang/String" "value" "[B") (.int (Int32.ofNat j))) (.int ((SBY.getD 3 []).getD j 0))).before args s = true := by
  intro j hj
  match j, hj with
  | 0, _ => exact (nbr (nbr (nbl (nbl (nbr (nbl (nbr (nbl (nbl (nbr hgv))))))))))
  | 1, _ => exact (nbl (nbl (nbr (nbl (nbr (nbl (nbr (nbl (nbl (nbr hgv))))))))))
  | 2, _ => exact (nbr (nbl (nbr (nbl (nbr (nbl (nbr (nbl (nbl (nbr hgv))))))))))
  | 3, _ => exact (nbl (nbr (nbr (nbl (nbr (nbl (nbr (nbl (nbl (nbr hgv))))))))))
  | 4, _ => exact (nbr (nbr (nbr (nbl (nbr (nbl (nbr (nbl (nbl (nbr hgv))))))))))
  | n + 5, hj => exact absurd hj (by omega)
theorem st_el4 {args : Array Value} {s : State} (hgv : (Jvm.Cond.and given_1 narrow_1).before args s = true) : ∀ j, j < 4 → (Cond.eq (.elem (.field (stm 4) "java/lang/String" "value" "[B") (.int (Int32.ofNat j))) (.int ((SBY.getD 4 []).getD j 0))).before args s = true := by
  intro j hj
  match j, hj with
  | 0, _ => exact (nbl (nbl (nbl (nbl (nbr (nbr (nbl (nbl (nbr hgv)))))))))
  | 1, _ => exact (nbl (nbr (nbl (nbl (nbl (nbr (nbr (nbl (nbl (nbr hgv))))))))))
  | 2, _ => exact (nbr (nbr (nbl (nbl (nbl (nbr (nbr (nbl (nbl (nbr hgv))))))))))
  | 3, _ => exact (nbl (nbl (nbr (nbl (nbl (nbr (nbr (nbl (nbl (nbr hgv))))))))))
  | n + 4, hj => exact absurd hj (by omega)
theorem st_el5 {args : Array Value} {s : State} (hgv : (Jvm.Cond.and given_1 narrow_1).before args s = true) : ∀ j, j < 3 → (Cond.eq (.elem (.field (stm 5) "java/lang/String" "value" "[B") (.int (Int32.ofNat j))) (.int ((SBY.getD 5 []).getD j 0))).before args s = true := by
  intro j hj
  match j, hj with
  | 0, _ => exact (nbr (nbr (nbl (nbl (nbr (nbr (nbl (nbr (nbl (nbr hgv))))))))))
  | 1, _ => exact (nbl (nbl (nbr (nbl (nbr (nbr (nbl (nbr (nbl (nbr hgv))))))))))
  | 2, _ => exact (nbr (nbl (nbr (nbl (nbr (nbr (nbl (nbr (nbl (nbr hgv))))))))))
  | n + 3, hj => exact absurd hj (by omega)
theorem st_el6 {args : Array Value} {s : State} (hgv : (Jvm.Cond.and given_1 narrow_1).before args s = true) : ∀ j, j < 4 → (Cond.eq (.elem (.field (stm 6) "java/lang/String" "value" "[B") (.int (Int32.ofNat j))) (.int ((SBY.getD 6 []).getD j 0))).before args s = true := by
  intro j hj
  match j, hj with
  | 0, _ => exact (nbr (nbl (nbr (nbl (nbl (nbl (nbr (nbr (nbl (nbr hgv))))))))))
  | 1, _ => exact (nbl (nbr (nbr (nbl (nbl (nbl (nbr (nbr (nbl (nbr hgv))))))))))
  | 2, _ => exact (nbr (nbr (nbr (nbl (nbl (nbl (nbr (nbr (nbl (nbr hgv))))))))))
  | 3, _ => exact (nbl (nbl (nbr (nbl (nbl (nbr (nbr (nbl (nbr hgv)))))))))
  | n + 4, hj => exact absurd hj (by omega)
theorem st_el7 {args : Array Value} {s : State} (hgv : (Jvm.Cond.and given_1 narrow_1).before args s = true) : ∀ j, j < 3 → (Cond.eq (.elem (.field (stm 7) "java/lang/String" "value" "[B") (.int (Int32.ofNat j))) (.int ((SBY.getD 7 []).getD j 0))).before args s = true := by
  intro j hj
  match j, hj with
  | 0, _ => exact (nbl (nbr (nbl (nbr (nbr (nbl (nbr (nbr (nbl (nbr hgv))))))))))
  | 1, _ => exact (nbr (nbr (nbl (nbr (nbr (nbl (nbr (nbr (nbl (nbr hgv))))))))))
  | 2, _ => exact (nbl (nbl (nbr (nbr (nbr (nbl (nbr (nbr (nbl (nbr hgv))))))))))
  | n + 3, hj => exact absurd hj (by omega)
theorem st_el8 {args : Array Value} {s : State} (hgv : (Jvm.Cond.and given_1 narrow_1).before args s = true) : ∀ j, j < 3 → (Cond.eq (.elem (.field (stm 8) "java/lang/String" "value" "[B") (.int (Int32.ofNat j))) (.int ((SBY.getD 8 []).getD j 0))).before args s = true := by
  intro j hj
  match j, hj with
  | 0, _ => exact (nbl (nbr (nbr (nbr (nbl (nbr (nbr (nbr (nbl (nbr hgv))))))))))
  | 1, _ => exact (nbr (nbr (nbr (nbr (nbl (nbr (nbr (nbr (nbl (nbr hgv))))))))))
  | 2, _ => exact (nbl (nbl (nbl (nbr (nbr (nbr (nbr (nbl (nbr hgv)))))))))
  | n + 3, hj => exact absurd hj (by omega)
theorem st_el9 {args : Array Value} {s : State} (hgv : (Jvm.Cond.and given_1 narrow_1).before args s = true) : ∀ j, j < 4 → (Cond.eq (.elem (.field (stm 9) "java/lang/String" "value" "[B") (.int (Int32.ofNat j))) (.int ((SBY.getD 9 []).getD j 0))).before args s = true := by
  intro j hj
  match j, hj with
  | 0, _ => exact (nbl (nbl (nbr (nbl (nbl (nbl (nbl (nbl (nbr (nbr hgv))))))))))
  | 1, _ => exact (nbr (nbl (nbr (nbl (nbl (nbl (nbl (nbl (nbr (nbr hgv))))))))))
  | 2, _ => exact (nbl (nbr (nbr (nbl (nbl (nbl (nbl (nbl (nbr (nbr hgv))))))))))
  | 3, _ => exact (nbr (nbr (nbr (nbl (nbl (nbl (nbl (nbl (nbr (nbr hgv))))))))))
  | n + 4, hj => exact absurd hj (by omega)
theorem st_el10 {args : Array Value} {s : State} (hgv : (Jvm.Cond.and given_1 narrow_1).before args s = true) : ∀ j, j < 3 → (Cond.eq (.elem (.field (stm 10) "java/lang/String" "value" "[B") (.int (Int32.ofNat j))) (.int ((SBY.getD 10 []).getD j 0))).before args s = true := by
  intro j hj
  match j, hj with
  | 0, _ => exact (nbl (nbl (nbr (nbr (nbr (nbl (nbl (nbl (nbr (nbr hgv))))))))))
  | 1, _ => exact (nbr (nbl (nbr (nbr (nbr (nbl (nbl (nbl (nbr (nbr hgv))))))))))
  | 2, _ => exact (nbl (nbr (nbr (nbr (nbr (nbl (nbl (nbl (nbr (nbr hgv))))))))))
  | n + 3, hj => exact absurd hj (by omega)
theorem st_el11 {args : Array Value} {s : State} (hgv : (Jvm.Cond.and given_1 narrow_1).before args s = true) : ∀ j, j < 4 → (Cond.eq (.elem (.field (stm 11) "java/lang/String" "value" "[B") (.int (Int32.ofNat j))) (.int ((SBY.getD 11 []).getD j 0))).before args s = true := by
  intro j hj
  match j, hj with
  | 0, _ => exact (nbl (nbl (nbr (nbl (nbr (nbr (nbl (nbl (nbr (nbr hgv))))))))))
  | 1, _ => exact (nbr (nbl (nbr (nbl (nbr (nbr (nbl (nbl (nbr (nbr hgv))))))))))
  | 2, _ => exact (nbl (nbr (nbr (nbl (nbr (nbr (nbl (nbl (nbr (nbr hgv))))))))))
  | 3, _ => exact (nbr (nbr (nbr (nbl (nbr (nbr (nbl (nbl (nbr (nbr hgv))))))))))
  | n + 4, hj => exact absurd hj (by omega)
theorem st_el12 {args : Array Value} {s : State} (hgv : (Jvm.Cond.and given_1 narrow_1).before args s = true) : ∀ j, j < 4 → (Cond.eq (.elem (.field (stm 12) "java/lang/String" "value" "[B") (.int (Int32.ofNat j))) (.int ((SBY.getD 12 []).getD j 0))).before args s = true := by
  intro j hj
  match j, hj with
  | 0, _ => exact (nbl (nbr (nbr (nbr (nbl (nbl (nbr (nbl (nbr (nbr hgv))))))))))
  | 1, _ => exact (nbr (nbr (nbr (nbr (nbl (nbl (nbr (nbl (nbr (nbr hgv))))))))))
  | 2, _ => exact (nbl (nbl (nbl (nbr (nbl (nbr (nbl (nbr (nbr hgv)))))))))
  | 3, _ => exact (nbl (nbr (nbl (nbl (nbr (nbl (nbr (nbl (nbr (nbr hgv))))))))))
  | n + 4, hj => exact absurd hj (by omega)
theorem st_el13 {args : Array Value} {s : State} (hgv : (Jvm.Cond.and given_1 narrow_1).before args s = true) : ∀ j, j < 5 → (Cond.eq (.elem (.field (stm 13) "java/lang/String" "value" "[B") (.int (Int32.ofNat j))) (.int ((SBY.getD 13 []).getD j 0))).before args s = true := by
  intro j hj
  match j, hj with
  | 0, _ => exact (nbr (nbl (nbl (nbr (nbl (nbr (nbr (nbl (nbr (nbr hgv))))))))))
  | 1, _ => exact (nbl (nbr (nbl (nbr (nbl (nbr (nbr (nbl (nbr (nbr hgv))))))))))
  | 2, _ => exact (nbr (nbr (nbl (nbr (nbl (nbr (nbr (nbl (nbr (nbr hgv))))))))))
  | 3, _ => exact (nbl (nbl (nbr (nbr (nbl (nbr (nbr (nbl (nbr (nbr hgv))))))))))
  | 4, _ => exact (nbr (nbl (nbr (nbr (nbl (nbr (nbr (nbl (nbr (nbr hgv))))))))))
  | n + 5, hj => exact absurd hj (by omega)
theorem st_el14 {args : Array Value} {s : State} (hgv : (Jvm.Cond.and given_1 narrow_1).before args s = true) : ∀ j, j < 27 → (Cond.eq (.elem (.field (stm 14) "java/lang/String" "value" "[B") (.int (Int32.ofNat j))) (.int ((SBY.getD 14 []).getD j 0))).before args s = true := by
  intro j hj
  match j, hj with
  | 0, _ => exact (nbl (nbr (nbr (nbl (nbl (nbl (nbl (nbr (nbr (nbr hgv))))))))))
  | 1, _ => exact (nbr (nbr (nbr (nbl (nbl (nbl (nbl (nbr (nbr (nbr hgv))))))))))
  | 2, _ => exact (nbl (nbl (nbr (nbl (nbl (nbl (nbr (nbr (nbr hgv)))))))))
  | 3, _ => exact (nbl (nbr (nbl (nbr (nbl (nbl (nbl (nbr (nbr (nbr hgv))))))))))
  | 4, _ => exact (nbr (nbr (nbl (nbr (nbl (nbl (nbl (nbr (nbr (nbr hgv))))))))))
  | 5, _ => exact (nbl (nbl (nbr (nbr (nbl (nbl (nbl (nbr (nbr (nbr hgv))))))))))
  | 6, _ => exact (nbr (nbl (nbr (nbr (nbl (nbl (nbl (nbr (nbr (nbr hgv))))))))))
  | 7, _ => exact (nbl (nbr (nbr (nbr (nbl (nbl (nbl (nbr (nbr (nbr hgv))))))))))
  | 8, _ => exact (nbr (nbr (nbr (nbr (nbl (nbl (nbl (nbr (nbr (nbr hgv))))))))))
  | 9, _ => exact (nbl (nbl (nbl (nbr (nbl (nbl (nbr (nbr (nbr hgv)))))))))
  | 10, _ => exact (nbl (nbr (nbl (nbl (nbr (nbl (nbl (nbr (nbr (nbr hgv))))))))))
  | 11, _ => exact (nbr (nbr (nbl (nbl (nbr (nbl (nbl (nbr (nbr (nbr hgv))))))))))
  | 12, _ => exact (nbl (nbl (nbr (nbl (nbr (nbl (nbl (nbr (nbr (nbr hgv))))))))))
  | 13, _ => exact (nbr (nbl (nbr (nbl (nbr (nbl (nbl (nbr (nbr (nbr hgv))))))))))
  | 14, _ => exact (nbl (nbr (nbr (nbl (nbr (nbl (nbl (nbr (nbr (nbr hgv))))))))))
  | 15, _ => exact (nbr (nbr (nbr (nbl (nbr (nbl (nbl (nbr (nbr (nbr hgv))))))))))
  | 16, _ => exact (nbl (nbl (nbl (nbr (nbr (nbl (nbl (nbr (nbr (nbr hgv))))))))))
  | 17, _ => exact (nbr (nbl (nbl (nbr (nbr (nbl (nbl (nbr (nbr (nbr hgv))))))))))
  | 18, _ => exact (nbl (nbr (nbl (nbr (nbr (nbl (nbl (nbr (nbr (nbr hgv))))))))))
  | 19, _ => exact (nbr (nbr (nbl (nbr (nbr (nbl (nbl (nbr (nbr (nbr hgv))))))))))
  | 20, _ => exact (nbl (nbl (nbr (nbr (nbr (nbl (nbl (nbr (nbr (nbr hgv))))))))))
  | 21, _ => exact (nbr (nbl (nbr (nbr (nbr (nbl (nbl (nbr (nbr (nbr hgv))))))))))
  | 22, _ => exact (nbl (nbr (nbr (nbr (nbr (nbl (nbl (nbr (nbr (nbr hgv))))))))))
  | 23, _ => exact (nbr (nbr (nbr (nbr (nbr (nbl (nbl (nbr (nbr (nbr hgv))))))))))
  | 24, _ => exact (nbl (nbl (nbl (nbl (nbr (nbl (nbr (nbr (nbr hgv)))))))))
  | 25, _ => exact (nbl (nbr (nbl (nbl (nbl (nbr (nbl (nbr (nbr (nbr hgv))))))))))
  | 26, _ => exact (nbr (nbr (nbl (nbl (nbl (nbr (nbl (nbr (nbr (nbr hgv))))))))))
  | n + 27, hj => exact absurd hj (by omega)
theorem st_el15 {args : Array Value} {s : State} (hgv : (Jvm.Cond.and given_1 narrow_1).before args s = true) : ∀ j, j < 43 → (Cond.eq (.elem (.field (stm 15) "java/lang/String" "value" "[B") (.int (Int32.ofNat j))) (.int ((SBY.getD 15 []).getD j 0))).before args s = true := by
  intro j hj
  match j, hj with
  | 0, _ => exact (nbl (nbl (nbr (nbr (nbr (nbr (nbl (nbr (nbr (nbr hgv))))))))))
  | 1, _ => exact (nbr (nbl (nbr (nbr (nbr (nbr (nbl (nbr (nbr (nbr hgv))))))))))
  | 2, _ => exact (nbl (nbr (nbr (nbr (nbr (nbr (nbl (nbr (nbr (nbr hgv))))))))))
  | 3, _ => exact (nbr (nbr (nbr (nbr (nbr (nbr (nbl (nbr (nbr (nbr hgv))))))))))
  | 4, _ => exact (nbl (nbl (nbl (nbl (nbl (nbr (nbr (nbr (nbr hgv)))))))))
  | 5, _ => exact (nbl (nbr (nbl (nbl (nbl (nbl (nbr (nbr (nbr (nbr hgv))))))))))
  | 6, _ => exact (nbr (nbr (nbl (nbl (nbl (nbl (nbr (nbr (nbr (nbr hgv))))))))))
  | 7, _ => exact (nbl (nbl (nbr (nbl (nbl (nbl (nbr (nbr (nbr (nbr hgv))))))))))
  | 8, _ => exact (nbr (nbl (nbr (nbl (nbl (nbl (nbr (nbr (nbr (nbr hgv))))))))))
  | 9, _ => exact (nbl (nbr (nbr (nbl (nbl (nbl (nbr (nbr (nbr (nbr hgv))))))))))
  | 10, _ => exact (nbr (nbr (nbr (nbl (nbl (nbl (nbr (nbr (nbr (nbr hgv))))))))))
  | 11, _ => exact (nbl (nbl (nbr (nbl (nbl (nbr (nbr (nbr (nbr hgv)))))))))
  | 12, _ => exact (nbl (nbr (nbl (nbr (nbl (nbl (nbr (nbr (nbr (nbr hgv))))))))))
  | 13, _ => exact (nbr (nbr (nbl (nbr (nbl (nbl (nbr (nbr (nbr (nbr hgv))))))))))
  | 14, _ => exact (nbl (nbl (nbr (nbr (nbl (nbl (nbr (nbr (nbr (nbr hgv))))))))))
  | 15, _ => exact (nbr (nbl (nbr (nbr (nbl (nbl (nbr (nbr (nbr (nbr hgv))))))))))
  | 16, _ => exact (nbl (nbr (nbr (nbr (nbl (nbl (nbr (nbr (nbr (nbr hgv))))))))))
  | 17, _ => exact (nbr (nbr (nbr (nbr (nbl (nbl (nbr (nbr (nbr (nbr hgv))))))))))
  | 18, _ => exact (nbl (nbl (nbl (nbr (nbl (nbr (nbr (nbr (nbr hgv)))))))))
  | 19, _ => exact (nbl (nbr (nbl (nbl (nbr (nbl (nbr (nbr (nbr (nbr hgv))))))))))
  | 20, _ => exact (nbr (nbr (nbl (nbl (nbr (nbl (nbr (nbr (nbr (nbr hgv))))))))))
  | 21, _ => exact (nbl (nbl (nbr (nbl (nbr (nbl (nbr (nbr (nbr (nbr hgv))))))))))
  | 22, _ => exact (nbr (nbl (nbr (nbl (nbr (nbl (nbr (nbr (nbr (nbr hgv))))))))))
  | 23, _ => exact (nbl (nbr (nbr (nbl (nbr (nbl (nbr (nbr (nbr (nbr hgv))))))))))
  | 24, _ => exact (nbr (nbr (nbr (nbl (nbr (nbl (nbr (nbr (nbr (nbr hgv))))))))))
  | 25, _ => exact (nbl (nbl (nbl (nbr (nbr (nbl (nbr (nbr (nbr (nbr hgv))))))))))
  | 26, _ => exact (nbr (nbl (nbl (nbr (nbr (nbl (nbr (nbr (nbr (nbr hgv))))))))))
  | 27, _ => exact (nbl (nbr (nbl (nbr (nbr (nbl (nbr (nbr (nbr (nbr hgv))))))))))
  | 28, _ => exact (nbr (nbr (nbl (nbr (nbr (nbl (nbr (nbr (nbr (nbr hgv))))))))))
  | 29, _ => exact (nbl (nbl (nbr (nbr (nbr (nbl (nbr (nbr (nbr (nbr hgv))))))))))
  | 30, _ => exact (nbr (nbl (nbr (nbr (nbr (nbl (nbr (nbr (nbr (nbr hgv))))))))))
  | 31, _ => exact (nbl (nbr (nbr (nbr (nbr (nbl (nbr (nbr (nbr (nbr hgv))))))))))
  | 32, _ => exact (nbr (nbr (nbr (nbr (nbr (nbl (nbr (nbr (nbr (nbr hgv))))))))))
  | 33, _ => exact (nbl (nbl (nbl (nbl (nbr (nbr (nbr (nbr (nbr hgv)))))))))
  | 34, _ => exact (nbl (nbr (nbl (nbl (nbl (nbr (nbr (nbr (nbr (nbr hgv))))))))))
  | 35, _ => exact (nbr (nbr (nbl (nbl (nbl (nbr (nbr (nbr (nbr (nbr hgv))))))))))
  | 36, _ => exact (nbl (nbl (nbr (nbl (nbl (nbr (nbr (nbr (nbr (nbr hgv))))))))))
  | 37, _ => exact (nbr (nbl (nbr (nbl (nbl (nbr (nbr (nbr (nbr (nbr hgv))))))))))
  | 38, _ => exact (nbl (nbr (nbr (nbl (nbl (nbr (nbr (nbr (nbr (nbr hgv))))))))))
  | 39, _ => exact (nbr (nbr (nbr (nbl (nbl (nbr (nbr (nbr (nbr (nbr hgv))))))))))
  | 40, _ => exact (nbl (nbl (nbl (nbr (nbl (nbr (nbr (nbr (nbr (nbr hgv))))))))))
  | 41, _ => exact (nbr (nbl (nbl (nbr (nbl (nbr (nbr (nbr (nbr (nbr hgv))))))))))
  | 42, _ => exact (nbl (nbr (nbl (nbr (nbl (nbr (nbr (nbr (nbr (nbr hgv))))))))))
  | n + 43, hj => exact absurd hj (by omega)
theorem st_el {args : Array Value} {s : State} (hgv : (Jvm.Cond.and given_1 narrow_1).before args s = true) : ∀ i, i < NS → ∀ j, j < SLN.getD i 0 → (Cond.eq (.elem (.field (stm i) "java/lang/String" "value" "[B") (.int (Int32.ofNat j))) (.int ((SBY.getD i []).getD j 0))).before args s = true := by
  intro i hi
  match i, hi with
  | 0, _ => exact st_el0 hgv
  | 1, _ => exact st_el1 hgv
  | 2, _ => exact st_el2 hgv
  | 3, _ => exact st_el3 hgv
  | 4, _ => exact st_el4 hgv
  | 5, _ => exact st_el5 hgv
  | 6, _ => exact st_el6 hgv
  | 7, _ => exact st_el7 hgv
  | 8, _ => exact st_el8 hgv
  | 9, _ => exact st_el9 hgv
  | 10, _ => exact st_el10 hgv
  | 11, _ => exact st_el11 hgv
  | 12, _ => exact st_el12 hgv
  | 13, _ => exact st_el13 hgv
  | 14, _ => exact st_el14 hgv
  | 15, _ => exact st_el15 hgv
  | n + 16, hi => exact absurd hi (by show ¬ n + 16 < 16; omega)
theorem st_ne0 {args : Array Value} {s : State} (hgv : (Jvm.Cond.and given_1 narrow_1).before args s = true) : ∀ j, j < NS → 0 ≠ j → ((Cond.not (Cond.eq (stm 0) (stm j))).before args s = true ∨ (Cond.not (Cond.eq (stm j) (stm 0))).before args s = true) := by
  intro j hj hn
  match j, hj with
  | 0, _ => exact absurd rfl hn
  | 1, _ => exact Or.inl (nbr (nbr (nbr (nbr (nbr (nbr (nbl (nbl (nbl (nbr hgv))))))))))
  | 2, _ => exact Or.inl (nbr (nbr (nbl (nbr (nbl (nbl (nbr (nbl (nbl (nbr hgv))))))))))
  | 3, _ => exact Or.inl (nbl (nbl (nbl (nbr (nbr (nbl (nbr (nbl (nbl (nbr hgv))))))))))
  | 4, _ => exact Or.inl (nbr (nbl (nbr (nbl (nbl (nbr (nbr (nbl (nbl (nbr hgv))))))))))
  | 5, _ => exact Or.inl (nbl (nbr (nbr (nbl (nbr (nbr (nbl (nbr (nbl (nbr hgv))))))))))
  | 6, _ => exact Or.inl (nbl (nbr (nbl (nbr (nbl (nbl (nbr (nbr (nbl (nbr hgv))))))))))
  | 7, _ => exact Or.inl (nbr (nbl (nbr (nbr (nbr (nbl (nbr (nbr (nbl (nbr hgv))))))))))
  | 8, _ => exact Or.inl (nbl (nbr (nbl (nbl (nbr (nbr (nbr (nbr (nbl (nbr hgv))))))))))
  | 9, _ => exact Or.inl (nbl (nbl (nbr (nbl (nbl (nbl (nbl (nbr (nbr hgv)))))))))
  | 10, _ => exact Or.inl (nbr (nbr (nbr (nbr (nbr (nbl (nbl (nbl (nbr (nbr hgv))))))))))
  | 11, _ => exact Or.inl (nbl (nbl (nbl (nbr (nbr (nbr (nbl (nbl (nbr (nbr hgv))))))))))
  | 12, _ => exact Or.inl (nbr (nbr (nbl (nbl (nbr (nbl (nbr (nbl (nbr (nbr hgv))))))))))
  | 13, _ => exact Or.inl (nbl (nbr (nbr (nbr (nbl (nbr (nbr (nbl (nbr (nbr hgv))))))))))
  | 14, _ => exact Or.inl (nbl (nbl (nbr (nbl (nbl (nbr (nbl (nbr (nbr (nbr hgv))))))))))
  | 15, _ => exact Or.inl (nbr (nbr (nbl (nbr (nbl (nbr (nbr (nbr (nbr (nbr hgv))))))))))
  | n + 16, hi => exact absurd hi (by show ¬ n + 16 < 16; omega)
theorem st_ne1 {args : Array Value} {s : State} (hgv : (Jvm.Cond.and given_1 narrow_1).before args s = true) : ∀ j, j < NS → 1 ≠ j → ((Cond.not (Cond.eq (stm 1) (stm j))).before args s = true ∨ (Cond.not (Cond.eq (stm j) (stm 1))).before args s = true) := by
  intro j hj hn
  match j, hj with
  | 0, _ => exact Or.inr (nbr (nbr (nbr (nbr (nbr (nbr (nbl (nbl (nbl (nbr hgv))))))))))
  | 1, _ => exact absurd rfl hn
  | 2, _ => exact Or.inl (nbr (nbl (nbr (nbr (nbl (nbl (nbr (nbl (nbl (nbr hgv))))))))))
  | 3, _ => exact Or.inl (nbl (nbr (nbl (nbr (nbr (nbl (nbr (nbl (nbl (nbr hgv))))))))))
  | 4, _ => exact Or.inl (nbr (nbr (nbr (nbl (nbl (nbr (nbr (nbl (nbl (nbr hgv))))))))))
  | 5, _ => exact Or.inl (nbl (nbl (nbl (nbr (nbr (nbr (nbl (nbr (nbl (nbr hgv))))))))))
  | 6, _ => exact Or.inl (nbl (nbl (nbr (nbr (nbl (nbl (nbr (nbr (nbl (nbr hgv))))))))))
  | 7, _ => exact Or.inl (nbr (nbr (nbr (nbr (nbr (nbl (nbr (nbr (nbl (nbr hgv))))))))))
  | 8, _ => exact Or.inl (nbl (nbl (nbr (nbl (nbr (nbr (nbr (nbr (nbl (nbr hgv))))))))))
  | 9, _ => exact Or.inl (nbr (nbr (nbl (nbr (nbl (nbl (nbl (nbl (nbr (nbr hgv))))))))))
  | 10, _ => exact Or.inl (nbl (nbr (nbl (nbl (nbl (nbr (nbl (nbl (nbr (nbr hgv))))))))))
  | 11, _ => exact Or.inl (nbl (nbr (nbl (nbr (nbr (nbr (nbl (nbl (nbr (nbr hgv))))))))))
  | 12, _ => exact Or.inl (nbr (nbl (nbr (nbl (nbr (nbl (nbr (nbl (nbr (nbr hgv))))))))))
  | 13, _ => exact Or.inl (nbl (nbl (nbl (nbr (nbr (nbr (nbl (nbr (nbr hgv)))))))))
  | 14, _ => exact Or.inl (nbl (nbr (nbr (nbl (nbl (nbr (nbl (nbr (nbr (nbr hgv))))))))))
  | 15, _ => exact Or.inl (nbr (nbl (nbr (nbr (nbl (nbr (nbr (nbr (nbr (nbr hgv))))))))))
  | n + 16, hi => exact absurd hi (by show ¬ n + 16 < 16; omega)
theorem st_ne2 {args : Array Value} {s : State} (hgv : (Jvm.Cond.and given_1 narrow_1).before args s = true) : ∀ j, j < NS → 2 ≠ j → ((Cond.not (Cond.eq (stm 2) (stm j))).before args s = true ∨ (Cond.not (Cond.eq (stm j) (stm 2))).before args s = true) := by
  intro j hj hn
  match j, hj with
  | 0, _ => exact Or.inr (nbr (nbr (nbl (nbr (nbl (nbl (nbr (nbl (nbl (nbr hgv))))))))))
  | 1, _ => exact Or.inr (nbr (nbl (nbr (nbr (nbl (nbl (nbr (nbl (nbl (nbr hgv))))))))))
  | 2, _ => exact absurd rfl hn
  | 3, _ => exact Or.inl (nbr (nbr (nbl (nbr (nbr (nbl (nbr (nbl (nbl (nbr hgv))))))))))
  | 4, _ => exact Or.inl (nbl (nbl (nbl (nbr (nbl (nbr (nbr (nbl (nbl (nbr hgv))))))))))
  | 5, _ => exact Or.inl (nbr (nbl (nbl (nbr (nbr (nbr (nbl (nbr (nbl (nbr hgv))))))))))
  | 6, _ => exact Or.inl (nbr (nbl (nbr (nbr (nbl (nbl (nbr (nbr (nbl (nbr hgv))))))))))
  | 7, _ => exact Or.inl (nbl (nbl (nbl (nbl (nbr (nbr (nbr (nbl (nbr hgv)))))))))
  | 8, _ => exact Or.inl (nbr (nbl (nbr (nbl (nbr (nbr (nbr (nbr (nbl (nbr hgv))))))))))
  | 9, _ => exact Or.inl (nbl (nbl (nbr (nbr (nbl (nbl (nbl (nbl (nbr (nbr hgv))))))))))
  | 10, _ => exact Or.inl (nbr (nbr (nbl (nbl (nbl (nbr (nbl (nbl (nbr (nbr hgv))))))))))
  | 11, _ => exact Or.inl (nbr (nbr (nbl (nbr (nbr (nbr (nbl (nbl (nbr (nbr hgv))))))))))
  | 12, _ => exact Or.inl (nbl (nbr (nbr (nbl (nbr (nbl (nbr (nbl (nbr (nbr hgv))))))))))
  | 13, _ => exact Or.inl (nbl (nbr (nbl (nbl (nbr (nbr (nbr (nbl (nbr (nbr hgv))))))))))
  | 14, _ => exact Or.inl (nbr (nbr (nbr (nbl (nbl (nbr (nbl (nbr (nbr (nbr hgv))))))))))
  | 15, _ => exact Or.inl (nbl (nbr (nbr (nbr (nbl (nbr (nbr (nbr (nbr (nbr hgv))))))))))
  | n + 16, hi => exact absurd hi (by show ¬ n + 16 < 16; omega)
theorem st_ne3 {args : Array Value} {s : State} (hgv : (Jvm.Cond.and given_1 narrow_1).before args s = true) : ∀ j, j < NS → 3 ≠ j → ((Cond.not (Cond.eq (stm 3) (stm j))).before args s = true ∨ (Cond.not (Cond.eq (stm j) (stm 3))).before args s = true) := by
  intro j hj hn
  match j, hj with
  | 0, _ => exact Or.inr (nbl (nbl (nbl (nbr (nbr (nbl (nbr (nbl (nbl (nbr hgv))))))))))
  | 1, _ => exact Or.inr (nbl (nbr (nbl (nbr (nbr (nbl (nbr (nbl (nbl (nbr hgv))))))))))
  | 2, _ => exact Or.inr (nbr (nbr (nbl (nbr (nbr (nbl (nbr (nbl (nbl (nbr hgv))))))))))
  | 3, _ => exact absurd rfl hn
  | 4, _ => exact Or.inl (nbr (nbl (nbl (nbr (nbl (nbr (nbr (nbl (nbl (nbr hgv))))))))))
  | 5, _ => exact Or.inl (nbl (nbr (nbl (nbr (nbr (nbr (nbl (nbr (nbl (nbr hgv))))))))))
  | 6, _ => exact Or.inl (nbl (nbr (nbr (nbr (nbl (nbl (nbr (nbr (nbl (nbr hgv))))))))))
  | 7, _ => exact Or.inl (nbl (nbr (nbl (nbl (nbl (nbr (nbr (nbr (nbl (nbr hgv))))))))))
  | 8, _ => exact Or.inl (nbl (nbr (nbr (nbl (nbr (nbr (nbr (nbr (nbl (nbr hgv))))))))))
  | 9, _ => exact Or.inl (nbr (nbl (nbr (nbr (nbl (nbl (nbl (nbl (nbr (nbr hgv))))))))))
  | 10, _ => exact Or.inl (nbl (nbl (nbr (nbl (nbl (nbr (nbl (nbl (nbr (nbr hgv))))))))))
  | 11, _ => exact Or.inl (nbl (nbl (nbr (nbr (nbr (nbr (nbl (nbl (nbr (nbr hgv))))))))))
  | 12, _ => exact Or.inl (nbr (nbr (nbr (nbl (nbr (nbl (nbr (nbl (nbr (nbr hgv))))))))))
  | 13, _ => exact Or.inl (nbr (nbr (nbl (nbl (nbr (nbr (nbr (nbl (nbr (nbr hgv))))))))))
  | 14, _ => exact Or.inl (nbl (nbl (nbl (nbr (nbl (nbr (nbl (nbr (nbr (nbr hgv))))))))))
  | 15, _ => exact Or.inl (nbr (nbr (nbr (nbr (nbl (nbr (nbr (nbr (nbr (nbr hgv))))))))))
  | n + 16, hi => exact absurd hi (by show ¬ n + 16 < 16; omega)
theorem st_ne4 {args : Array Value} {s : State} (hgv : (Jvm.Cond.and given_1 narrow_1).before args s = true) : ∀ j, j < NS → 4 ≠ j → ((Cond.not (Cond.eq (stm 4) (stm j))).before args s = true ∨ (Cond.not (Cond.eq (stm j) (stm 4))).before args s = true) := by
  intro j hj hn
  match j, hj with
  | 0, _ => exact Or.inr (nbr (nbl (nbr (nbl (nbl (nbr (nbr (nbl (nbl (nbr hgv))))))))))
  | 1, _ => exact Or.inr (nbr (nbr (nbr (nbl (nbl (nbr (nbr (nbl (nbl (nbr hgv))))))))))
  | 2, _ => exact Or.inr (nbl (nbl (nbl (nbr (nbl (nbr (nbr (nbl (nbl (nbr hgv))))))))))
  | 3, _ => exact Or.inr (nbr (nbl (nbl (nbr (nbl (nbr (nbr (nbl (nbl (nbr hgv))))))))))
  | 4, _ => exact absurd rfl hn
  | 5, _ => exact Or.inl (nbr (nbr (nbl (nbr (nbr (nbr (nbl (nbr (nbl (nbr hgv))))))))))
  | 6, _ => exact Or.inl (nbr (nbr (nbr (nbr (nbl (nbl (nbr (nbr (nbl (nbr hgv))))))))))
  | 7, _ => exact Or.inl (nbr (nbr (nbl (nbl (nbl (nbr (nbr (nbr (nbl (nbr hgv))))))))))
  | 8, _ => exact Or.inl (nbr (nbr (nbr (nbl (nbr (nbr (nbr (nbr (nbl (nbr hgv))))))))))
  | 9, _ => exact Or.inl (nbl (nbr (nbr (nbr (nbl (nbl (nbl (nbl (nbr (nbr hgv))))))))))
  | 10, _ => exact Or.inl (nbr (nbl (nbr (nbl (nbl (nbr (nbl (nbl (nbr (nbr hgv))))))))))
  | 11, _ => exact Or.inl (nbr (nbl (nbr (nbr (nbr (nbr (nbl (nbl (nbr (nbr hgv))))))))))
  | 12, _ => exact Or.inl (nbl (nbl (nbl (nbr (nbr (nbl (nbr (nbl (nbr (nbr hgv))))))))))
  | 13, _ => exact Or.inl (nbl (nbl (nbr (nbl (nbr (nbr (nbr (nbl (nbr (nbr hgv))))))))))
  | 14, _ => exact Or.inl (nbr (nbl (nbl (nbr (nbl (nbr (nbl (nbr (nbr (nbr hgv))))))))))
  | 15, _ => exact Or.inl (nbl (nbl (nbl (nbr (nbr (nbr (nbr (nbr (nbr hgv)))))))))
  | n + 16, hi => exact absurd hi (by show ¬ n + 16 < 16; omega)
theorem st_ne5 {args : Array Value} {s : State} (hgv : (Jvm.Cond.and given_1 narrow_1).before args s = true) : ∀ j, j < NS → 5 ≠ j → ((Cond.not (Cond.eq (stm 5) (stm j))).before args s = true ∨ (Cond.not (Cond.eq (stm j) (stm 5))).before args s = true) := by
  intro j hj hn
  match j, hj with
  | 0, _ => exact Or.inr (nbl (nbr (nbr (nbl (nbr (nbr (nbl (nbr (nbl (nbr hgv))))))))))
  | 1, _ => exact Or.inr (nbl (nbl (nbl (nbr (nbr (nbr (nbl (nbr (nbl (nbr hgv))))))))))
  | 2, _ => exact Or.inr (nbr (nbl (nbl (nbr (nbr (nbr (nbl (nbr (nbl (nbr hgv))))))))))
  | 3, _ => exact Or.inr (nbl (nbr (nbl (nbr (nbr (nbr (nbl (nbr (nbl (nbr hgv))))))))))
  | 4, _ => exact Or.inr (nbr (nbr (nbl (nbr (nbr (nbr (nbl (nbr (nbl (nbr hgv))))))))))
  | 5, _ => exact absurd rfl hn
  | 6, _ => exact Or.inl (nbr (nbl (nbr (nbl (nbr (nbl (nbr (nbr (nbl (nbr hgv))))))))))
  | 7, _ => exact Or.inl (nbl (nbl (nbl (nbr (nbl (nbr (nbr (nbr (nbl (nbr hgv))))))))))
  | 8, _ => exact Or.inl (nbl (nbl (nbr (nbr (nbr (nbr (nbr (nbr (nbl (nbr hgv))))))))))
  | 9, _ => exact Or.inl (nbl (nbl (nbr (nbl (nbr (nbl (nbl (nbl (nbr (nbr hgv))))))))))
  | 10, _ => exact Or.inl (nbl (nbr (nbl (nbr (nbl (nbr (nbl (nbl (nbr (nbr hgv))))))))))
  | 11, _ => exact Or.inl (nbr (nbr (nbl (nbl (nbl (nbl (nbr (nbl (nbr (nbr hgv))))))))))
  | 12, _ => exact Or.inl (nbr (nbl (nbr (nbr (nbr (nbl (nbr (nbl (nbr (nbr hgv))))))))))
  | 13, _ => exact Or.inl (nbr (nbl (nbl (nbr (nbr (nbr (nbr (nbl (nbr (nbr hgv))))))))))
  | 14, _ => exact Or.inl (nbl (nbr (nbr (nbr (nbl (nbr (nbl (nbr (nbr (nbr hgv))))))))))
  | 15, _ => exact Or.inl (nbl (nbr (nbr (nbl (nbr (nbr (nbr (nbr (nbr (nbr hgv))))))))))
  | n + 16, hi => exact absurd hi (by show ¬ n + 16 < 16; omega)
theorem st_ne6 {args : Array Value} {s : State} (hgv : (Jvm.Cond.and given_1 narrow_1).before args s = true) : ∀ j, j < NS → 6 ≠ j → ((Cond.not (Cond.eq (stm 6) (stm j))).before args s = true ∨ (Cond.not (Cond.eq (stm j) (stm 6))).before args s = true) := by
  intro j hj hn
  match j, hj with
  | 0, _ => exact Or.inr (nbl (nbr (nbl (nbr (nbl (nbl (nbr (nbr (nbl (nbr hgv))))))))))
  | 1, _ => exact Or.inr (nbl (nbl (nbr (nbr (nbl (nbl (nbr (nbr (nbl (nbr hgv))))))))))
  | 2, _ => exact Or.inr (nbr (nbl (nbr (nbr (nbl (nbl (nbr (nbr (nbl (nbr hgv))))))))))
  | 3, _ => exact Or.inr (nbl (nbr (nbr (nbr (nbl (nbl (nbr (nbr (nbl (nbr hgv))))))))))
  | 4, _ => exact Or.inr (nbr (nbr (nbr (nbr (nbl (nbl (nbr (nbr (nbl (nbr hgv))))))))))
  | 5, _ => exact Or.inr (nbr (nbl (nbr (nbl (nbr (nbl (nbr (nbr (nbl (nbr hgv))))))))))
  | 6, _ => exact absurd rfl hn
  | 7, _ => exact Or.inl (nbr (nbl (nbl (nbr (nbl (nbr (nbr (nbr (nbl (nbr hgv))))))))))
  | 8, _ => exact Or.inl (nbr (nbl (nbr (nbr (nbr (nbr (nbr (nbr (nbl (nbr hgv))))))))))
  | 9, _ => exact Or.inl (nbr (nbl (nbr (nbl (nbr (nbl (nbl (nbl (nbr (nbr hgv))))))))))
  | 10, _ => exact Or.inl (nbr (nbr (nbl (nbr (nbl (nbr (nbl (nbl (nbr (nbr hgv))))))))))
  | 11, _ => exact Or.inl (nbl (nbl (nbr (nbl (nbl (nbl (nbr (nbl (nbr (nbr hgv))))))))))
  | 12, _ => exact Or.inl (nbl (nbr (nbr (nbr (nbr (nbl (nbr (nbl (nbr (nbr hgv))))))))))
  | 13, _ => exact Or.inl (nbl (nbr (nbl (nbr (nbr (nbr (nbr (nbl (nbr (nbr hgv))))))))))
  | 14, _ => exact Or.inl (nbr (nbr (nbr (nbr (nbl (nbr (nbl (nbr (nbr (nbr hgv))))))))))
  | 15, _ => exact Or.inl (nbr (nbr (nbr (nbl (nbr (nbr (nbr (nbr (nbr (nbr hgv))))))))))
  | n + 16, hi => exact absurd hi (by show ¬ n + 16 < 16; omega)
theorem st_ne7 {args : Array Value} {s : State} (hgv : (Jvm.Cond.and given_1 narrow_1).before args s = true) : ∀ j, j < NS → 7 ≠ j → ((Cond.not (Cond.eq (stm 7) (stm j))).before args s = true ∨ (Cond.not (Cond.eq (stm j) (stm 7))).before args s = true) := by
  intro j hj hn
  match j, hj with
  | 0, _ => exact Or.inr (nbr (nbl (nbr (nbr (nbr (nbl (nbr (nbr (nbl (nbr hgv))))))))))
  | 1, _ => exact Or.inr (nbr (nbr (nbr (nbr (nbr (nbl (nbr (nbr (nbl (nbr hgv))))))))))
  | 2, _ => exact Or.inr (nbl (nbl (nbl (nbl (nbr (nbr (nbr (nbl (nbr hgv)))))))))
  | 3, _ => exact Or.inr (nbl (nbr (nbl (nbl (nbl (nbr (nbr (nbr (nbl (nbr hgv))))))))))
  | 4, _ => exact Or.inr (nbr (nbr (nbl (nbl (nbl (nbr (nbr (nbr (nbl (nbr hgv))))))))))
  | 5, _ => exact Or.inr (nbl (nbl (nbl (nbr (nbl (nbr (nbr (nbr (nbl (nbr hgv))))))))))
  | 6, _ => exact Or.inr (nbr (nbl (nbl (nbr (nbl (nbr (nbr (nbr (nbl (nbr hgv))))))))))
  | 7, _ => exact absurd rfl hn
  | 8, _ => exact Or.inl (nbl (nbr (nbr (nbr (nbr (nbr (nbr (nbr (nbl (nbr hgv))))))))))
  | 9, _ => exact Or.inl (nbl (nbr (nbr (nbl (nbr (nbl (nbl (nbl (nbr (nbr hgv))))))))))
  | 10, _ => exact Or.inl (nbl (nbl (nbr (nbr (nbl (nbr (nbl (nbl (nbr (nbr hgv))))))))))
  | 11, _ => exact Or.inl (nbr (nbl (nbr (nbl (nbl (nbl (nbr (nbl (nbr (nbr hgv))))))))))
  | 12, _ => exact Or.inl (nbr (nbr (nbr (nbr (nbr (nbl (nbr (nbl (nbr (nbr hgv))))))))))
  | 13, _ => exact Or.inl (nbr (nbr (nbl (nbr (nbr (nbr (nbr (nbl (nbr (nbr hgv))))))))))
  | 14, _ => exact Or.inl (nbl (nbl (nbl (nbr (nbr (nbl (nbr (nbr (nbr hgv)))))))))
  | 15, _ => exact Or.inl (nbl (nbl (nbl (nbr (nbr (nbr (nbr (nbr (nbr (nbr hgv))))))))))
  | n + 16, hi => exact absurd hi (by show ¬ n + 16 < 16; omega)
theorem st_ne8 {args : Array Value} {s : State} (hgv : (Jvm.Cond.and given_1 narrow_1).before args s = true) : ∀ j, j < NS → 8 ≠ j → ((Cond.not (Cond.eq (stm 8) (stm j))).before args s = true ∨ (Cond.not (Cond.eq (stm j) (stm 8))).before args s = true) := by
  intro j hj hn
  match j, hj with
  | 0, _ => exact Or.inr (nbl (nbr (nbl (nbl (nbr (nbr (nbr (nbr (nbl (nbr hgv))))))))))
  | 1, _ => exact Or.inr (nbl (nbl (nbr (nbl (nbr (nbr (nbr (nbr (nbl (nbr hgv))))))))))
  | 2, _ => exact Or.inr (nbr (nbl (nbr (nbl (nbr (nbr (nbr (nbr (nbl (nbr hgv))))))))))
  | 3, _ => exact Or.inr (nbl (nbr (nbr (nbl (nbr (nbr (nbr (nbr (nbl (nbr hgv))))))))))
  | 4, _ => exact Or.inr (nbr (nbr (nbr (nbl (nbr (nbr (nbr (nbr (nbl (nbr hgv))))))))))
  | 5, _ => exact Or.inr (nbl (nbl (nbr (nbr (nbr (nbr (nbr (nbr (nbl (nbr hgv))))))))))
  | 6, _ => exact Or.inr (nbr (nbl (nbr (nbr (nbr (nbr (nbr (nbr (nbl (nbr hgv))))))))))
  | 7, _ => exact Or.inr (nbl (nbr (nbr (nbr (nbr (nbr (nbr (nbr (nbl (nbr hgv))))))))))
  | 8, _ => exact absurd rfl hn
  | 9, _ => exact Or.inl (nbr (nbr (nbr (nbl (nbr (nbl (nbl (nbl (nbr (nbr hgv))))))))))
  | 10, _ => exact Or.inl (nbr (nbl (nbr (nbr (nbl (nbr (nbl (nbl (nbr (nbr hgv))))))))))
  | 11, _ => exact Or.inl (nbl (nbr (nbr (nbl (nbl (nbl (nbr (nbl (nbr (nbr hgv))))))))))
  | 12, _ => exact Or.inl (nbl (nbl (nbl (nbl (nbr (nbr (nbl (nbr (nbr hgv)))))))))
  | 13, _ => exact Or.inl (nbl (nbl (nbr (nbr (nbr (nbr (nbr (nbl (nbr (nbr hgv))))))))))
  | 14, _ => exact Or.inl (nbl (nbr (nbl (nbl (nbr (nbr (nbl (nbr (nbr (nbr hgv))))))))))
  | 15, _ => exact Or.inl (nbr (nbl (nbl (nbr (nbr (nbr (nbr (nbr (nbr (nbr hgv))))))))))
  | n + 16, hi => exact absurd hi (by show ¬ n + 16 < 16; omega)
theorem st_ne9 {args : Array Value} {s : State} (hgv : (Jvm.Cond.and given_1 narrow_1).before args s = true) : ∀ j, j < NS → 9 ≠ j → ((Cond.not (Cond.eq (stm 9) (stm j))).before args s = true ∨ (Cond.not (Cond.eq (stm j) (stm 9))).before args s = true) := by
  intro j hj hn
  match j, hj with
  | 0, _ => exact Or.inr (nbl (nbl (nbr (nbl (nbl (nbl (nbl (nbr (nbr hgv)))))))))
  | 1, _ => exact Or.inr (nbr (nbr (nbl (nbr (nbl (nbl (nbl (nbl (nbr (nbr hgv))))))))))
  | 2, _ => exact Or.inr (nbl (nbl (nbr (nbr (nbl (nbl (nbl (nbl (nbr (nbr hgv))))))))))
  | 3, _ => exact Or.inr (nbr (nbl (nbr (nbr (nbl (nbl (nbl (nbl (nbr (nbr hgv))))))))))
  | 4, _ => exact Or.inr (nbl (nbr (nbr (nbr (nbl (nbl (nbl (nbl (nbr (nbr hgv))))))))))
  | 5, _ => exact Or.inr (nbl (nbl (nbr (nbl (nbr (nbl (nbl (nbl (nbr (nbr hgv))))))))))
  | 6, _ => exact Or.inr (nbr (nbl (nbr (nbl (nbr (nbl (nbl (nbl (nbr (nbr hgv))))))))))
  | 7, _ => exact Or.inr (nbl (nbr (nbr (nbl (nbr (nbl (nbl (nbl (nbr (nbr hgv))))))))))
  | 8, _ => exact Or.inr (nbr (nbr (nbr (nbl (nbr (nbl (nbl (nbl (nbr (nbr hgv))))))))))
  | 9, _ => exact absurd rfl hn
  | 10, _ => exact Or.inl (nbl (nbr (nbr (nbr (nbl (nbr (nbl (nbl (nbr (nbr hgv))))))))))
  | 11, _ => exact Or.inl (nbr (nbr (nbr (nbl (nbl (nbl (nbr (nbl (nbr (nbr hgv))))))))))
  | 12, _ => exact Or.inl (nbl (nbr (nbl (nbl (nbl (nbr (nbr (nbl (nbr (nbr hgv))))))))))
  | 13, _ => exact Or.inl (nbr (nbl (nbr (nbr (nbr (nbr (nbr (nbl (nbr (nbr hgv))))))))))
  | 14, _ => exact Or.inl (nbr (nbr (nbl (nbl (nbr (nbr (nbl (nbr (nbr (nbr hgv))))))))))
  | 15, _ => exact Or.inl (nbl (nbr (nbl (nbr (nbr (nbr (nbr (nbr (nbr (nbr hgv))))))))))
  | n + 16, hi => exact absurd hi (by show ¬ n + 16 < 16; omega)
theorem st_ne10 {args : Array Value} {s : State} (hgv : (Jvm.Cond.and given_1 narrow_1).before args s = true) : ∀ j, j < NS → 10 ≠ j → ((Cond.not (Cond.eq (stm 10) (stm j))).before args s = true ∨ (Cond.not (Cond.eq (stm j) (stm 10))).before args s = true) := by
  intro j hj hn
  match j, hj with
  | 0, _ => exact Or.inr (nbr (nbr (nbr (nbr (nbr (nbl (nbl (nbl (nbr (nbr hgv))))))))))
  | 1, _ => exact Or.inr (nbl (nbr (nbl (nbl (nbl (nbr (nbl (nbl (nbr (nbr hgv))))))))))
  | 2, _ => exact Or.inr (nbr (nbr (nbl (nbl (nbl (nbr (nbl (nbl (nbr (nbr hgv))))))))))
  | 3, _ => exact Or.inr (nbl (nbl (nbr (nbl (nbl (nbr (nbl (nbl (nbr (nbr hgv))))))))))
  | 4, _ => exact Or.inr (nbr (nbl (nbr (nbl (nbl (nbr (nbl (nbl (nbr (nbr hgv))))))))))
  | 5, _ => exact Or.inr (nbl (nbr (nbl (nbr (nbl (nbr (nbl (nbl (nbr (nbr hgv))))))))))
  | 6, _ => exact Or.inr (nbr (nbr (nbl (nbr (nbl (nbr (nbl (nbl (nbr (nbr hgv))))))))))
  | 7, _ => exact Or.inr (nbl (nbl (nbr (nbr (nbl (nbr (nbl (nbl (nbr (nbr hgv))))))))))
  | 8, _ => exact Or.inr (nbr (nbl (nbr (nbr (nbl (nbr (nbl (nbl (nbr (nbr hgv))))))))))
  | 9, _ => exact Or.inr (nbl (nbr (nbr (nbr (nbl (nbr (nbl (nbl (nbr (nbr hgv))))))))))
  | 10, _ => exact absurd rfl hn
  | 11, _ => exact Or.inl (nbl (nbl (nbr (nbl (nbl (nbr (nbl (nbr (nbr hgv)))))))))
  | 12, _ => exact Or.inl (nbr (nbr (nbl (nbl (nbl (nbr (nbr (nbl (nbr (nbr hgv))))))))))
  | 13, _ => exact Or.inl (nbl (nbr (nbr (nbr (nbr (nbr (nbr (nbl (nbr (nbr hgv))))))))))
  | 14, _ => exact Or.inl (nbl (nbl (nbr (nbl (nbr (nbr (nbl (nbr (nbr (nbr hgv))))))))))
  | 15, _ => exact Or.inl (nbr (nbr (nbl (nbr (nbr (nbr (nbr (nbr (nbr (nbr hgv))))))))))
  | n + 16, hi => exact absurd hi (by show ¬ n + 16 < 16; omega)
theorem st_ne11 {args : Array Value} {s : State} (hgv : (Jvm.Cond.and given_1 narrow_1).before args s = true) : ∀ j, j < NS → 11 ≠ j → ((Cond.not (Cond.eq (stm 11) (stm j))).before args s = true ∨ (Cond.not (Cond.eq (stm j) (stm 11))).before args s = true) := by
  intro j hj hn
  match j, hj with
  | 0, _ => exact Or.inr (nbl (nbl (nbl (nbr (nbr (nbr (nbl (nbl (nbr (nbr hgv))))))))))
  | 1, _ => exact Or.inr (nbl (nbr (nbl (nbr (nbr (nbr (nbl (nbl (nbr (nbr hgv))))))))))
  | 2, _ => exact Or.inr (nbr (nbr (nbl (nbr (nbr (nbr (nbl (nbl (nbr (nbr hgv))))))))))
  | 3, _ => exact Or.inr (nbl (nbl (nbr (nbr (nbr (nbr (nbl (nbl (nbr (nbr hgv))))))))))
  | 4, _ => exact Or.inr (nbr (nbl (nbr (nbr (nbr (nbr (nbl (nbl (nbr (nbr hgv))))))))))
  | 5, _ => exact Or.inr (nbr (nbr (nbl (nbl (nbl (nbl (nbr (nbl (nbr (nbr hgv))))))))))
  | 6, _ => exact Or.inr (nbl (nbl (nbr (nbl (nbl (nbl (nbr (nbl (nbr (nbr hgv))))))))))
  | 7, _ => exact Or.inr (nbr (nbl (nbr (nbl (nbl (nbl (nbr (nbl (nbr (nbr hgv))))))))))
  | 8, _ => exact Or.inr (nbl (nbr (nbr (nbl (nbl (nbl (nbr (nbl (nbr (nbr hgv))))))))))
  | 9, _ => exact Or.inr (nbr (nbr (nbr (nbl (nbl (nbl (nbr (nbl (nbr (nbr hgv))))))))))
  | 10, _ => exact Or.inr (nbl (nbl (nbr (nbl (nbl (nbr (nbl (nbr (nbr hgv)))))))))
  | 11, _ => exact absurd rfl hn
  | 12, _ => exact Or.inl (nbl (nbl (nbr (nbl (nbl (nbr (nbr (nbl (nbr (nbr hgv))))))))))
  | 13, _ => exact Or.inl (nbr (nbr (nbr (nbr (nbr (nbr (nbr (nbl (nbr (nbr hgv))))))))))
  | 14, _ => exact Or.inl (nbr (nbl (nbr (nbl (nbr (nbr (nbl (nbr (nbr (nbr hgv))))))))))
  | 15, _ => exact Or.inl (nbl (nbl (nbr (nbr (nbr (nbr (nbr (nbr (nbr (nbr hgv))))))))))
  | n + 16, hi => exact absurd hi (by show ¬ n + 16 < 16; omega)
theorem st_ne12 {args : Array Value} {s : State} (hgv : (Jvm.Cond.and given_1 narrow_1).before args s = true) : ∀ j, j < NS → 12 ≠ j → ((Cond.not (Cond.eq (stm 12) (stm j))).before args s = true ∨ (Cond.not (Cond.eq (stm j) (stm 12))).before args s = true) := by
  intro j hj hn
  match j, hj with
  | 0, _ => exact Or.inr (nbr (nbr (nbl (nbl (nbr (nbl (nbr (nbl (nbr (nbr hgv))))))))))
  | 1, _ => exact Or.inr (nbr (nbl (nbr (nbl (nbr (nbl (nbr (nbl (nbr (nbr hgv))))))))))
  | 2, _ => exact Or.inr (nbl (nbr (nbr (nbl (nbr (nbl (nbr (nbl (nbr (nbr hgv))))))))))
  | 3, _ => exact Or.inr (nbr (nbr (nbr (nbl (nbr (nbl (nbr (nbl (nbr (nbr hgv))))))))))
  | 4, _ => exact Or.inr (nbl (nbl (nbl (nbr (nbr (nbl (nbr (nbl (nbr (nbr hgv))))))))))
  | 5, _ => exact Or.inr (nbr (nbl (nbr (nbr (nbr (nbl (nbr (nbl (nbr (nbr hgv))))))))))
  | 6, _ => exact Or.inr (nbl (nbr (nbr (nbr (nbr (nbl (nbr (nbl (nbr (nbr hgv))))))))))
  | 7, _ => exact Or.inr (nbr (nbr (nbr (nbr (nbr (nbl (nbr (nbl (nbr (nbr hgv))))))))))
  | 8, _ => exact Or.inr (nbl (nbl (nbl (nbl (nbr (nbr (nbl (nbr (nbr hgv)))))))))
  | 9, _ => exact Or.inr (nbl (nbr (nbl (nbl (nbl (nbr (nbr (nbl (nbr (nbr hgv))))))))))
  | 10, _ => exact Or.inr (nbr (nbr (nbl (nbl (nbl (nbr (nbr (nbl (nbr (nbr hgv))))))))))
  | 11, _ => exact Or.inr (nbl (nbl (nbr (nbl (nbl (nbr (nbr (nbl (nbr (nbr hgv))))))))))
  | 12, _ => exact absurd rfl hn
  | 13, _ => exact Or.inl (nbl (nbl (nbl (nbl (nbl (nbl (nbr (nbr (nbr hgv)))))))))
  | 14, _ => exact Or.inl (nbl (nbr (nbr (nbl (nbr (nbr (nbl (nbr (nbr (nbr hgv))))))))))
  | 15, _ => exact Or.inl (nbr (nbl (nbr (nbr (nbr (nbr (nbr (nbr (nbr (nbr hgv))))))))))
  | n + 16, hi => exact absurd hi (by show ¬ n + 16 < 16; omega)
theorem st_ne13 {args : Array Value} {s : State} (hgv : (Jvm.Cond.and given_1 narrow_1).before args s = true) : ∀ j, j < NS → 13 ≠ j → ((Cond.not (Cond.eq (stm 13) (stm j))).before args s = true ∨ (Cond.not (Cond.eq (stm j) (stm 13))).before args s = true) := by
  intro j hj hn
  match j, hj with
  | 0, _ => exact Or.inr (nbl (nbr (nbr (nbr (nbl (nbr (nbr (nbl (nbr (nbr hgv))))))))))
  | 1, _ => exact Or.inr (nbl (nbl (nbl (nbr (nbr (nbr (nbl (nbr (nbr hgv)))))))))
  | 2, _ => exact Or.inr (nbl (nbr (nbl (nbl (nbr (nbr (nbr (nbl (nbr (nbr hgv))))))))))
  | 3, _ => exact Or.inr (nbr (nbr (nbl (nbl (nbr (nbr (nbr (nbl (nbr (nbr hgv))))))))))
  | 4, _ => exact Or.inr (nbl (nbl (nbr (nbl (nbr (nbr (nbr (nbl (nbr (nbr hgv))))))))))
  | 5, _ => exact Or.inr (nbr (nbl (nbl (nbr (nbr (nbr (nbr (nbl (nbr (nbr hgv))))))))))
  | 6, _ => exact Or.inr (nbl (nbr (nbl (nbr (nbr (nbr (nbr (nbl (nbr (nbr hgv))))))))))
  | 7, _ => exact Or.inr (nbr (nbr (nbl (nbr (nbr (nbr (nbr (nbl (nbr (nbr hgv))))))))))
  | 8, _ => exact Or.inr (nbl (nbl (nbr (nbr (nbr (nbr (nbr (nbl (nbr (nbr hgv))))))))))
  | 9, _ => exact Or.inr (nbr (nbl (nbr (nbr (nbr (nbr (nbr (nbl (nbr (nbr hgv))))))))))
  | 10, _ => exact Or.inr (nbl (nbr (nbr (nbr (nbr (nbr (nbr (nbl (nbr (nbr hgv))))))))))
  | 11, _ => exact Or.inr (nbr (nbr (nbr (nbr (nbr (nbr (nbr (nbl (nbr (nbr hgv))))))))))
  | 12, _ => exact Or.inr (nbl (nbl (nbl (nbl (nbl (nbl (nbr (nbr (nbr hgv)))))))))
  | 13, _ => exact absurd rfl hn
  | 14, _ => exact Or.inl (nbr (nbr (nbr (nbl (nbr (nbr (nbl (nbr (nbr (nbr hgv))))))))))
  | 15, _ => exact Or.inl (nbl (nbr (nbr (nbr (nbr (nbr (nbr (nbr (nbr (nbr hgv))))))))))
  | n + 16, hi => exact absurd hi (by show ¬ n + 16 < 16; omega)
theorem st_ne14 {args : Array Value} {s : State} (hgv : (Jvm.Cond.and given_1 narrow_1).before args s = true) : ∀ j, j < NS → 14 ≠ j → ((Cond.not (Cond.eq (stm 14) (stm j))).before args s = true ∨ (Cond.not (Cond.eq (stm j) (stm 14))).before args s = true) := by
  intro j hj hn
  match j, hj with
  | 0, _ => exact Or.inr (nbl (nbl (nbr (nbl (nbl (nbr (nbl (nbr (nbr (nbr hgv))))))))))
  | 1, _ => exact Or.inr (nbl (nbr (nbr (nbl (nbl (nbr (nbl (nbr (nbr (nbr hgv))))))))))
  | 2, _ => exact Or.inr (nbr (nbr (nbr (nbl (nbl (nbr (nbl (nbr (nbr (nbr hgv))))))))))
  | 3, _ => exact Or.inr (nbl (nbl (nbl (nbr (nbl (nbr (nbl (nbr (nbr (nbr hgv))))))))))
  | 4, _ => exact Or.inr (nbr (nbl (nbl (nbr (nbl (nbr (nbl (nbr (nbr (nbr hgv))))))))))
  | 5, _ => exact Or.inr (nbl (nbr (nbr (nbr (nbl (nbr (nbl (nbr (nbr (nbr hgv))))))))))
  | 6, _ => exact Or.inr (nbr (nbr (nbr (nbr (nbl (nbr (nbl (nbr (nbr (nbr hgv))))))))))
  | 7, _ => exact Or.inr (nbl (nbl (nbl (nbr (nbr (nbl (nbr (nbr (nbr hgv)))))))))
  | 8, _ => exact Or.inr (nbl (nbr (nbl (nbl (nbr (nbr (nbl (nbr (nbr (nbr hgv))))))))))
  | 9, _ => exact Or.inr (nbr (nbr (nbl (nbl (nbr (nbr (nbl (nbr (nbr (nbr hgv))))))))))
  | 10, _ => exact Or.inr (nbl (nbl (nbr (nbl (nbr (nbr (nbl (nbr (nbr (nbr hgv))))))))))
  | 11, _ => exact Or.inr (nbr (nbl (nbr (nbl (nbr (nbr (nbl (nbr (nbr (nbr hgv))))))))))
  | 12, _ => exact Or.inr (nbl (nbr (nbr (nbl (nbr (nbr (nbl (nbr (nbr (nbr hgv))))))))))
  | 13, _ => exact Or.inr (nbr (nbr (nbr (nbl (nbr (nbr (nbl (nbr (nbr (nbr hgv))))))))))
  | 14, _ => exact absurd rfl hn
  | 15, _ => exact Or.inl (nbr (nbr (nbr (nbr (nbr (nbr (nbr (nbr (nbr (nbr hgv))))))))))
  | n + 16, hi => exact absurd hi (by show ¬ n + 16 < 16; omega)
theorem st_ne15 {args : Array Value} {s : State} (hgv : (Jvm.Cond.and given_1 narrow_1).before args s = true) : ∀ j, j < NS → 15 ≠ j → ((Cond.not (Cond.eq (stm 15) (stm j))).before args s = true ∨ (Cond.not (Cond.eq (stm j) (stm 15))).before args s = true) := by
  intro j hj hn
  match j, hj with
  | 0, _ => exact Or.inr (nbr (nbr (nbl (nbr (nbl (nbr (nbr (nbr (nbr (nbr hgv))))))))))
  | 1, _ => exact Or.inr (nbr (nbl (nbr (nbr (nbl (nbr (nbr (nbr (nbr (nbr hgv))))))))))
  | 2, _ => exact Or.inr (nbl (nbr (nbr (nbr (nbl (nbr (nbr (nbr (nbr (nbr hgv))))))))))
  | 3, _ => exact Or.inr (nbr (nbr (nbr (nbr (nbl (nbr (nbr (nbr (nbr (nbr hgv))))))))))
  | 4, _ => exact Or.inr (nbl (nbl (nbl (nbr (nbr (nbr (nbr (nbr (nbr hgv)))))))))
  | 5, _ => exact Or.inr (nbl (nbr (nbr (nbl (nbr (nbr (nbr (nbr (nbr (nbr hgv))))))))))
  | 6, _ => exact Or.inr (nbr (nbr (nbr (nbl (nbr (nbr (nbr (nbr (nbr (nbr hgv))))))))))
  | 7, _ => exact Or.inr (nbl (nbl (nbl (nbr (nbr (nbr (nbr (nbr (nbr (nbr hgv))))))))))
  | 8, _ => exact Or.inr (nbr (nbl (nbl (nbr (nbr (nbr (nbr (nbr (nbr (nbr hgv))))))))))
  | 9, _ => exact Or.inr (nbl (nbr (nbl (nbr (nbr (nbr (nbr (nbr (nbr (nbr hgv))))))))))
  | 10, _ => exact Or.inr (nbr (nbr (nbl (nbr (nbr (nbr (nbr (nbr (nbr (nbr hgv))))))))))
  | 11, _ => exact Or.inr (nbl (nbl (nbr (nbr (nbr (nbr (nbr (nbr (nbr (nbr hgv))))))))))
  | 12, _ => exact Or.inr (nbr (nbl (nbr (nbr (nbr (nbr (nbr (nbr (nbr (nbr hgv))))))))))
  | 13, _ => exact Or.inr (nbl (nbr (nbr (nbr (nbr (nbr (nbr (nbr (nbr (nbr hgv))))))))))
  | 14, _ => exact Or.inr (nbr (nbr (nbr (nbr (nbr (nbr (nbr (nbr (nbr (nbr hgv))))))))))
  | 15, _ => exact absurd rfl hn
  | n + 16, hi => exact absurd hi (by show ¬ n + 16 < 16; omega)
theorem st_ne {args : Array Value} {s : State} (hgv : (Jvm.Cond.and given_1 narrow_1).before args s = true) : ∀ i, i < NS → ∀ j, j < NS → i ≠ j → ((Cond.not (Cond.eq (stm i) (stm j))).before args s = true ∨ (Cond.not (Cond.eq (stm j) (stm i))).before args s = true) := by
  intro i hi
  match i, hi with
  | 0, _ => exact st_ne0 hgv
  | 1, _ => exact st_ne1 hgv
  | 2, _ => exact st_ne2 hgv
  | 3, _ => exact st_ne3 hgv
  | 4, _ => exact st_ne4 hgv
  | 5, _ => exact st_ne5 hgv
  | 6, _ => exact st_ne6 hgv
  | 7, _ => exact st_ne7 hgv
  | 8, _ => exact st_ne8 hgv
  | 9, _ => exact st_ne9 hgv
  | 10, _ => exact st_ne10 hgv
  | 11, _ => exact st_ne11 hgv
  | 12, _ => exact st_ne12 hgv
  | 13, _ => exact st_ne13 hgv
  | 14, _ => exact st_ne14 hgv
  | 15, _ => exact st_ne15 hgv
  | n + 16, hi => exact absurd hi (by show ¬ n + 16 < 16; omega)
theorem st_ev {args : Array Value} {s : State} (hgv : (Jvm.Cond.and given_1 narrow_1).before args s = true) : ∀ q ∈ SRF, q.2.2.2 < NS ∧ (Term.string q.1 q.2.1 = stm q.2.2.2 ∨ (Cond.eq (stm q.2.2.2) (.string q.1 q.2.1)).before args s = true) := by
  intro q hq
  unfold SRF at hq
  simp only [List.mem_cons, List.not_mem_nil, or_false] at hq
  rcases hq with rfl | rfl | rfl | rfl | rfl | rfl | rfl | rfl | rfl | rfl | rfl | rfl | rfl | rfl | rfl | rfl | rfl | rfl | rfl | rfl | rfl
  · exact ⟨by decide, Or.inl rfl⟩
  · exact ⟨by decide, Or.inr (nbl (nbr (nbr (nbl (nbr (nbr (nbl (nbl (nbl (nbr hgv))))))))))⟩
  · exact ⟨by decide, Or.inl rfl⟩
  · exact ⟨by decide, Or.inl rfl⟩
  · exact ⟨by decide, Or.inl rfl⟩
  · exact ⟨by decide, Or.inl rfl⟩
  · exact ⟨by decide, Or.inr (nbr (nbl (nbr (nbl (nbr (nbr (nbr (nbl (nbl (nbr hgv))))))))))⟩
  · exact ⟨by decide, Or.inr (nbr (nbl (nbr (nbl (nbl (nbl (nbl (nbr (nbl (nbr hgv))))))))))⟩
  · exact ⟨by decide, Or.inr (nbl (nbl (nbl (nbr (nbr (nbl (nbl (nbr (nbl (nbr hgv))))))))))⟩
  · exact ⟨by decide, Or.inr (nbl (nbr (nbl (nbr (nbl (nbr (nbl (nbr (nbl (nbr hgv))))))))))⟩
  · exact ⟨by decide, Or.inl rfl⟩
  · exact ⟨by decide, Or.inl rfl⟩
  · exact ⟨by decide, Or.inl rfl⟩
  · exact ⟨by decide, Or.inl rfl⟩
  · exact ⟨by decide, Or.inl rfl⟩
  · exact ⟨by decide, Or.inl rfl⟩
  · exact ⟨by decide, Or.inl rfl⟩
  · exact ⟨by decide, Or.inl rfl⟩
  · exact ⟨by decide, Or.inl rfl⟩
  · exact ⟨by decide, Or.inl rfl⟩
  · exact ⟨by decide, Or.inl rfl⟩
theorem st_rf : ∀ q ∈ SRF, Cond.stringRef q.1 q.2.1 q.2.2.1 ∈ tables_1 := by decide +kernel
theorem arr_of {s : State} {args : Array Value} {ty : FieldType} (h : (Cond.arrayClass ty).before args s = true) : ∃ cA : ClassId, ArrOfT s cA ty ∧ s.vm.findClass ("[" ++ ty.toString) = some cA := by
  obtain ⟨cA, kA, comp, h1, h2, h3⟩ := Cond.arrayClass_spec h
  exact ⟨cA, fun N z => ⟨(fun k h => by cases h), kA, h2, comp, h3⟩, h1⟩
theorem arr_ofo {s : State} {C : String} (h : va_AO C s) : ∃ cA : ClassId, ArrOfT s cA (.object C) ∧ va_RA s cA (.object C) := by
  obtain ⟨comp, cA, kA, h1, h2, h3, h4, h5⟩ := Cond.arrayOver_spec h
  exact ⟨cA, fun N z => ⟨(fun k h => by cases h), kA, h3, comp, h4⟩, kA, comp, h3, h4, h1, h5⟩
/-- what the Statement gives of the start, in our words -/
theorem start_G {s : State} {args : Array Value} (l : Launch) (hts : ∀ w ∈ lw_tbl, w.before args s = true) (hgv : (Jvm.Cond.and given_1 narrow_1).before args s = true) : ∃ G : Gl, gl G = l ∧ gb G = s.heap.size ∧ TF G s ∧ SF G s s.heap ∧ va_AO "HoleDeck$House" s ∧ va_AO "HoleDeck$Tray" s := by
  have htg : ∀ w ∈ lw_good, w.before args s = true := fun w hw => hts w (good_in w hw)
  have hA : ∀ a : Nat, a < s.heap.size → ¬ (fun q : Nat => s.heap.size ≤ q) a := fun a h => Nat.not_le.mpr h
  have hcls : ∀ ci : Nat, ∃ q : ClassId × (Nat → Nat), ∀ (C : String) (T : u_T) (N : Nat), vwCl[ci]? = some (C, T, N) → u_Kn s C T N q.1 q.2 := by
    intro ci
    cases hq : vwCl[ci]? with
    | none => exact ⟨(0, fun _ => 0), fun C T N h => by cases h⟩
    | some r =>
      obtain ⟨C, T, N⟩ := r
      obtain ⟨cC, iS, h⟩ := u_known htg (cl_in ci C T N hq) (htg _ (inst_ok ci C T N hq))
      exact ⟨(cC, iS), fun C' T' N' e => by cases e; exact h⟩
  obtain ⟨dq, hdq⟩ := Classical.axiomOfChoice hcls
  have aoH : va_AO "HoleDeck$House" s := va_AO.of (hts _ (List.mem_append_right _ (tbi1 _ (List.mem_of_getElem? (i := 158) rfl))))
  have aoT : va_AO "HoleDeck$Tray" s := va_AO.of (hts _ (List.mem_append_right _ (tbi1 _ (List.mem_of_getElem? (i := 31) rfl))))
  obtain ⟨cB, b1, b2⟩ := arr_of (htg _ (List.mem_filter.mpr ⟨List.mem_append_right _ (tbi4 _ (List.mem_of_getElem? (i := 93) rfl)), rfl⟩ : Cond.arrayClass .byte ∈ lw_good))
  obtain ⟨cI, i1, i2⟩ := arr_of (htg _ (List.mem_filter.mpr ⟨List.mem_append_right _ (tbi1 _ (List.mem_of_getElem? (i := 72) rfl)), rfl⟩ : Cond.arrayClass .int ∈ lw_good))
  obtain ⟨cJ, j1, j2⟩ := arr_of (htg _ (List.mem_filter.mpr ⟨List.mem_append_right _ (tbi1 _ (List.mem_of_getElem? (i := 218) rfl)), rfl⟩ : Cond.arrayClass .long ∈ lw_good))
  obtain ⟨cH, h1, h2⟩ := arr_ofo aoH
  obtain ⟨cT, t1, t2⟩ := arr_ofo aoT
  obtain ⟨adK, adV, hS, hE⟩ := vk_Sof (N := NS) (tm := stm) (len := SLN) (byt := SBY) (A := fun q : Nat => s.heap.size ≤ q) (args := args) (s := s) (fun i hi => Nat.lt_trans (SLN_lt i hi) (by decide)) (st_ex hgv) (st_co hgv) (st_ar hgv) (st_le hgv) (st_el hgv) (fun i j hi hj hij => st_ne hgv i hi j hj hij) hA
  refine ⟨(l, (fun k => (dq k).1, fun k => (dq k).2), (fun k => if k = 13 then cB else if k = 14 then cI else if k = 15 then cJ else if k = 16 then cH else cT), s.heap.size, adK, adV), rfl, rfl, ⟨⟨fun c q hq => hdq c q.1 q.2.1 q.2.2 hq, fun k q hq => ?_⟩, fun w hw => ?_, fun q hq => ?_⟩, ⟨hS, ?_, ?_⟩, aoH, aoT⟩
  · match k, hq with
    | 0, hq => cases hq; exact ⟨b1, b2⟩
    | 1, hq => cases hq; exact ⟨i1, i2⟩
    | 2, hq => cases hq; exact ⟨j1, j2⟩
    | 3, hq => cases hq; exact ⟨h1, h2⟩
    | 4, hq => cases hq; exact ⟨t1, t2⟩
    | k + 5, hq => simp [gty] at hq
  · exact va_Nw.of (nest_onT (List.mem_filter.mp hw).2) (hts w (List.mem_filter.mp hw).1)
  · obtain ⟨hj, hev⟩ := st_ev hgv q hq
    refine vk_R.of (A := args) (hts _ (List.mem_append_right _ (st_rf q hq))) ?_
    rcases hev with e | e
    · rw [e]; exact hE _ hj
    · exact va_eqR e (hE _ hj)
  · exact va_Zof (hts _ (List.mem_append_right _ (tbi3 _ (List.mem_of_getElem? (i := 186) rfl)))) (htg _ (List.mem_filter.mpr ⟨List.mem_append_right _ (tbi1 _ (List.mem_of_getElem? (i := 17) rfl)), rfl⟩)) (va_eqt (nbr (nbr (nbl (nbl (nbl (nbl (nbl (nbl (nbl (nbr hgv))))))))))) hA
  · exact va_Zqof (hts _ (List.mem_append_right _ (tbi3 _ (List.mem_of_getElem? (i := 202) rfl)))) (htg _ (List.mem_filter.mpr ⟨List.mem_append_right _ (tbi1 _ (List.mem_of_getElem? (i := 19) rfl)), rfl⟩)) (nbl (nbl (nbr (nbl (nbl (nbl (nbl (nbl (nbl (nbr hgv)))))))))) hA
/-- the cells when both objects are made -/
def hcZ : Hc := (0, fun _ _ => 0, fun _ _ => 0, fun _ _ => none)
def hcF : Hc := Fi_X12_init (cN (Fi_X11_init (cN hcZ) 0)) 122
def h0 : Hp := (hcF.2.1, hcF.2.2.1, fun c => if c = 22 then 23 else 33)
theorem hcF_n : hcF.1 = NC := by decide +kernel
theorem hcF_R : ∀ c, c < NC → KD c < 13 → ∀ k, k < 52 → (FT (KD c))[k]? = some 2 → hcF.2.2.2 c k = some (GR c k) := by decide +kernel
theorem hcF_T : ∀ c, c < NC → KD c = 7 → hcF.2.2.2 c 0 = some (hT h0 c) ∧ KD (hT h0 c) = 14 ∧ hT h0 c < NC := by decide +kernel
theorem hcF_A : ∀ c, c < NC → 15 < KD c → ∀ k, k < LEN c → hcF.2.2.2 c k = some (GR c k) := by decide +kernel
theorem KD_le : ∀ c, c < NC → KD c < 18 := by decide +kernel
theorem FT_3 : ∀ ci, ci < 13 → ∀ k, k < 52 → (FT ci)[k]? = some 3 → ci = 7 ∧ k = 0 := by decide +kernel
theorem FT_4 : ∀ ci, ci < 13 → ∀ k, k < 52 → ∀ t, t ∈ (FT ci)[k]? → t < 4 := by decide +kernel
theorem bridge {G : Gl} {H : Heap} (h : HC G hcF H) : HR G h0 H := by
  refine ⟨fun c q hq => ?_, fun c hc => ⟨(hcF_T c hc.1 hc.2).2.2, (hcF_T c hc.1 hc.2).2.1⟩⟩
  obtain ⟨hc, rfl⟩ := pool_lt hq
  have h1 := h.2 c _ (cP_get (G := G) (by rw [hcF_n]; exact hc))
  by_cases hk : KD c < 13
  · have e1 : cE G hcF c = ent G h0 c := by
      unfold cE ent
      rw [if_pos hk, if_pos hk]
      congr 2
      apply List.ext_getElem?
      intro k
      rw [List.getElem?_mapIdx, List.getElem?_mapIdx]
      cases hf : (FT (KD c))[k]? with
      | none => rfl
      | some t =>
        have hk52 : k < 52 := Nat.lt_of_lt_of_le (List.getElem?_eq_some_iff.mp hf).1 (FT_len _ hk)
        have ht : t < 4 := FT_4 _ hk k hk52 t hf
        simp only [Option.map_some]
        congr 1
        rcases (show t = 0 ∨ t = 1 ∨ t = 2 ∨ t = 3 by omega) with rfl | rfl | rfl | rfl
        · rfl
        · rfl
        · simp [cV, fval, hcF_R c hc hk k hk52 hf, va_rf]
        · obtain ⟨e7, rfl⟩ := FT_3 _ hk k hk52 hf
          simp [cV, fval, (hcF_T c hc e7).1, va_rf]
    rw [← e1]
    exact h1
  · by_cases hk2 : KD c < 16
    · have e1 : cE G hcF c = ent G h0 c := by
        unfold cE ent cAr cont
        rw [if_neg hk, if_neg hk]
        by_cases hk3 : KD c < 15
        · rw [if_pos hk3, if_pos hk3]; rfl
        · have hk4 : KD c = 15 := by omega
          rw [if_neg hk3, if_neg hk3, if_pos hk4, if_pos hk4]; rfl
      rw [← e1]
      exact h1
    · unfold cE cAr at h1
      unfold ent cont
      rw [if_neg hk, if_neg (by omega), if_neg (by omega)] at h1 ⊢
      have h2 : H[gb G + c]? = some (arrV (gC G (KD c)) (LEN c) (fun k => va_rf ((hcF.2.2.2 c k).map (fun a => gb G + a)))) := h1
      show H[gb G + c]? = some (arrV (gC G (KD c)) (LEN c) (fun k => va_rf (some (gb G + GR c k))))
      rw [h2]
      congr 1
      unfold arrV
      congr 2
      funext j
      show va_rf ((hcF.2.2.2 c j.val).map (fun a => gb G + a)) = va_rf (some (gb G + GR c j.val))
      rw [hcF_A c hc (by omega) j.val j.isLt]
      rfl
theorem lw_retv {p : Program} {l : Launch} {e : Env} {s : State} {m : MethodId} {below : List Frame} {meth : Method} {c : Code} {b : Nat} (hx : p.tables.exec = Jvm.exec) (hb : c.code = code) (hr : meth.sig.returnType = ret) (hlocks : meth.locks = false) {v : Int32} (hv : v &&& 1 = 1) {pc : Nat} {H : Heap} {ls : Array Slot} (hdg : decode code pc = .ok (.ireturn, 1)) : W p l e room_1 s m #[Value.ref b] below meth c H [] 600000 7302250 (lw_Z below #[Value.ref b] s) (F0 m pc ls [.int v]) := by
  intro T hT X
  obtain ⟨fs, hret, hrun, hended, hW, hframe⟩ := X.leave (v := some (.int (v &&& 1))) (hlocks := hlocks) (fun h => by rw [hr] at h; cases h)
  have hmeth' : T.vm.method? m = some meth := X.method'
  refine ⟨T.setFrames fs, ?_, .returned (some (.int (v &&& 1))), hrun, hended, by rw [hv], ⟨_, rfl⟩, hW, hframe⟩
  jvm_step X.here [X.here.top, hx, hb, hdg, hmeth', hr, ret, narrow]
  (try refine ⟨rfl, ?_⟩); (try refine ⟨rfl, ?_⟩)
  first | (intro acts; rw [hret _ acts rfl rfl rfl]) | rw [hret _ _ rfl rfl rfl]
  exact Steps.refl _
theorem lb_X11_init : LB mX11_init 0 := ⟨List.mem_filter.mpr ⟨List.mem_append_right _ (tbi1 _ (List.mem_of_getElem? (i := 1) rfl)), rfl⟩, List.mem_filter.mpr ⟨List.mem_append_right _ (tbi1 _ (List.mem_of_getElem? (i := 26) rfl)), rfl⟩, ⟨by decide +kernel, by decide +kernel⟩, by decide +kernel, by decide⟩
theorem li_RL_9 : LI RL 9 mX11_init := ⟨lb_X11_init, by decide +kernel, List.mem_filter.mpr ⟨List.mem_append_right _ (tbi1 _ (List.mem_of_getElem? (i := 25) rfl)), rfl⟩, rfl, Or.inl (List.mem_filter.mpr ⟨List.mem_append_right _ (tbi1 _ (List.mem_of_getElem? (i := 24) rfl)), rfl⟩)⟩
theorem lb_X12_init : LB mX12_init 0 := ⟨List.mem_filter.mpr ⟨List.mem_append_right _ (tbi1 _ (List.mem_of_getElem? (i := 13) rfl)), rfl⟩, List.mem_filter.mpr ⟨List.mem_append_right _ (tbi6 _ (List.mem_of_getElem? (i := 82) rfl)), rfl⟩, ⟨by decide +kernel, by decide +kernel⟩, by decide +kernel, by decide⟩
theorem li_RL_12 : LI RL 12 mX12_init := ⟨lb_X12_init, by decide +kernel, List.mem_filter.mpr ⟨List.mem_append_right _ (tbi6 _ (List.mem_of_getElem? (i := 81) rfl)), rfl⟩, rfl, Or.inl (List.mem_filter.mpr ⟨List.mem_append_right _ (tbi6 _ (List.mem_of_getElem? (i := 80) rfl)), rfl⟩)⟩
theorem lw_RL_7 : LW RL 7 11 := ⟨RX11, TX11, 17, tyX11, rfl, List.mem_filter.mpr ⟨List.mem_append_right _ (tbi1 _ (List.mem_of_getElem? (i := 22) rfl)), rfl⟩, List.mem_filter.mpr ⟨List.mem_append_right _ (tbi1 _ (List.mem_of_getElem? (i := 23) rfl)), rfl⟩, List.mem_filter.mpr ⟨List.mem_append_right _ (tbi1 _ (List.mem_of_getElem? (i := 1) rfl)), rfl⟩, tyX11_ok, fun j tj h => by
  have hj : j < 17 := (List.getElem?_eq_some_iff.mp h).1
  revert tj
  revert j
  decide +kernel, rfl, by decide⟩
theorem lw_RL_10 : LW RL 10 12 := ⟨RX12, TX12, 52, tyX12, rfl, List.mem_filter.mpr ⟨List.mem_append_right _ (tbi6 _ (List.mem_of_getElem? (i := 78) rfl)), rfl⟩, List.mem_filter.mpr ⟨List.mem_append_right _ (tbi6 _ (List.mem_of_getElem? (i := 79) rfl)), rfl⟩, List.mem_filter.mpr ⟨List.mem_append_right _ (tbi1 _ (List.mem_of_getElem? (i := 13) rfl)), rfl⟩, tyX12_ok, fun j tj h => by
  have hj : j < 52 := (List.getElem?_eq_some_iff.mp h).1
  revert tj
  revert j
  decide +kernel, rfl, by decide⟩
set_option maxHeartbeats 4000000 in
set_option maxRecDepth 100000 in
/-- THE LAW, from its entry, if its loop comes to 1 -/
theorem whole_open (hloop : ∀ (b L : Nat) (xs : Nat → Int32), L ≤ 3072 → ∃ h', L_L_law_18 h0 b L xs 0 122 0 = some (h', 1)) {p : Program} {e : Env} {s : State} {m : MethodId} {below : List Frame} {meth : Method} {c : Code} (l : Launch) {b L : Nat} {xs : Nat → Int32} (hL : L ≤ 3072) (C0 : lw_At p s m meth c b L xs) : W p l e room_1 s m #[Value.ref b] below meth c s.heap [] 0 0 (lw_Z below #[Value.ref b] s) (entryFrame m ([Value.ref b] : List Value).toArray 4) := by
  obtain ⟨hx, hb, hr, hml, hown, hts, hX, hbl, hlocks, hgv⟩ := id C0
  obtain ⟨G, rfl, hgb, hTF, hSF, aoH, aoT⟩ := start_G l hts hgv
  obtain ⟨h', hh'⟩ := hloop b L xs hL
  have htg : ∀ w ∈ lw_good, w.before #[Value.ref b] s = true := fun w hw => hts w (good_in w hw)
  have hO : Ok (p, e, room_1, s, m, #[Value.ref b], below, meth, c, 600000, 7302250, lw_Z below #[Value.ref b] s, G, (h', some (.int 1))) mL_law := by
    refine ⟨hx, hb, hml, hown, htg, hTF, hSF, ⟨by decide, by decide, Nat.le_refl _, Nat.le_refl _⟩, ?_⟩
    intro H locs pc ls st hH hS hrt
    have hfg : ∀ q ∈ locs, s.heap.size ≤ q.base := fun q hq => by have := hS.2.2 q hq; unfold gA at this; rw [hgb] at this; exact this
    rcases hrt with ⟨v, d, rfl, hM, hv⟩ | ⟨v, d, rfl, hM, hv⟩ | ⟨v, d, rfl, hM, hv⟩ | ⟨d, rfl, hM, hv⟩ | ⟨v, ty, d, rfl, hM, hn0, hv⟩
    · cases hM
    · have e1 : v &&& 1 = 1 := by simpa using hv.symm
      exact va_forget hfg (lw_retv hx hb hr hlocks e1 d)
    · cases hM
    · cases hM
    · have e1 : v = 1 := by simpa using hv.symm
      subst e1
      exact va_forget hfg (lw_retv hx hb hr hlocks (by decide) d)
  have hPX : PX (p, e, room_1, s, m, #[Value.ref b], below, meth, c, 600000, 7302250, lw_Z below #[Value.ref b] s, G, (h', some (.int 1))) b L xs := ⟨hX, hbl, by show ¬ gb G ≤ b; rw [hgb]; exact Nat.not_le.mpr hbl⟩
  have hEW : EW (p, e, room_1, s, m, #[Value.ref b], below, meth, c, 600000, 7302250, lw_Z below #[Value.ref b] s, G, (h', some (.int 1))) mL_law 18 [(0, .ref b), (1, .ref (gb G + 0)), (2, .ref (gb G + 122)), (3, .int 0)] [] h0 :=
    go_L_law_L18 (K := fun r => r = (h', 1)) hO h0 b L xs 0 122 0 hPX (by decide +kernel) (by decide +kernel) (fun r hr => by rw [hr]; rfl) (h', 1) hh' rfl
  have hOC : OC (p, e, room_1, s, m, #[Value.ref b], below, meth, c, 600000, 7302250, lw_Z below #[Value.ref b] s, G, (h', some (.int 1))) mL_law 600000 7302250 := ⟨hx, hb, hml, hown, htg, hTF, Nat.le_of_eq hgb, ⟨by decide, by decide, Nat.le_refl _, Nat.le_refl _⟩⟩
  have hEC : EC (p, e, room_1, s, m, #[Value.ref b], below, meth, c, 600000, 7302250, lw_Z below #[Value.ref b] s, G, (h', some (.int 1))) mL_law 0 0 0 [(0, .ref b)] [] hcZ := by
    refine c_new hOC 0 rfl lw_RL_7 (by decide +kernel) (Nat.le_of_ble_eq_true rfl) (Nat.le_of_ble_eq_true rfl) dL_law_0 ?_
    refine c_dup hOC dL_law_3 ?_
    refine c_call hOC ⟨aoH, aoT⟩ li_RL_9 (cc_X11_init G (cN hcZ) rfl) (Nat.le_of_ble_eq_true rfl) (Nat.le_of_ble_eq_true rfl) (Nat.le_of_ble_eq_true rfl) (Nat.le_of_ble_eq_true rfl) dL_law_4 ?_
    refine c_astore_n hOC rfl [(1, .ref (gb G + 0)), (0, .ref b)] dL_law_7 (by decide) rfl ?_
    refine c_new hOC 122 (by decide +kernel) lw_RL_10 (by decide +kernel) (Nat.le_of_ble_eq_true rfl) (Nat.le_of_ble_eq_true rfl) dL_law_8 ?_
    refine c_dup hOC dL_law_11 ?_
    refine c_call hOC ⟨aoH, aoT⟩ li_RL_12 (cc_X12_init G (cN (Fi_X11_init (cN hcZ) 0)) (by decide +kernel)) (Nat.le_of_ble_eq_true rfl) (Nat.le_of_ble_eq_true rfl) (Nat.le_of_ble_eq_true rfl) (Nat.le_of_ble_eq_true rfl) dL_law_12 ?_
    refine c_astore_n hOC rfl [(2, .ref (gb G + 122)), (1, .ref (gb G + 0)), (0, .ref b)] dL_law_15 (by decide) rfl ?_
    refine c_iconst hOC (v := 0) (by decide) dL_law_16 ?_
    refine c_istore_n hOC rfl [(3, .int 0), (2, .ref (gb G + 122)), (1, .ref (gb G + 0)), (0, .ref b)] dL_law_17 (by decide) rfl ?_
    refine c_widen (k' := 600000) (sl' := 7302250) (Nat.le_of_ble_eq_true rfl) (Nat.le_of_ble_eq_true rfl) ?_
    intro H locs ls hH hS hl
    exact hEW H locs ls (bridge hH) hS (lv_sub hl [3, 2, 1, 0] rfl)
  have hl := lv_entry ([.ref b]) (n := 4) (Nat.le_of_ble_eq_true rfl)
  rw [lg_entry_eq]
  exact hEC s.heap [] _ ⟨by rw [hgb]; rfl, fun k q h => by simp [cP, hcZ] at h⟩ va_S.rf hl
