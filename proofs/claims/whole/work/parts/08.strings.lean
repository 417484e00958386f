/-- own's pool entry i is the Math method y -/
def LM (own : String) (i : Nat) (y : MethodName) (b : ByteArray) (n : Nat) : Prop := Cond.methodLink own i y ∈ lw_good ∧ Cond.static y ∈ lw_good ∧ Cond.initialized "java/lang/Math" ∈ lw_good ∧ Cond.code y b n (some .int) ∈ lw_good
/-- own's pool entry i is the String method y -/
def LG (own : String) (i : Nat) (y : MethodName) : Prop := Cond.methodLink own i y ∈ lw_good ∧ Cond.instanceMethod y ∈ lw_good ∧ Cond.selects "java/lang/String" y y ∈ lw_good
def fmr (x y : Int32) : Int32 := if 0 ≤ x ^^^ y then x - x / y * y else if x - x / y * y = 0 then x - x / y * y else x - x / y * y + y
def fmS (x y : Int32) : Spec where
  pre := .and (.code yJ9_floorMod_7cf53 cJ9_floorMod_7cf53 3 (some .int)) (.and (.count 2) (.and (.isInt (.arg 0)) (.and (.isInt (.arg 1)) (.and (.eq (.arg 0) (.int x)) (.eq (.arg 1) (.int y))))))
  post := .and .returned (.eq .result (.int (fmr x y)))
  changes := some []
theorem fm_row0 : (NativeRow.find? natives yJ9_floorMod_7cf53.cls yJ9_floorMod_7cf53.name yJ9_floorMod_7cf53.desc).isNone = true := by decide +kernel
theorem fm_row (p : Program) : NativeRow.find? p.tables.natives yJ9_floorMod_7cf53.cls yJ9_floorMod_7cf53.name yJ9_floorMod_7cf53.desc = none := by
  cases p <;> exact Option.isNone_iff_eq_none.mp fm_row0
theorem fq_0 : decode cJ9_floorMod_7cf53 0 = .ok ((.iload_n 0), 1) := by decide +kernel
theorem fq_1 : decode cJ9_floorMod_7cf53 1 = .ok ((.iload_n 1), 1) := by decide +kernel
theorem fq_2 : decode cJ9_floorMod_7cf53 2 = .ok (.irem, 1) := by decide +kernel
theorem fq_3 : decode cJ9_floorMod_7cf53 3 = .ok ((.istore_n 2), 1) := by decide +kernel
theorem fq_4 : decode cJ9_floorMod_7cf53 4 = .ok ((.iload_n 0), 1) := by decide +kernel
theorem fq_5 : decode cJ9_floorMod_7cf53 5 = .ok ((.iload_n 1), 1) := by decide +kernel
theorem fq_6 : decode cJ9_floorMod_7cf53 6 = .ok (.ixor, 1) := by decide +kernel
theorem fq_7 : decode cJ9_floorMod_7cf53 7 = .ok ((.ifCond .ge 11), 3) := by decide +kernel
theorem fq_10 : decode cJ9_floorMod_7cf53 10 = .ok ((.iload_n 2), 1) := by decide +kernel
theorem fq_11 : decode cJ9_floorMod_7cf53 11 = .ok ((.ifCond .eq 7), 3) := by decide +kernel
theorem fq_14 : decode cJ9_floorMod_7cf53 14 = .ok ((.iload_n 2), 1) := by decide +kernel
theorem fq_15 : decode cJ9_floorMod_7cf53 15 = .ok ((.iload_n 1), 1) := by decide +kernel
theorem fq_16 : decode cJ9_floorMod_7cf53 16 = .ok (.iadd, 1) := by decide +kernel
theorem fq_17 : decode cJ9_floorMod_7cf53 17 = .ok (.ireturn, 1) := by decide +kernel
theorem fq_18 : decode cJ9_floorMod_7cf53 18 = .ok ((.iload_n 2), 1) := by decide +kernel
theorem fq_19 : decode cJ9_floorMod_7cf53 19 = .ok (.ireturn, 1) := by decide +kernel
set_option maxHeartbeats 4000000 in
theorem fm_meets (l : Launch) (x y : Int32) (hy : y ≠ 0) : MeetsLoose l yJ9_floorMod_7cf53 (fmS x y) := by
  refine MeetsLoose.of_body_ov (code := cJ9_floorMod_7cf53) (maxLocals := 3) (ret := some .int) fm_row ?_ ?_
  · intro args s h
    simp only [fmS, Cond.before_and, Bool.and_eq_true] at h
    exact h.1
  · intro p e s m args below meth c s₁ B
    have hpre := B.pre
    simp only [fmS, Cond.before_and, Bool.and_eq_true] at hpre
    obtain ⟨a, b, rfl⟩ := Cond.two_ints hpre.2.1 hpre.2.2.1 hpre.2.2.2.1
    have ea : a = x := by
      have q := hpre.2.2.2.2.1
      simpa [Cond.before, Cond.holds, Cond.value, Term.eval] using q
    have eb : b = y := by
      have q := hpre.2.2.2.2.2
      simpa [Cond.before, Cond.holds, Cond.value, Term.eval] using q
    subst ea
    subst eb
    have hloc : argsToLocals #[.int a, .int b] 3 = #[.val (.int a), .val (.int b), .unset] := rfl
    have fin : ∀ r : Int32, (∀ fs, Steps p.tables e below (s₁.setTop (entryFrame m #[.int a, .int b] 3)) (s₁.setFrames fs) ∨ handOver s₁ (some (.int r)) below ≠ some fs) →
        (r = fmr a b) →
        ∃ s₂ o, Steps p.tables e below (s₁.setTop (entryFrame m #[.int a, .int b] 3)) s₂ ∧ s₂.status = .running ∧ Ended s₂ below o ∧
          (fmS a b).ensures #[.int a, .int b] s o s₂ := by
      intro r hwalk hpost
      obtain ⟨fs, hfs⟩ := handOver_isSome (s := s₁) (some (.int r)) B.hears₁
      refine ⟨s₁.setFrames fs, .returned (some (.int r)), (hwalk fs).resolve_right (fun h => h hfs), B.here.running, B.ended hfs (by intro h; cases h), ?_, State.sameBut_nil.mpr ?_⟩
      · rw [hpost]
        simp [fmS, Cond.after, Cond.holds, Cond.value, Term.eval]
      · rw [State.frames_setFrames _ B.cur₁, B.back]
    have hst : ∀ r : Int32, storeLocals #[.val (.int a), .val (.int b), .unset] 2 (.int r) = some #[.val (.int a), .val (.int b), .val (.int r)] := fun r => rfl
    by_cases h1 : 0 ≤ a ^^^ b
    · refine fin (a - a / b * b) (fun fs => ?_) (by simp [fmr, h1])
      by_cases hfs : handOver s₁ (some (.int (a - a / b * b))) below = some fs
      · left
        unfold entryFrame; rw [hloc]
        refine Steps.instrAtOv (c := _) (by simpa using B.here) ?_
        simp [jvm, wpRun, exec, B.here.top, B.exec, B.bytes, fq_0]
        refine Steps.instrAtOv (c := _) (by simpa using B.here) ?_
        simp [jvm, wpRun, exec, B.here.top, B.exec, B.bytes, fq_1]
        refine Steps.instrAtOv (c := _) (by simpa using B.here) ?_
        simp [jvm, wpRun, exec, B.here.top, B.exec, B.bytes, fq_2, hy]
        refine Steps.instrAtOv (c := _) (by simpa using B.here) ?_
        simp [jvm, wpRun, exec, B.here.top, B.exec, B.bytes, fq_3, hst]
        refine Steps.instrAtOv (c := _) (by simpa using B.here) ?_
        simp [jvm, wpRun, exec, B.here.top, B.exec, B.bytes, fq_4]
        refine Steps.instrAtOv (c := _) (by simpa using B.here) ?_
        simp [jvm, wpRun, exec, B.here.top, B.exec, B.bytes, fq_5]
        refine Steps.instrAtOv (c := _) (by simpa using B.here) ?_
        simp [jvm, wpRun, exec, B.here.top, B.exec, B.bytes, fq_6]
        refine Steps.instrAtOv (c := _) (by simpa using B.here) ?_
        simp [jvm, wpRun, exec, B.here.top, B.exec, B.bytes, fq_7, ifCond.holds, h1]
        refine Steps.instrAtOv (c := _) (by simpa using B.here) ?_
        simp [jvm, wpRun, exec, B.here.top, B.exec, B.bytes, fq_18]
        refine Steps.instrAtOv (c := _) (by simpa using B.here) ?_
        simp [jvm, wpRun, exec, B.here.top, B.exec, B.bytes, fq_19, B.method₁, B.returns, narrow]
        intro acts
        rw [ret_to B.frames₁ B.method₁ B.notSynchronized rfl rfl hfs]
        exact Steps.refl _
      · exact Or.inr hfs
    · by_cases h2 : a - a / b * b = 0
      · refine fin 0 (fun fs => ?_) (by simp [fmr, h1, h2])
        by_cases hfs : handOver s₁ (some (.int 0)) below = some fs
        · left
          unfold entryFrame; rw [hloc]
          refine Steps.instrAtOv (c := _) (by simpa using B.here) ?_
          simp [jvm, wpRun, exec, B.here.top, B.exec, B.bytes, fq_0]
          refine Steps.instrAtOv (c := _) (by simpa using B.here) ?_
          simp [jvm, wpRun, exec, B.here.top, B.exec, B.bytes, fq_1]
          refine Steps.instrAtOv (c := _) (by simpa using B.here) ?_
          simp [jvm, wpRun, exec, B.here.top, B.exec, B.bytes, fq_2, hy]
          refine Steps.instrAtOv (c := _) (by simpa using B.here) ?_
          simp [jvm, wpRun, exec, B.here.top, B.exec, B.bytes, fq_3, hst]
          refine Steps.instrAtOv (c := _) (by simpa using B.here) ?_
          simp [jvm, wpRun, exec, B.here.top, B.exec, B.bytes, fq_4]
          refine Steps.instrAtOv (c := _) (by simpa using B.here) ?_
          simp [jvm, wpRun, exec, B.here.top, B.exec, B.bytes, fq_5]
          refine Steps.instrAtOv (c := _) (by simpa using B.here) ?_
          simp [jvm, wpRun, exec, B.here.top, B.exec, B.bytes, fq_6]
          refine Steps.instrAtOv (c := _) (by simpa using B.here) ?_
          simp [jvm, wpRun, exec, B.here.top, B.exec, B.bytes, fq_7, ifCond.holds, h1]
          refine Steps.instrAtOv (c := _) (by simpa using B.here) ?_
          simp [jvm, wpRun, exec, B.here.top, B.exec, B.bytes, fq_10]
          refine Steps.instrAtOv (c := _) (by simpa using B.here) ?_
          simp [jvm, wpRun, exec, B.here.top, B.exec, B.bytes, fq_11, ifCond.holds, h2]
          refine Steps.instrAtOv (c := _) (by simpa using B.here) ?_
          simp [jvm, wpRun, exec, B.here.top, B.exec, B.bytes, fq_18]
          refine Steps.instrAtOv (c := _) (by simpa using B.here) ?_
          simp [jvm, wpRun, exec, B.here.top, B.exec, B.bytes, fq_19, B.method₁, B.returns, narrow]
          intro acts
          rw [ret_to B.frames₁ B.method₁ B.notSynchronized rfl rfl hfs]
          exact Steps.refl _
        · exact Or.inr hfs
      · refine fin (a - a / b * b + b) (fun fs => ?_) (by simp [fmr, h1, h2])
        by_cases hfs : handOver s₁ (some (.int (a - a / b * b + b))) below = some fs
        · left
          unfold entryFrame; rw [hloc]
          refine Steps.instrAtOv (c := _) (by simpa using B.here) ?_
          simp [jvm, wpRun, exec, B.here.top, B.exec, B.bytes, fq_0]
          refine Steps.instrAtOv (c := _) (by simpa using B.here) ?_
          simp [jvm, wpRun, exec, B.here.top, B.exec, B.bytes, fq_1]
          refine Steps.instrAtOv (c := _) (by simpa using B.here) ?_
          simp [jvm, wpRun, exec, B.here.top, B.exec, B.bytes, fq_2, hy]
          refine Steps.instrAtOv (c := _) (by simpa using B.here) ?_
          simp [jvm, wpRun, exec, B.here.top, B.exec, B.bytes, fq_3, hst]
          refine Steps.instrAtOv (c := _) (by simpa using B.here) ?_
          simp [jvm, wpRun, exec, B.here.top, B.exec, B.bytes, fq_4]
          refine Steps.instrAtOv (c := _) (by simpa using B.here) ?_
          simp [jvm, wpRun, exec, B.here.top, B.exec, B.bytes, fq_5]
          refine Steps.instrAtOv (c := _) (by simpa using B.here) ?_
          simp [jvm, wpRun, exec, B.here.top, B.exec, B.bytes, fq_6]
          refine Steps.instrAtOv (c := _) (by simpa using B.here) ?_
          simp [jvm, wpRun, exec, B.here.top, B.exec, B.bytes, fq_7, ifCond.holds, h1]
          refine Steps.instrAtOv (c := _) (by simpa using B.here) ?_
          simp [jvm, wpRun, exec, B.here.top, B.exec, B.bytes, fq_10]
          refine Steps.instrAtOv (c := _) (by simpa using B.here) ?_
          simp [jvm, wpRun, exec, B.here.top, B.exec, B.bytes, fq_11, ifCond.holds, h2]
          refine Steps.instrAtOv (c := _) (by simpa using B.here) ?_
          simp [jvm, wpRun, exec, B.here.top, B.exec, B.bytes, fq_14]
          refine Steps.instrAtOv (c := _) (by simpa using B.here) ?_
          simp [jvm, wpRun, exec, B.here.top, B.exec, B.bytes, fq_15]
          refine Steps.instrAtOv (c := _) (by simpa using B.here) ?_
          simp [jvm, wpRun, exec, B.here.top, B.exec, B.bytes, fq_16]
          refine Steps.instrAtOv (c := _) (by simpa using B.here) ?_
          simp [jvm, wpRun, exec, B.here.top, B.exec, B.bytes, fq_17, B.method₁, B.returns, narrow]
          intro acts
          rw [ret_to B.frames₁ B.method₁ B.notSynchronized rfl rfl hfs]
          exact Steps.refl _
        · exact Or.inr hfs
section EGT
variable {τ : Type} {Γ : Cx} {M : Mi} {pc npc : Nat} {lv lv' : List (Nat × Value)} {st : List Value} {h : Hp} {t t1 t2 : Option τ} {K : τ → Prop}
theorem x_mmax (hO : Ok Γ M) {i : Nat} {x y : Int32} (lm : LM M.1.cls i Lib.Math.max.name Lib.Math.max.code 2) (hh : 1 ≤ M.2.2.2.2) (hr : (st.map fun v => v.category).sum ≤ 8) (d : DD M pc (.invokestatic i) 3 npc) (kk : EG Γ M npc lv (.int (if x < y then y else x) :: st) h t K) : EG Γ M pc lv (.int y :: .int x :: st) h t K := by
  obtain ⟨p, e, R, s, m, args, below, meth, c, cells, slots, Z, G, tg⟩ := Γ
  obtain ⟨hx, hb, hml, hown, hts, hTF, hSF, ⟨hR1, hR2, hR3, hR4⟩, hret⟩ := hO
  obtain ⟨d, rfl⟩ := d
  intro z hz hk H locs ls hH hS hl
  exact va_mmax hx hb (by rw [hml]; exact hl.1.symm) hown (hts _ lm.1) (hts _ lm.2.1) (hts _ lm.2.2.1) (hts _ lm.2.2.2) (Nat.le_trans hh hR1) (by omega) hR3 hR4 d (kk z hz hk H locs ls hH hS hl)
theorem x_mmin (hO : Ok Γ M) {i : Nat} {x y : Int32} (lm : LM M.1.cls i Lib.Math.min.name Lib.Math.min.code 2) (hh : 1 ≤ M.2.2.2.2) (hr : (st.map fun v => v.category).sum ≤ 8) (d : DD M pc (.invokestatic i) 3 npc) (kk : EG Γ M npc lv (.int (if y < x then y else x) :: st) h t K) : EG Γ M pc lv (.int y :: .int x :: st) h t K := by
  obtain ⟨p, e, R, s, m, args, below, meth, c, cells, slots, Z, G, tg⟩ := Γ
  obtain ⟨hx, hb, hml, hown, hts, hTF, hSF, ⟨hR1, hR2, hR3, hR4⟩, hret⟩ := hO
  obtain ⟨d, rfl⟩ := d
  intro z hz hk H locs ls hH hS hl
  exact va_mmin hx hb (by rw [hml]; exact hl.1.symm) hown (hts _ lm.1) (hts _ lm.2.1) (hts _ lm.2.2.1) (hts _ lm.2.2.2) (Nat.le_trans hh hR1) (by omega) hR3 hR4 d (kk z hz hk H locs ls hH hS hl)
theorem x_mfm (hO : Ok Γ M) {i : Nat} {x y : Int32} (lm : LM M.1.cls i yJ9_floorMod_7cf53 cJ9_floorMod_7cf53 3) (hh : 1 ≤ M.2.2.2.2) (hr : (st.map fun v => v.category).sum ≤ 8) (d : DD M pc (.invokestatic i) 3 npc) (kk : EG Γ M npc lv (.int (fmr x y) :: st) h t K) : EG Γ M pc lv (.int y :: .int x :: st) h (gd (!decide (y = 0)) t) K := by
  obtain ⟨p, e, R, s, m, args, below, meth, c, cells, slots, Z, G, tg⟩ := Γ
  obtain ⟨hx, hb, hml, hown, hts, hTF, hSF, ⟨hR1, hR2, hR3, hR4⟩, hret⟩ := hO
  obtain ⟨d, rfl⟩ := d
  intro z hz hk H locs ls hH hS hl
  obtain ⟨h1, h2⟩ := gd_t hz
  have hy : y ≠ 0 := by simpa using h1
  intro T hT X
  have hcode := hts _ lm.2.2.2
  obtain ⟨v, vm', X', ⟨first, t', hpost⟩, hstep⟩ := X.staticByContractV hx hown (hts _ lm.1) (hts _ lm.2.1) (hts _ lm.2.2.1) hcode (by decide) (fm_meets (gl G) x y hy) rfl rfl rfl rfl
    (fun args' first o s₂ h => by
      simp only [fmS, Cond.after_and, Bool.and_eq_true] at h
      cases o with
      | returned r => exact ⟨r, rfl⟩
      | threw y => simp [Cond.after, Cond.holds, Cond.value] at h)
    (g := F0 m pc ls (.int y :: .int x :: st)) rfl (by rw [hml]; exact hl.1) (argsL := [.int x, .int y]) (rest := st)
    (fun sig hs => by
      have h : parseMethodDescriptor "(II)I" = some { parameters := [.int, .int], returnType := some .int } := by decide +kernel
      rw [show yJ9_floorMod_7cf53.desc = "(II)I" from rfl, h] at hs
      rw [← Option.some.inj hs]; rfl)
    rfl (by rw [hb]; exact d)
    (fun vm' hW => by
      simp only [fmS, Cond.before_and, Bool.and_eq_true]
      refine ⟨?_, rfl, rfl, rfl, ?_, ?_⟩
      · have q := hcode
        rw [← Cond.code_setVm hW.alike] at q
        simp only [Cond.before, Cond.holds, Cond.value, State.methodNamed?, State.vm_setVm] at q ⊢
        exact q
      · simp [Cond.before, Cond.holds, Cond.value, Term.eval]
      · simp [Cond.before, Cond.holds, Cond.value, Term.eval])
    (by show 0 + 1 ≤ R.frames; omega) (by show 2 * 0 + (st.map fun v => v.category).sum + (3 + 11) + 0 ≤ R.locals; omega) (by show cells + 0 ≤ R.cells; omega) (by show slots + 0 ≤ R.slots; omega)
  obtain rfl : v = some (.int (fmr x y)) := by
    rcases v with _ | w
    · simp [fmS, Cond.after, Cond.holds, Cond.value, Term.eval] at hpost
    · cases w <;> simp [fmS, Cond.after, Cond.holds, Cond.value, Term.eval] at hpost
      rename_i r
      by_cases hr : r = fmr x y <;> simp [hr] at hpost ⊢
  obtain ⟨t2, a1, b1⟩ := kk z h2 hk H locs ls hH hS hl (T.setVm vm') hT X'
  exact ⟨t2, hstep t2 a1, b1⟩
end EGT
theorem tbi1 : ∀ w ∈ tables_1_1, w ∈ tables_1 := fun w h => by
  unfold tables_1
  simp only [List.mem_append]
  simp [h]
theorem tbi2 : ∀ w ∈ tables_1_2, w ∈ tables_1 := fun w h => by
  unfold tables_1
  simp only [List.mem_append]
  simp [h]
theorem tbi3 : ∀ w ∈ tables_1_3, w ∈ tables_1 := fun w h => by
  unfold tables_1
  simp only [List.mem_append]
  simp [h]
theorem tbi4 : ∀ w ∈ tables_1_4, w ∈ tables_1 := fun w h => by
  unfold tables_1
  simp only [List.mem_append]
  simp [h]
theorem tbi5 : ∀ w ∈ tables_1_5, w ∈ tables_1 := fun w h => by
  unfold tables_1
  simp only [List.mem_append]
  simp [h]
theorem tbi6 : ∀ w ∈ tables_1_6, w ∈ tables_1 := fun w h => by
  unfold tables_1
  simp only [List.mem_append]
  simp [h]
theorem tbi7 : ∀ w ∈ tables_1_7, w ∈ tables_1 := fun w h => by
  unfold tables_1
  simp only [List.mem_append]
  simp [h]
theorem tbi8 : ∀ w ∈ tables_1_8, w ∈ tables_1 := fun w h => by
  unfold tables_1
  simp only [List.mem_append]
  simp [h]
theorem dJ3_checkIndex_8e157_0 : DD mJ3_checkIndex_8e157 0 (.iload_n 0) 1 1 := ⟨by decide +kernel, rfl⟩
theorem dJ3_checkIndex_8e157_1 : DD mJ3_checkIndex_8e157 1 (.ifCond .lt 8) 3 4 := ⟨by decide +kernel, rfl⟩
theorem dJ3_checkIndex_8e157_4 : DD mJ3_checkIndex_8e157 4 (.iload_n 0) 1 5 := ⟨by decide +kernel, rfl⟩
theorem dJ3_checkIndex_8e157_5 : DD mJ3_checkIndex_8e157 5 (.iload_n 1) 1 6 := ⟨by decide +kernel, rfl⟩
theorem dJ3_checkIndex_8e157_6 : DD mJ3_checkIndex_8e157 6 (.if_icmp .lt 10) 3 9 := ⟨by decide +kernel, rfl⟩
theorem dJ3_checkIndex_8e157_9 : DD mJ3_checkIndex_8e157 9 (.aload_n 2) 1 10 := ⟨by decide +kernel, rfl⟩
theorem dJ3_checkIndex_8e157_10 : DD mJ3_checkIndex_8e157 10 (.iload_n 0) 1 11 := ⟨by decide +kernel, rfl⟩
theorem dJ3_checkIndex_8e157_11 : DD mJ3_checkIndex_8e157 11 (.iload_n 1) 1 12 := ⟨by decide +kernel, rfl⟩
theorem dJ3_checkIndex_8e157_12 : DD mJ3_checkIndex_8e157 12 (.invokestatic 95) 3 15 := ⟨by decide +kernel, rfl⟩
theorem dJ3_checkIndex_8e157_15 : DD mJ3_checkIndex_8e157 15 .athrow 1 16 := ⟨by decide +kernel, rfl⟩
theorem dJ3_checkIndex_8e157_16 : DD mJ3_checkIndex_8e157 16 (.iload_n 0) 1 17 := ⟨by decide +kernel, rfl⟩
theorem dJ3_checkIndex_8e157_17 : DD mJ3_checkIndex_8e157 17 .ireturn 1 18 := ⟨by decide +kernel, rfl⟩
theorem dJ0_checkIndex_df160_0 : DD mJ0_checkIndex_df160 0 (.iload_n 0) 1 1 := ⟨by decide +kernel, rfl⟩
theorem dJ0_checkIndex_df160_1 : DD mJ0_checkIndex_df160 1 (.iload_n 1) 1 2 := ⟨by decide +kernel, rfl⟩
theorem dJ0_checkIndex_df160_2 : DD mJ0_checkIndex_df160 2 (.getstatic 1053) 3 5 := ⟨by decide +kernel, rfl⟩
theorem dJ0_checkIndex_df160_5 : DD mJ0_checkIndex_df160 5 (.invokestatic 1059) 3 8 := ⟨by decide +kernel, rfl⟩
theorem dJ0_checkIndex_df160_8 : DD mJ0_checkIndex_df160 8 .pop 1 9 := ⟨by decide +kernel, rfl⟩
theorem dJ0_checkIndex_df160_9 : DD mJ0_checkIndex_df160 9 .return_ 1 10 := ⟨by decide +kernel, rfl⟩
theorem dJ0_coder_7d493_0 : DD mJ0_coder_7d493 0 (.getstatic 38) 3 3 := ⟨by decide +kernel, rfl⟩
theorem dJ0_coder_7d493_3 : DD mJ0_coder_7d493 3 (.ifCond .eq 10) 3 6 := ⟨by decide +kernel, rfl⟩
theorem dJ0_coder_7d493_6 : DD mJ0_coder_7d493 6 (.aload_n 0) 1 7 := ⟨by decide +kernel, rfl⟩
theorem dJ0_coder_7d493_7 : DD mJ0_coder_7d493 7 (.getfield 15) 3 10 := ⟨by decide +kernel, rfl⟩
theorem dJ0_coder_7d493_10 : DD mJ0_coder_7d493 10 (.goto 4) 3 13 := ⟨by decide +kernel, rfl⟩
theorem dJ0_coder_7d493_13 : DD mJ0_coder_7d493 13 (.iconst 1) 1 14 := ⟨by decide +kernel, rfl⟩
theorem dJ0_coder_7d493_14 : DD mJ0_coder_7d493 14 .ireturn 1 15 := ⟨by decide +kernel, rfl⟩
theorem dJ0_isLatin1_aae02_0 : DD mJ0_isLatin1_aae02 0 (.getstatic 38) 3 3 := ⟨by decide +kernel, rfl⟩
theorem dJ0_isLatin1_aae02_3 : DD mJ0_isLatin1_aae02 3 (.ifCond .eq 14) 3 6 := ⟨by decide +kernel, rfl⟩
theorem dJ0_isLatin1_aae02_6 : DD mJ0_isLatin1_aae02 6 (.aload_n 0) 1 7 := ⟨by decide +kernel, rfl⟩
theorem dJ0_isLatin1_aae02_7 : DD mJ0_isLatin1_aae02 7 (.getfield 15) 3 10 := ⟨by decide +kernel, rfl⟩
theorem dJ0_isLatin1_aae02_10 : DD mJ0_isLatin1_aae02 10 (.ifCond .ne 7) 3 13 := ⟨by decide +kernel, rfl⟩
theorem dJ0_isLatin1_aae02_13 : DD mJ0_isLatin1_aae02 13 (.iconst 1) 1 14 := ⟨by decide +kernel, rfl⟩
theorem dJ0_isLatin1_aae02_14 : DD mJ0_isLatin1_aae02 14 (.goto 4) 3 17 := ⟨by decide +kernel, rfl⟩
theorem dJ0_isLatin1_aae02_17 : DD mJ0_isLatin1_aae02 17 (.iconst 0) 1 18 := ⟨by decide +kernel, rfl⟩
theorem dJ0_isLatin1_aae02_18 : DD mJ0_isLatin1_aae02 18 .ireturn 1 19 := ⟨by decide +kernel, rfl⟩
theorem dJ0_length_8abf5_0 : DD mJ0_length_8abf5 0 (.aload_n 0) 1 1 := ⟨by decide +kernel, rfl⟩
theorem dJ0_length_8abf5_1 : DD mJ0_length_8abf5 1 (.getfield 9) 3 4 := ⟨by decide +kernel, rfl⟩
theorem dJ0_length_8abf5_4 : DD mJ0_length_8abf5 4 .arraylength 1 5 := ⟨by decide +kernel, rfl⟩
theorem dJ0_length_8abf5_5 : DD mJ0_length_8abf5 5 (.aload_n 0) 1 6 := ⟨by decide +kernel, rfl⟩
theorem dJ0_length_8abf5_6 : DD mJ0_length_8abf5 6 (.invokevirtual 335) 3 9 := ⟨by decide +kernel, rfl⟩
theorem dJ0_length_8abf5_9 : DD mJ0_length_8abf5 9 .ishr 1 10 := ⟨by decide +kernel, rfl⟩
theorem dJ0_length_8abf5_10 : DD mJ0_length_8abf5 10 .ireturn 1 11 := ⟨by decide +kernel, rfl⟩
theorem dJ1_charAt_3b067_0 : DD mJ1_charAt_3b067 0 (.iload_n 1) 1 1 := ⟨by decide +kernel, rfl⟩
theorem dJ1_charAt_3b067_1 : DD mJ1_charAt_3b067 1 (.aload_n 0) 1 2 := ⟨by decide +kernel, rfl⟩
theorem dJ1_charAt_3b067_2 : DD mJ1_charAt_3b067 2 .arraylength 1 3 := ⟨by decide +kernel, rfl⟩
theorem dJ1_charAt_3b067_3 : DD mJ1_charAt_3b067 3 (.invokestatic 9) 3 6 := ⟨by decide +kernel, rfl⟩
theorem dJ1_charAt_3b067_6 : DD mJ1_charAt_3b067 6 (.aload_n 0) 1 7 := ⟨by decide +kernel, rfl⟩
theorem dJ1_charAt_3b067_7 : DD mJ1_charAt_3b067 7 (.iload_n 1) 1 8 := ⟨by decide +kernel, rfl⟩
theorem dJ1_charAt_3b067_8 : DD mJ1_charAt_3b067 8 .baload 1 9 := ⟨by decide +kernel, rfl⟩
theorem dJ1_charAt_3b067_9 : DD mJ1_charAt_3b067 9 (.sipush 255) 3 12 := ⟨by decide +kernel, rfl⟩
theorem dJ1_charAt_3b067_12 : DD mJ1_charAt_3b067 12 .iand 1 13 := ⟨by decide +kernel, rfl⟩
theorem dJ1_charAt_3b067_13 : DD mJ1_charAt_3b067 13 .i2c 1 14 := ⟨by decide +kernel, rfl⟩
theorem dJ1_charAt_3b067_14 : DD mJ1_charAt_3b067 14 .ireturn 1 15 := ⟨by decide +kernel, rfl⟩
theorem dJ0_charAt_5068e_0 : DD mJ0_charAt_5068e 0 (.aload_n 0) 1 1 := ⟨by decide +kernel, rfl⟩
theorem dJ0_charAt_5068e_1 : DD mJ0_charAt_5068e 1 (.invokevirtual 492) 3 4 := ⟨by decide +kernel, rfl⟩
theorem dJ0_charAt_5068e_4 : DD mJ0_charAt_5068e 4 (.ifCond .eq 12) 3 7 := ⟨by decide +kernel, rfl⟩
theorem dJ0_charAt_5068e_7 : DD mJ0_charAt_5068e 7 (.aload_n 0) 1 8 := ⟨by decide +kernel, rfl⟩
theorem dJ0_charAt_5068e_8 : DD mJ0_charAt_5068e 8 (.getfield 9) 3 11 := ⟨by decide +kernel, rfl⟩
theorem dJ0_charAt_5068e_11 : DD mJ0_charAt_5068e 11 (.iload_n 1) 1 12 := ⟨by decide +kernel, rfl⟩
theorem dJ0_charAt_5068e_12 : DD mJ0_charAt_5068e 12 (.invokestatic 495) 3 15 := ⟨by decide +kernel, rfl⟩
theorem dJ0_charAt_5068e_15 : DD mJ0_charAt_5068e 15 .ireturn 1 16 := ⟨by decide +kernel, rfl⟩
theorem dJ0_charAt_5068e_16 : DD mJ0_charAt_5068e 16 (.aload_n 0) 1 17 := ⟨by decide +kernel, rfl⟩
theorem dJ0_charAt_5068e_17 : DD mJ0_charAt_5068e 17 (.getfield 9) 3 20 := ⟨by decide +kernel, rfl⟩
theorem dJ0_charAt_5068e_20 : DD mJ0_charAt_5068e 20 (.iload_n 1) 1 21 := ⟨by decide +kernel, rfl⟩
theorem dJ0_charAt_5068e_21 : DD mJ0_charAt_5068e 21 (.invokestatic 498) 3 24 := ⟨by decide +kernel, rfl⟩
theorem dJ0_charAt_5068e_24 : DD mJ0_charAt_5068e 24 .ireturn 1 25 := ⟨by decide +kernel, rfl⟩
theorem lb_J3_checkIndex_8e157 : LB mJ3_checkIndex_8e157 3 := ⟨List.mem_filter.mpr ⟨List.mem_append_right _ (tbi1 _ (List.mem_of_getElem? (i := 19) rfl)), rfl⟩, List.mem_filter.mpr ⟨List.mem_append_right _ (tbi3 _ (List.mem_of_getElem? (i := 205) rfl)), rfl⟩, ⟨by decide +kernel, by decide +kernel⟩, by decide +kernel, by decide⟩
theorem lb_J0_checkIndex_df160 : LB mJ0_checkIndex_df160 2 := ⟨List.mem_filter.mpr ⟨List.mem_append_right _ (tbi1 _ (List.mem_of_getElem? (i := 17) rfl)), rfl⟩, List.mem_filter.mpr ⟨List.mem_append_right _ (tbi3 _ (List.mem_of_getElem? (i := 200) rfl)), rfl⟩, ⟨by decide +kernel, by decide +kernel⟩, by decide +kernel, by decide⟩
theorem lb_J0_coder_7d493 : LB mJ0_coder_7d493 0 := ⟨List.mem_filter.mpr ⟨List.mem_append_right _ (tbi1 _ (List.mem_of_getElem? (i := 17) rfl)), rfl⟩, List.mem_filter.mpr ⟨List.mem_append_right _ (tbi3 _ (List.mem_of_getElem? (i := 184) rfl)), rfl⟩, ⟨by decide +kernel, by decide +kernel⟩, by decide +kernel, by decide⟩
theorem lb_J0_isLatin1_aae02 : LB mJ0_isLatin1_aae02 0 := ⟨List.mem_filter.mpr ⟨List.mem_append_right _ (tbi1 _ (List.mem_of_getElem? (i := 17) rfl)), rfl⟩, List.mem_filter.mpr ⟨List.mem_append_right _ (tbi3 _ (List.mem_of_getElem? (i := 194) rfl)), rfl⟩, ⟨by decide +kernel, by decide +kernel⟩, by decide +kernel, by decide⟩
theorem lb_J0_length_8abf5 : LB mJ0_length_8abf5 0 := ⟨List.mem_filter.mpr ⟨List.mem_append_right _ (tbi1 _ (List.mem_of_getElem? (i := 17) rfl)), rfl⟩, List.mem_filter.mpr ⟨List.mem_append_right _ (tbi3 _ (List.mem_of_getElem? (i := 180) rfl)), rfl⟩, ⟨by decide +kernel, by decide +kernel⟩, by decide +kernel, by decide⟩
theorem lb_J1_charAt_3b067 : LB mJ1_charAt_3b067 2 := ⟨List.mem_filter.mpr ⟨List.mem_append_right _ (tbi1 _ (List.mem_of_getElem? (i := 18) rfl)), rfl⟩, List.mem_filter.mpr ⟨List.mem_append_right _ (tbi3 _ (List.mem_of_getElem? (i := 197) rfl)), rfl⟩, ⟨by decide +kernel, by decide +kernel⟩, by decide +kernel, by decide⟩
theorem lb_J0_charAt_5068e : LB mJ0_charAt_5068e 1 := ⟨List.mem_filter.mpr ⟨List.mem_append_right _ (tbi1 _ (List.mem_of_getElem? (i := 17) rfl)), rfl⟩, List.mem_filter.mpr ⟨List.mem_append_right _ (tbi3 _ (List.mem_of_getElem? (i := 190) rfl)), rfl⟩, ⟨by decide +kernel, by decide +kernel⟩, by decide +kernel, by decide⟩
theorem lt_RJ0_1059 : LT RJ0 1059 mJ3_checkIndex_8e157 3 := ⟨lb_J3_checkIndex_8e157, List.mem_filter.mpr ⟨List.mem_append_right _ (tbi3 _ (List.mem_of_getElem? (i := 204) rfl)), rfl⟩, Or.inl (List.mem_filter.mpr ⟨List.mem_append_right _ (tbi3 _ (List.mem_of_getElem? (i := 203) rfl)), rfl⟩)⟩
theorem lg_RJ0_335 : LG RJ0 335 yJ0_coder_7d493 := ⟨List.mem_filter.mpr ⟨List.mem_append_right _ (tbi3 _ (List.mem_of_getElem? (i := 181) rfl)), rfl⟩, List.mem_filter.mpr ⟨List.mem_append_right _ (tbi3 _ (List.mem_of_getElem? (i := 182) rfl)), rfl⟩, List.mem_filter.mpr ⟨List.mem_append_right _ (tbi3 _ (List.mem_of_getElem? (i := 183) rfl)), rfl⟩⟩
theorem lt_RJ1_9 : LT RJ1 9 mJ0_checkIndex_df160 2 := ⟨lb_J0_checkIndex_df160, List.mem_filter.mpr ⟨List.mem_append_right _ (tbi3 _ (List.mem_of_getElem? (i := 199) rfl)), rfl⟩, Or.inl (List.mem_filter.mpr ⟨List.mem_append_right _ (tbi3 _ (List.mem_of_getElem? (i := 198) rfl)), rfl⟩)⟩
theorem lg_RJ0_492 : LG RJ0 492 yJ0_isLatin1_aae02 := ⟨List.mem_filter.mpr ⟨List.mem_append_right _ (tbi3 _ (List.mem_of_getElem? (i := 191) rfl)), rfl⟩, List.mem_filter.mpr ⟨List.mem_append_right _ (tbi3 _ (List.mem_of_getElem? (i := 192) rfl)), rfl⟩, List.mem_filter.mpr ⟨List.mem_append_right _ (tbi3 _ (List.mem_of_getElem? (i := 193) rfl)), rfl⟩⟩
theorem lt_RJ0_495 : LT RJ0 495 mJ1_charAt_3b067 2 := ⟨lb_J1_charAt_3b067, List.mem_filter.mpr ⟨List.mem_append_right _ (tbi3 _ (List.mem_of_getElem? (i := 196) rfl)), rfl⟩, Or.inl (List.mem_filter.mpr ⟨List.mem_append_right _ (tbi3 _ (List.mem_of_getElem? (i := 195) rfl)), rfl⟩)⟩
theorem fs_value : Cond.fieldLink RJ0 9 "java/lang/String" "value" "[B" ∈ lw_good := List.mem_filter.mpr ⟨List.mem_append_right _ (tbi8 _ (List.mem_of_getElem? (i := 192) rfl)), rfl⟩
theorem fs_coder : Cond.fieldLink RJ0 15 "java/lang/String" "coder" "B" ∈ lw_good := List.mem_filter.mpr ⟨List.mem_append_right _ (tbi8 _ (List.mem_of_getElem? (i := 193) rfl)), rfl⟩
theorem fs_compact : Cond.fieldLink RJ0 38 "java/lang/String" "COMPACT_STRINGS" "Z" ∈ lw_good := List.mem_filter.mpr ⟨List.mem_append_right _ (tbi3 _ (List.mem_of_getElem? (i := 185) rfl)), rfl⟩
theorem fs_fmt : Cond.fieldLink RJ0 1053 "jdk/internal/util/Preconditions" "SIOOBE_FORMATTER" "Ljava/util/function/BiFunction;" ∈ lw_good := List.mem_filter.mpr ⟨List.mem_append_right _ (tbi3 _ (List.mem_of_getElem? (i := 201) rfl)), rfl⟩
theorem pn_RJ0 : plainName RJ0 = true := by decide +kernel
theorem pn_RJ1 : plainName RJ1 = true := by decide +kernel
theorem pn_RJ3 : plainName RJ3 = true := by decide +kernel
theorem SLN_lt : ∀ j, j < NS → SLN.getD j 0 < 65536 := by decide +kernel
theorem SBY_ok : ∀ j, j < NS → ∀ i, i < SLN.getD j 0 → ((((SBY.getD j []).getD i 0 &&& 255).toUInt32 % 65536).toInt32 = (SBY.getD j []).getD i 0 ∧ narrow .char (.int ((SBY.getD j []).getD i 0)) = .int ((SBY.getD j []).getD i 0)) := by decide +kernel
section EGT2
variable {τ : Type} {Γ : Cx} {M : Mi} {pc npc : Nat} {lv lv' : List (Nat × Value)} {st st0 : List Value} {h : Hp} {t t1 t2 : Option τ} {K : τ → Prop}
theorem x_gscomp (hO : Ok Γ M) (hM : M.1.cls = RJ0) (d : DD M pc (.getstatic 38) 3 npc) (kk : EG Γ M npc lv (.int 1 :: st) h t K) : EG Γ M pc lv st h t K := by
  obtain ⟨p, e, R, s, m, args, below, meth, c, cells, slots, Z, G, tg⟩ := Γ
  obtain ⟨hx, hb, hml, hown, hts, hTF, hSF, hR, hret⟩ := hO
  obtain ⟨d, rfl⟩ := d
  intro z hz hk H locs ls hH hS hl
  rw [hM] at hown
  exact va_gets hx hb hSF.2.1 hS hown (hts _ fs_compact) (fun _ q => q) d (kk z hz hk H locs ls hH hS hl)
theorem x_gsfmt (hO : Ok Γ M) (hM : M.1.cls = RJ0) (d : DD M pc (.getstatic 1053) 3 npc) (kk : ∀ v : Value, v = .null ∨ (∃ a, v = .ref a) → EG Γ M npc lv (v :: st) h t K) : EG Γ M pc lv st h t K := by
  obtain ⟨p, e, R, s, m, args, below, meth, c, cells, slots, Z, G, tg⟩ := Γ
  obtain ⟨hx, hb, hml, hown, hts, hTF, hSF, hR, hret⟩ := hO
  obtain ⟨d, rfl⟩ := d
  intro z hz hk H locs ls hH hS hl
  rw [hM] at hown
  rcases hSF.2.2 with q | ⟨a, q⟩
  · exact va_gets hx hb q hS hown (hts _ fs_fmt) (fun _ q => q) d (kk .null (Or.inl rfl) z hz hk H locs ls hH hS hl)
  · exact va_gets hx hb q hS hown (hts _ fs_fmt) (fun _ q => q) d (kk (.ref a) (Or.inr ⟨a, rfl⟩) z hz hk H locs ls hH hS hl)
theorem x_gsval (hO : Ok Γ M) (hM : M.1.cls = RJ0) {j : Nat} (hj : j < NS) (d : DD M pc (.getfield 9) 3 npc) (kk : EG Γ M npc lv (.ref (gv (cG Γ) j) :: st) h t K) : EG Γ M pc lv (.ref (gk (cG Γ) j) :: st) h t K := by
  obtain ⟨p, e, R, s, m, args, below, meth, c, cells, slots, Z, G, tg⟩ := Γ
  obtain ⟨hx, hb, hml, hown, hts, hTF, hSF, hR, hret⟩ := hO
  obtain ⟨d, rfl⟩ := d
  intro z hz hk H locs ls hH hS hl
  rw [hM] at hown
  exact vk_getf hx hb (hSF.1.1 j hj).2.2.1 hS hown (hts _ fs_value) (fun _ q => q) d (kk z hz hk H locs ls hH hS hl)
theorem x_gscod (hO : Ok Γ M) (hM : M.1.cls = RJ0) {j : Nat} (hj : j < NS) (d : DD M pc (.getfield 15) 3 npc) (kk : EG Γ M npc lv (.int 0 :: st) h t K) : EG Γ M pc lv (.ref (gk (cG Γ) j) :: st) h t K := by
  obtain ⟨p, e, R, s, m, args, below, meth, c, cells, slots, Z, G, tg⟩ := Γ
  obtain ⟨hx, hb, hml, hown, hts, hTF, hSF, hR, hret⟩ := hO
  obtain ⟨d, rfl⟩ := d
  intro z hz hk H locs ls hH hS hl
  rw [hM] at hown
  exact vk_getf hx hb (hSF.1.1 j hj).2.1 hS hown (hts _ fs_coder) (fun _ q => q) d (kk z hz hk H locs ls hH hS hl)
theorem x_gslen (hO : Ok Γ M) {j : Nat} (hj : j < NS) (d : DD M pc .arraylength 1 npc) (kk : EG Γ M npc lv (.int (nI (SLN.getD j 0)) :: st) h t K) : EG Γ M pc lv (.ref (gv (cG Γ) j) :: st) h t K := by
  obtain ⟨p, e, R, s, m, args, below, meth, c, cells, slots, Z, G, tg⟩ := Γ
  obtain ⟨hx, hb, hml, hown, hts, hTF, hSF, hR, hret⟩ := hO
  obtain ⟨d, rfl⟩ := d
  intro z hz hk H locs ls hH hS hl
  exact va_tlen hx hb (hSF.1.1 j hj).2.2.2 hS rfl d (kk z hz hk H locs ls hH hS hl)
theorem x_gsld (hO : Ok Γ M) {j : Nat} {i : Int32} (hj : j < NS) (hi : ib i (SLN.getD j 0) = true) (d : DD M pc .baload 1 npc) (kk : EG Γ M npc lv (.int ((SBY.getD j []).getD (nx i) 0) :: st) h t K) : EG Γ M pc lv (.int i :: .ref (gv (cG Γ) j) :: st) h t K := by
  obtain ⟨p, e, R, s, m, args, below, meth, c, cells, slots, Z, G, tg⟩ := Γ
  obtain ⟨hx, hb, hml, hown, hts, hTF, hSF, hR, hret⟩ := hO
  obtain ⟨d, rfl⟩ := d
  intro z hz hk H locs ls hH hS hl
  exact va_tb hx hb (hSF.1.1 j hj).2.2.2 hS (ib_in hi) rfl d (kk z hz hk H locs ls hH hS hl)
/-- a call on a String constant -/
theorem x_callG (hO : Ok Γ M) {My : Mi} {i n j : Nat} (lb : LB My n) (hcls : My.1.cls = "java/lang/String") (lg : LG M.1.cls i My.1) (hj : j < NS) {As : List Value} (hn : As.length = n) (hh : My.2.2.2.2 + 1 ≤ M.2.2.2.2) {o : Option (Hp × Option Value)} (hm : CN (cG Γ) My (.ref (gk (cG Γ) j) :: As) h o) (d : DD M pc (.invokevirtual i) 3 npc) (hst : st0 = As.reverse ++ .ref (gk (cG Γ) j) :: st) (hr : (st.map fun v => v.category).sum ≤ 8) : Call Γ M pc npc lv st0 st h o := by
  obtain ⟨p, e, R, s, m, args, below, meth, c, cells, slots, Z, G, tg⟩ := Γ
  obtain ⟨hx, hb, hml, hown, hts, hTF, hSF, ⟨hR1, hR2, hR3, hR4⟩, hret⟩ := hO
  obtain ⟨d, rfl⟩ := d
  subst hst
  intro x ho kk H locs ls hH hS hl
  have hM := hm x ho
  have hlo : 8 + (My.2.2.1 + 11) + (rmd My.2.2.2.2).locals ≤ R.locals := by
    have := lb.2.2.2.2
    show 8 + (My.2.2.1 + 11) + 37 * My.2.2.2.2 ≤ R.locals
    omega
  have hfr : (rmd My.2.2.2.2).frames + 1 ≤ R.frames := Nat.le_trans hh hR1
  have hws := pay_in hts (good_ok (code_ok lb))
  have hp : PreV s H "java/lang/String" (gk G j) (va_Pc (.ref (gk G j) :: As) (ST G h)) As := ⟨ST.blind, vk_recv hSF.1 hj hS, fun U hU hW => ⟨rfl, pre_of hH hTF hSF hS hU hW⟩⟩
  exact w_after (va_runV (Ts := lw_good) (own := M.1.cls) (C := "java/lang/String") (bytes := My.2.1) (maxL := My.2.2.1) (ret := My.2.2.2.1) (As := As) (rest := st) ⟨hx, hb, hml, hown, hts⟩ hM ⟨⟨rfl, rfl, hfr, hlo, hws, List.mem_cons_self, hts _ lb.2.1, hts _ lb.1, lb.2.2.1, lb_n lb, hts _ lg.1⟩, hts _ lg.2.1, hts _ lg.2.2⟩ hp rfl hn hl.1 rfl (lv_room hr) d ⟨hR3, hR4⟩) hS (fun H1 l1' hH1 hS1 => kk H1 l1' ls hH1 hS1 hl)
theorem y_one {x : Hp × Option Value} (hc : Call Γ M pc npc lv st0 st h (some x)) (k : EG Γ M npc lv (x.2.toList ++ st) x.1 t K) : EG Γ M pc lv st0 h t K := fun z hz hk => hc x rfl (k z hz hk)
end EGT2
theorem ok_coder (G : Gl) (h : Hp) (j : Nat) (hj : j < NS) : CN G mJ0_coder_7d493 [.ref (gk G j)] h (some (h, some (.int 0))) := CN.of pn_RJ0 (Nat.le_of_ble_eq_true rfl) (fun Γ hG hO => by
  subst hG
  refine x_gscomp hO rfl dJ0_coder_7d493_0 ?_
  have e : some (h, some (Value.int 0)) = if (1 : Int32) = 0 then none else some (h, some (Value.int 0)) := by rw [if_neg (by decide)]
  rw [e]
  refine x_if_eq hO (tg := 13) dJ0_coder_7d493_3 (by decide) x_none ?_
  refine x_aload_n hO 0 rfl rfl dJ0_coder_7d493_6 ?_
  refine x_gscod hO rfl hj dJ0_coder_7d493_7 ?_
  refine x_goto hO (tg := 14) dJ0_coder_7d493_10 (by decide) ?_
  exact x_nret hO rfl (by decide) dJ0_coder_7d493_14 id)
theorem ok_isLatin1 (G : Gl) (h : Hp) (j : Nat) (hj : j < NS) : CN G mJ0_isLatin1_aae02 [.ref (gk G j)] h (some (h, some (.int 1))) := CN.of pn_RJ0 (Nat.le_of_ble_eq_true rfl) (fun Γ hG hO => by
  subst hG
  refine x_gscomp hO rfl dJ0_isLatin1_aae02_0 ?_
  have e : some (h, some (Value.int 1)) = if (1 : Int32) = 0 then none else (if (0 : Int32) = 0 then some (h, some (Value.int 1)) else none) := by rw [if_neg (by decide), if_pos rfl]
  rw [e]
  refine x_if_eq hO (tg := 17) dJ0_isLatin1_aae02_3 (by decide) x_none ?_
  refine x_aload_n hO 0 rfl rfl dJ0_isLatin1_aae02_6 ?_
  refine x_gscod hO rfl hj dJ0_isLatin1_aae02_7 ?_
  refine x_if_ne hO (tg := 17) dJ0_isLatin1_aae02_10 (by decide) x_none ?_
  refine x_iconst hO (v := 1) (by decide) dJ0_isLatin1_aae02_13 ?_
  refine x_goto hO (tg := 18) dJ0_isLatin1_aae02_14 (by decide) ?_
  exact x_zretv hO rfl (by decide) dJ0_isLatin1_aae02_18 id)
theorem ok_length (G : Gl) (h : Hp) (j : Nat) (hj : j < NS) : CN G mJ0_length_8abf5 [.ref (gk G j)] h (some (h, some (.int (nI (SLN.getD j 0))))) := CN.of pn_RJ0 (Nat.le_of_ble_eq_true rfl) (fun Γ hG hO => by
  subst hG
  refine x_aload_n hO 0 rfl rfl dJ0_length_8abf5_0 ?_
  refine x_gsval hO rfl hj dJ0_length_8abf5_1 ?_
  refine x_gslen hO hj dJ0_length_8abf5_4 ?_
  refine x_aload_n hO 0 rfl rfl dJ0_length_8abf5_5 ?_
  refine y_one (x_callG hO lb_J0_coder_7d493 rfl lg_RJ0_335 hj (As := []) rfl (Nat.le_of_ble_eq_true rfl) (ok_coder (cG Γ) h j hj) dJ0_length_8abf5_6 rfl (Nat.le_of_ble_eq_true rfl)) ?_
  refine x_ishr hO dJ0_length_8abf5_9 ?_
  rw [sc_shr0 (Nat.lt_trans (SLN_lt j hj) (by decide))]
  exact x_iret hO rfl dJ0_length_8abf5_10 id)
theorem ok_pcheck (G : Gl) (h : Hp) (i n : Int32) (v : Value) (hv : v = .null ∨ ∃ a, v = .ref a) (h0 : ¬ i < 0) (h1 : i < n) : CN G mJ3_checkIndex_8e157 [.int i, .int n, v] h (some (h, some (.int i))) := CN.of pn_RJ3 (by rcases hv with rfl | ⟨a, rfl⟩ <;> exact Nat.le_of_ble_eq_true rfl) (fun Γ hG hO => by
  subst hG
  have key : EG Γ mJ3_checkIndex_8e157 0 [(0, .int i), (1, .int n)] [] h (some (h, some (Value.int i))) (fun x => x = tgt Γ) := by
    have e : some (h, some (Value.int i)) = if i < 0 then none else (if i < n then some (h, some (Value.int i)) else none) := by rw [if_neg h0, if_pos h1]
    rw [e]
    refine x_iload_n hO 0 rfl rfl dJ3_checkIndex_8e157_0 ?_
    refine x_if_lt hO (tg := 9) dJ3_checkIndex_8e157_1 (by decide) x_none ?_
    refine x_iload_n hO 0 rfl rfl dJ3_checkIndex_8e157_4 ?_
    refine x_iload_n hO 1 rfl rfl dJ3_checkIndex_8e157_5 ?_
    refine x_icmp_lt hO (tg := 16) dJ3_checkIndex_8e157_6 (by decide) ?_ x_none
    refine x_iload_n hO 0 rfl rfl dJ3_checkIndex_8e157_16 ?_
    exact x_iret hO rfl dJ3_checkIndex_8e157_17 id
  exact x_sub [0, 1] rfl key)
theorem ok_scheck (G : Gl) (h : Hp) (i n : Int32) (h0 : ¬ i < 0) (h1 : i < n) : CN G mJ0_checkIndex_df160 [.int i, .int n] h (some (h, none)) := CN.of pn_RJ0 (Nat.le_of_ble_eq_true rfl) (fun Γ hG hO => by
  subst hG
  refine x_iload_n hO 0 rfl rfl dJ0_checkIndex_df160_0 ?_
  refine x_iload_n hO 1 rfl rfl dJ0_checkIndex_df160_1 ?_
  refine x_gsfmt hO rfl dJ0_checkIndex_df160_2 (fun v hv => ?_)
  refine y_one (x_callS hO lt_RJ0_1059 (As := [.int i, .int n, v]) rfl (Nat.le_of_ble_eq_true rfl) (ok_pcheck (cG Γ) h i n v hv h0 h1) dJ0_checkIndex_df160_5 rfl (Nat.le_of_ble_eq_true rfl)) ?_
  refine x_pop_i hO dJ0_checkIndex_df160_8 ?_
  exact x_vret hO rfl dJ0_checkIndex_df160_9 id)
theorem ok_lchar (G : Gl) (h : Hp) (j : Nat) (hj : j < NS) (i : Int32) (hi : ib i (SLN.getD j 0) = true) : CN G mJ1_charAt_3b067 [.ref (gv G j), .int i] h (some (h, some (.int ((SBY.getD j []).getD (nx i) 0)))) := CN.of pn_RJ1 (Nat.le_of_ble_eq_true rfl) (fun Γ hG hO => by
  subst hG
  have hin := ib_in hi
  have h0 : ¬ i < 0 := fun q => hin (Or.inl q)
  have hlt : nx i < SLN.getD j 0 := Nat.not_le.mp fun q => hin (Or.inr q)
  have h1 : i < nI (SLN.getD j 0) := by
    obtain ⟨k, hk, rfl⟩ := vp_in_of hin (Nat.lt_trans (SLN_lt j hj) (by decide))
    exact nI_lt hk (Nat.lt_trans (SLN_lt j hj) (by decide))
  obtain ⟨e1, e2⟩ := SBY_ok j hj (nx i) hlt
  refine x_iload_n hO 1 rfl rfl dJ1_charAt_3b067_0 ?_
  refine x_aload_n hO 0 rfl rfl dJ1_charAt_3b067_1 ?_
  refine x_gslen hO hj dJ1_charAt_3b067_2 ?_
  refine y_one (x_callS hO lt_RJ1_9 (As := [.int i, .int (nI (SLN.getD j 0))]) rfl (Nat.le_of_ble_eq_true rfl) (ok_scheck (cG Γ) h i _ h0 h1) dJ1_charAt_3b067_3 rfl (Nat.le_of_ble_eq_true rfl)) ?_
  refine x_aload_n hO 0 rfl rfl dJ1_charAt_3b067_6 ?_
  refine x_iload_n hO 1 rfl rfl dJ1_charAt_3b067_7 ?_
  refine x_gsld hO hj hi dJ1_charAt_3b067_8 ?_
  refine x_sipush hO (v := 255) (by decide) dJ1_charAt_3b067_9 ?_
  refine x_iand hO dJ1_charAt_3b067_12 ?_
  refine x_i2c hO dJ1_charAt_3b067_13 ?_
  rw [e1]
  exact x_nret hO rfl e2 dJ1_charAt_3b067_14 id)
theorem ok_charAt (G : Gl) (h : Hp) (j : Nat) (hj : j < NS) (i : Int32) (hi : ib i (SLN.getD j 0) = true) : CN G mJ0_charAt_5068e [.ref (gk G j), .int i] h (some (h, some (.int ((SBY.getD j []).getD (nx i) 0)))) := CN.of pn_RJ0 (Nat.le_of_ble_eq_true rfl) (fun Γ hG hO => by
  subst hG
  have hin := ib_in hi
  have hlt : nx i < SLN.getD j 0 := Nat.not_le.mp fun q => hin (Or.inr q)
  obtain ⟨e1, e2⟩ := SBY_ok j hj (nx i) hlt
  refine x_aload_n hO 0 rfl rfl dJ0_charAt_5068e_0 ?_
  refine y_one (x_callG hO lb_J0_isLatin1_aae02 rfl lg_RJ0_492 hj (As := []) rfl (Nat.le_of_ble_eq_true rfl) (ok_isLatin1 (cG Γ) h j hj) dJ0_charAt_5068e_1 rfl (Nat.le_of_ble_eq_true rfl)) ?_
  have e : some (h, some (Value.int ((SBY.getD j []).getD (nx i) 0))) = if (1 : Int32) = 0 then none else some (h, some (Value.int ((SBY.getD j []).getD (nx i) 0))) := by rw [if_neg (by decide)]
  rw [e]
  refine x_if_eq hO (tg := 16) dJ0_charAt_5068e_4 (by decide) x_none ?_
  refine x_aload_n hO 0 rfl rfl dJ0_charAt_5068e_7 ?_
  refine x_gsval hO rfl hj dJ0_charAt_5068e_8 ?_
  refine x_iload_n hO 1 rfl rfl dJ0_charAt_5068e_11 ?_
  refine y_one (x_callS hO lt_RJ0_495 (As := [.ref (gv (cG Γ) j), .int i]) rfl (Nat.le_of_ble_eq_true rfl) (ok_lchar (cG Γ) h j hj i hi) dJ0_charAt_5068e_12 rfl (Nat.le_of_ble_eq_true rfl)) ?_
  exact x_nret hO rfl e2 dJ0_charAt_5068e_15 id)
section EGT3
variable {τ : Type} {Γ : Cx} {M : Mi} {pc npc : Nat} {lv lv' : List (Nat × Value)} {st : List Value} {h : Hp} {t t1 t2 : Option τ} {K : τ → Prop}
theorem x_slen (hO : Ok Γ M) {j i : Nat} (ls : LG M.1.cls i yJ0_length_8abf5) (hh : 2 ≤ M.2.2.2.2) (hj : j < NS) (d : DD M pc (.invokevirtual i) 3 npc) (hr : (st.map fun v => v.category).sum ≤ 8) (kk : EG Γ M npc lv (.int (nI (SLN.getD j 0)) :: st) h t K) : EG Γ M pc lv (sf Γ j :: st) h t K :=
  y_one (x_callG hO lb_J0_length_8abf5 rfl ls hj (As := []) rfl hh (ok_length (cG Γ) h j hj) d rfl hr) kk
theorem x_schr (hO : Ok Γ M) {j i : Nat} {x : Int32} (ls : LG M.1.cls i yJ0_charAt_5068e) (hh : 5 ≤ M.2.2.2.2) (hj : j < NS) (d : DD M pc (.invokevirtual i) 3 npc) (hr : (st.map fun v => v.category).sum ≤ 8) (kk : EG Γ M npc lv (.int ((SBY.getD j []).getD (nx x) 0) :: st) h t K) : EG Γ M pc lv (.int x :: sf Γ j :: st) h (gd (ib x (SLN.getD j 0)) t) K := fun z hz hk => by
  obtain ⟨h1, h2⟩ := gd_t hz
  exact y_one (x_callG hO lb_J0_charAt_5068e rfl ls hj (As := [.int x]) rfl hh (ok_charAt (cG Γ) h j hj x h1) d rfl hr) kk z h2 hk
end EGT3
