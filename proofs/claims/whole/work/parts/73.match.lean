/-! ===== matched ===== -/
def exB (P : Nat → Bool) : Nat → Bool
  | 0 => false
  | n + 1 => exB P n || P n
theorem exB_iff {P : Nat → Bool} : ∀ n, exB P n = true ↔ ∃ j, j < n ∧ P j = true := by
  intro n
  induction n with
  | zero => exact ⟨fun h => absurd h Bool.false_ne_true, fun ⟨j, hj, _⟩ => (by omega)⟩
  | succ n ih =>
    show (exB P n || P n) = true ↔ _
    rw [Bool.or_eq_true, ih]
    constructor
    · rintro (⟨j, hj, e⟩ | e)
      · exact ⟨j, by omega, e⟩
      · exact ⟨n, by omega, e⟩
    · rintro ⟨j, hj, e⟩
      by_cases c : j = n
      · exact Or.inr (c ▸ e)
      · exact Or.inl ⟨j, by omega, e⟩
theorem exB_f {P : Nat → Bool} {n : Nat} (h : ∀ j, j < n → P j = false) : exB P n = false := by
  cases e : exB P n with
  | false => rfl
  | true =>
    obtain ⟨j, hj, e2⟩ := (exB_iff n).mp e
    rw [h j hj] at e2
    cases e2
theorem fst1_exB {P : Nat → Bool} {ρ : Type} (z y : ρ) : ∀ n, (fst1 P n 0).elim z (fun _ => y) = if exB P n then y else z := by
  intro n
  induction n with
  | zero => rfl
  | succ n ih =>
    rw [fst1_snoc, Nat.zero_add]
    show _ = if (exB P n || P n) = true then y else z
    cases e : fst1 P n 0 with
    | none =>
      rw [e] at ih
      have : exB P n = false := by
        cases e2 : exB P n with
        | false => rfl
        | true =>
          obtain ⟨j, hj, e3⟩ := (exB_iff n).mp e2
          exfalso
          have : ∀ m a, fst1 P m a = none → ∀ j, a ≤ j → j < a + m → P j = false := by
            intro m
            induction m with
            | zero => intro a _ j h1 h2; omega
            | succ m ihm =>
              intro a h j h1 h2
              unfold fst1 at h
              by_cases c : P a = true
              · rw [if_pos c] at h; cases h
              · rw [if_neg c] at h
                by_cases cj : j = a
                · subst cj; exact Bool.eq_false_iff.mpr c
                · exact ihm (a + 1) h j (by omega) (by omega)
          rw [this n 0 e j (by omega) (by omega)] at e3
          cases e3
      rw [this]
      cases P n <;> rfl
    | some j =>
      have := fst1_lt _ _ _ e
      have e2 : exB P n = true := (exB_iff n).mpr ⟨j, by omega, this.2.2⟩
      rw [e2]
      rfl
/-- card i has this ink and this number -/
def hasB (A : Ho) (a b : Nat) (k : Int32) (v : Nat) (i : Nat) : Bool := decide (oK A i = k ∧ fld A i a b = some v)
theorem oI_nI {o : Option Nat} {v : Nat} (h : ∀ w, o = some w → w < 1000000) (hv : v < 1000000) : (oI o = nI v) = (o = some v) := by
  cases o with
  | none => exact propext ⟨fun e => absurd e.symm (nI_m1 (by omega)), fun e => by cases e⟩
  | some w =>
    have := h w rfl
    rw [oI_some, nEq (by omega) (by omega), Option.some.injEq]
theorem oI_m {o : Option Nat} (h : ∀ w, o = some w → w < 1000000) : (oI o = mN) = (o = none) := by
  cases o with
  | none => exact propext ⟨fun _ => rfl, fun _ => rfl⟩
  | some w =>
    have := h w rfl
    exact propext ⟨fun e => absurd e (nI_m1 (by omega)), fun e => by cases e⟩
theorem c_hasNumber {h : Hp} {A : Ho} {q n v a b : Nat} {k : Int32} (ok : HoOk q A) (rc : RcH h 3 A) (hn : n ≤ oN A) (hv : v < 1000000) (hab : a ≤ b) (hb : b < 8) (h6 : b < a + 6) : F_X2_hasNumber h 3 k (nI v) (nI a) (nI b) (nI n) = some (if exB (hasB A a b k v) n then nI 1 else nI 0) := by
  have hA := ok.1
  rw [← fst1_exB]
  refine iterW_fst (fun j => nI j) (hasB A a b k v) (fun _ => nI 1) (nI 0) n 0 (fun j _ hj => ?_) ?_
  · show B_X2_hasNumber_3 _ _ _ _ _ _ _ _ = _
    unfold B_X2_hasNumber_3
    have hl : ∀ w, fld A j a b = some w → w < 1000000 := fun w => fld_lt h6
    simp (disch := omega) only [↓m1_n, li_n, li_0, li_1, lt_y, lt_n, le_y, le_n, eq_n, nL, nLe, nEq, nEm, mEn, nLm, mLn, nLem, mLen, nI_add, nI_mul, nI_sub, nI_m, ib_nI, nx_nI, gd_tt, bnd_eq, Option.bind_some, ↓reduceIte, hI_uI_o, hI_uI_s, hI_uI_e, hL_uI, hI_uL, hL_uL_o, hL_uL_s, hL_uL_e, and1_a, and1_b, Bool.not_true, Bool.not_false, Nat.zero_add, Nat.add_zero, Nat.add_sub_cancel, eq_self, ne_b, g0_0, g0_1, g0_2, g0_3, g0_4, g0_5, g0_6, g0_7, g0_8, g0_9, n1, n2, g3_2, g3_3, g3_4, g3_5, g3_6, g3_7, g3_8, g3_9, n4, n5, n6, n7, n8, n9, g10_2, g10_3, g10_4, g10_5, n11, n12, n13, n14, g15_2, g15_3, g15_4, g15_5, n16, n17, n18, n19, g40_0, g40_1, g40_2, g44_0, g44_2, g44_3, g44_5, g44_6, g44_10, g51_3, g51_4, g51_5, g51_6, g51_7, g57_3, g57_4, g57_5, g57_6, g57_7, n120, n121, g122_0, g122_4, g122_5, g122_6, g122_7, g122_8, g122_18, g122_19, g122_20, g122_21, g122_24, g122_25, g122_28, g122_29, g122_31, g122_32, g122_33, g122_39, g122_40, g122_41, g122_45, g122_46, g122_47, g122_48, n123, n124, n125, n126, n127, n128, n129, n130, n131, n132, n133, n134, n135, n136, n137, n138, n139, n140, n141, n142, n143, n144, n145, n146, cIn rc, c_fieldOf ok rc, oI_nI hl hv]
    by_cases e : oK A j = k <;> by_cases e' : fld A j a b = some v <;> simp [hasB, e, e']
  · show B_X2_hasNumber_3 _ _ _ _ _ _ _ _ = _
    unfold B_X2_hasNumber_3
    simp (disch := omega) only [↓m1_n, li_n, li_0, li_1, lt_y, lt_n, le_y, le_n, eq_n, nL, nLe, nEq, nEm, mEn, nLm, mLn, nLem, mLen, nI_add, nI_mul, nI_sub, nI_m, ib_nI, nx_nI, gd_tt, bnd_eq, Option.bind_some, ↓reduceIte, hI_uI_o, hI_uI_s, hI_uI_e, hL_uI, hI_uL, hL_uL_o, hL_uL_s, hL_uL_e, and1_a, and1_b, Bool.not_true, Bool.not_false, Nat.zero_add, Nat.add_zero, Nat.add_sub_cancel, eq_self, ne_b, g0_0, g0_1, g0_2, g0_3, g0_4, g0_5, g0_6, g0_7, g0_8, g0_9, n1, n2, g3_2, g3_3, g3_4, g3_5, g3_6, g3_7, g3_8, g3_9, n4, n5, n6, n7, n8, n9, g10_2, g10_3, g10_4, g10_5, n11, n12, n13, n14, g15_2, g15_3, g15_4, g15_5, n16, n17, n18, n19, g40_0, g40_1, g40_2, g44_0, g44_2, g44_3, g44_5, g44_6, g44_10, g51_3, g51_4, g51_5, g51_6, g51_7, g57_3, g57_4, g57_5, g57_6, g57_7, n120, n121, g122_0, g122_4, g122_5, g122_6, g122_7, g122_8, g122_18, g122_19, g122_20, g122_21, g122_24, g122_25, g122_28, g122_29, g122_31, g122_32, g122_33, g122_39, g122_40, g122_41, g122_45, g122_46, g122_47, g122_48, n123, n124, n125, n126, n127, n128, n129, n130, n131, n132, n133, n134, n135, n136, n137, n138, n139, n140, n141, n142, n143, n144, n145, n146]
/-- a card that is the first with its number, and that number has Q -/
def newB (P : Nat → Bool) (f : Nat → Option Nat) (Q : Nat → Bool) (c : Nat) : Bool := P c && ((f c).elim false (fun v => Q v && !exB (fun d => P d && decide (f d = some v)) c))
theorem cnt_new {P : Nat → Bool} {f : Nat → Option Nat} {Q : Nat → Bool} {N : Nat} : ∀ n, (∀ c, c < n → ∀ v, f c = some v → v < N) → cnt (newB P f Q) n = cnt (fun v => Q v && exB (fun d => P d && decide (f d = some v)) n) N := by
  intro n
  induction n with
  | zero =>
    intro _
    have : ∀ N, cnt (fun v => Q v && exB (fun d => P d && decide (f d = some v)) 0) N = 0 := by
      intro N
      induction N with
      | zero => rfl
      | succ N ih =>
        rw [cnt, ih]
        simp [exB]
    rw [this]
    rfl
  | succ n ih =>
    intro hf
    rw [cnt, ih (fun c hc => hf c (by omega))]
    have same : (∀ v, v < N → (Q v && exB (fun d => P d && decide (f d = some v)) (n + 1)) = (Q v && exB (fun d => P d && decide (f d = some v)) n)) → newB P f Q n = false → cnt (fun v => Q v && exB (fun d => P d && decide (f d = some v)) n) N + (if newB P f Q n = true then 1 else 0) = cnt (fun v => Q v && exB (fun d => P d && decide (f d = some v)) (n + 1)) N := by
      intro h1 h2
      rw [h2, cnt_congr N (fun v hv => (h1 v hv).symm)]
      simp
    by_cases hP : P n = true
    · cases hfn : f n with
      | none =>
        refine same (fun v _ => ?_) ?_
        · simp [exB, hfn]
        · simp [newB, hfn]
      | some w =>
        have hw := hf n (by omega) w hfn
        by_cases hQ : Q w = true
        · by_cases hE : exB (fun d => P d && decide (f d = some w)) n = true
          · refine same (fun v _ => ?_) ?_
            · by_cases ev : w = v
              · subst ev
                simp [exB, hE]
              · simp [exB, hfn, ev]
            · simp [newB, hfn, hE]
          · have hE' : exB (fun d => P d && decide (f d = some w)) n = false := Bool.eq_false_iff.mpr hE
            have hT : (fun v => Q v && exB (fun d => P d && decide (f d = some v)) (n + 1)) w = true := by simp [exB, hQ, hP, hfn]
            rw [cnt_out (P := fun v => Q v && exB (fun d => P d && decide (f d = some v)) (n + 1)) hT N, if_pos hw]
            have : newB P f Q n = true := by simp [newB, hP, hfn, hQ, hE']
            rw [this, if_pos rfl, Nat.add_right_cancel_iff]
            refine cnt_congr N (fun v hv => ?_)
            by_cases ev : v = w
            · subst ev
              simp [hE']
            · have ev' : ¬ w = v := fun e => ev e.symm
              simp [exB, hfn, ev, ev']
        · have hQ' : Q w = false := Bool.eq_false_iff.mpr hQ
          refine same (fun v _ => ?_) ?_
          · by_cases ev : w = v
            · subst ev
              simp [hQ']
            · simp [exB, hfn, ev]
          · simp [newB, hfn, hQ']
    · have hP' : P n = false := Bool.eq_false_iff.mpr hP
      refine same (fun v _ => ?_) ?_
      · simp [exB, hP']
      · simp [newB, hP']
def inkB (A : Ho) (k : Int32) (i : Nat) : Bool := decide (oK A i = k)
def bI (b : Bool) : Int32 := if b then nI 1 else nI 0
theorem hasB_eq (A : Ho) (a b : Nat) (k : Int32) (v : Nat) : hasB A a b k v = fun d => inkB A k d && decide (fld A d a b = some v) := by
  funext i
  simp [hasB, inkB]
theorem c_matchedL {h : Hp} {A : Ho} {q a b : Nat} {k : Int32} (ok : HoOk q A) (rc : RcH h 3 A) (hab : a ≤ b) (hb : b < 8) (h6 : b < a + 6) (both : Bool) : L_X2_matchedBy_29 h 3 (nI a) (nI b) k (bI both) (nI 0) (nI 0) = some (nI (cnt (newB (inkB A k) (fun c => fld A c a b) (fun v => exB (hasB A a b (nI 1 - k) v) (oN A) == both)) (oN A))) := by
  have hA := ok.1
  refine iterW_for (fun j => (nI (cnt (newB (inkB A k) (fun c => fld A c a b) (fun v => exB (hasB A a b (nI 1 - k) v) (oN A) == both)) j), nI j)) (oN A) (fun j hj => ?_) ?_
  · show B_X2_matchedBy_29 _ _ _ _ _ _ _ _ = _
    unfold B_X2_matchedBy_29 J_X2_matchedBy_62 J_X2_matchedBy_89 J_X2_matchedBy_90
    have hl : ∀ w, fld A j a b = some w → w < 1000000 := fun w => fld_lt h6
    rw [cnt]
    by_cases e : oK A j = k
    · cases ef : fld A j a b with
      | none =>
        simp (disch := omega) only [↓m1_n, li_n, li_0, li_1, lt_y, lt_n, le_y, le_n, eq_n, nL, nLe, nEq, nEm, mEn, nLm, mLn, nLem, mLen, nI_add, nI_mul, nI_sub, nI_m, ib_nI, nx_nI, gd_tt, bnd_eq, Option.bind_some, ↓reduceIte, hI_uI_o, hI_uI_s, hI_uI_e, hL_uI, hI_uL, hL_uL_o, hL_uL_s, hL_uL_e, and1_a, and1_b, Bool.not_true, Bool.not_false, Nat.zero_add, Nat.add_zero, Nat.add_sub_cancel, eq_self, ne_b, g0_0, g0_1, g0_2, g0_3, g0_4, g0_5, g0_6, g0_7, g0_8, g0_9, n1, n2, g3_2, g3_3, g3_4, g3_5, g3_6, g3_7, g3_8, g3_9, n4, n5, n6, n7, n8, n9, g10_2, g10_3, g10_4, g10_5, n11, n12, n13, n14, g15_2, g15_3, g15_4, g15_5, n16, n17, n18, n19, g40_0, g40_1, g40_2, g44_0, g44_2, g44_3, g44_5, g44_6, g44_10, g51_3, g51_4, g51_5, g51_6, g51_7, g57_3, g57_4, g57_5, g57_6, g57_7, n120, n121, g122_0, g122_4, g122_5, g122_6, g122_7, g122_8, g122_18, g122_19, g122_20, g122_21, g122_24, g122_25, g122_28, g122_29, g122_31, g122_32, g122_33, g122_39, g122_40, g122_41, g122_45, g122_46, g122_47, g122_48, n123, n124, n125, n126, n127, n128, n129, n130, n131, n132, n133, n134, n135, n136, n137, n138, n139, n140, n141, n142, n143, n144, n145, n146, cNn rc, cIn rc, e, c_fieldOf ok rc, ef, oI_none]
        simp [newB, ef]
      | some v =>
        have hv := hl v ef
        have H1 := c_hasNumber (n := j) (v := v) (k := k) ok rc (by omega) hv hab hb h6
        have H2 := c_hasNumber (n := oN A) (v := v) (k := nI 1 - k) ok rc (by omega) hv hab hb h6
        cases e1 : exB (hasB A a b k v) j with
        | true =>
          rw [e1] at H1
          simp (disch := omega) only [↓m1_n, li_n, li_0, li_1, lt_y, lt_n, le_y, le_n, eq_n, nL, nLe, nEq, nEm, mEn, nLm, mLn, nLem, mLen, nI_add, nI_mul, nI_sub, nI_m, ib_nI, nx_nI, gd_tt, bnd_eq, Option.bind_some, ↓reduceIte, hI_uI_o, hI_uI_s, hI_uI_e, hL_uI, hI_uL, hL_uL_o, hL_uL_s, hL_uL_e, and1_a, and1_b, Bool.not_true, Bool.not_false, Nat.zero_add, Nat.add_zero, Nat.add_sub_cancel, eq_self, ne_b, g0_0, g0_1, g0_2, g0_3, g0_4, g0_5, g0_6, g0_7, g0_8, g0_9, n1, n2, g3_2, g3_3, g3_4, g3_5, g3_6, g3_7, g3_8, g3_9, n4, n5, n6, n7, n8, n9, g10_2, g10_3, g10_4, g10_5, n11, n12, n13, n14, g15_2, g15_3, g15_4, g15_5, n16, n17, n18, n19, g40_0, g40_1, g40_2, g44_0, g44_2, g44_3, g44_5, g44_6, g44_10, g51_3, g51_4, g51_5, g51_6, g51_7, g57_3, g57_4, g57_5, g57_6, g57_7, n120, n121, g122_0, g122_4, g122_5, g122_6, g122_7, g122_8, g122_18, g122_19, g122_20, g122_21, g122_24, g122_25, g122_28, g122_29, g122_31, g122_32, g122_33, g122_39, g122_40, g122_41, g122_45, g122_46, g122_47, g122_48, n123, n124, n125, n126, n127, n128, n129, n130, n131, n132, n133, n134, n135, n136, n137, n138, n139, n140, n141, n142, n143, n144, n145, n146, cNn rc, cIn rc, e, c_fieldOf ok rc, ef, oI_some, H1]
          rw [hasB_eq] at e1
          simp [newB, ef, e1]
        | false =>
          rw [e1] at H1
          have e1' := e1
          rw [hasB_eq] at e1'
          have e2 : inkB A k j = true := by simp [inkB, e]
          cases e3 : exB (hasB A a b (nI 1 - k) v) (oN A) with
          | true =>
            rw [e3] at H2
            cases both with
            | true =>
              simp (disch := omega) only [↓m1_n, li_n, li_0, li_1, lt_y, lt_n, le_y, le_n, eq_n, nL, nLe, nEq, nEm, mEn, nLm, mLn, nLem, mLen, nI_add, nI_mul, nI_sub, nI_m, ib_nI, nx_nI, gd_tt, bnd_eq, Option.bind_some, ↓reduceIte, hI_uI_o, hI_uI_s, hI_uI_e, hL_uI, hI_uL, hL_uL_o, hL_uL_s, hL_uL_e, and1_a, and1_b, Bool.not_true, Bool.not_false, Nat.zero_add, Nat.add_zero, Nat.add_sub_cancel, eq_self, ne_b, g0_0, g0_1, g0_2, g0_3, g0_4, g0_5, g0_6, g0_7, g0_8, g0_9, n1, n2, g3_2, g3_3, g3_4, g3_5, g3_6, g3_7, g3_8, g3_9, n4, n5, n6, n7, n8, n9, g10_2, g10_3, g10_4, g10_5, n11, n12, n13, n14, g15_2, g15_3, g15_4, g15_5, n16, n17, n18, n19, g40_0, g40_1, g40_2, g44_0, g44_2, g44_3, g44_5, g44_6, g44_10, g51_3, g51_4, g51_5, g51_6, g51_7, g57_3, g57_4, g57_5, g57_6, g57_7, n120, n121, g122_0, g122_4, g122_5, g122_6, g122_7, g122_8, g122_18, g122_19, g122_20, g122_21, g122_24, g122_25, g122_28, g122_29, g122_31, g122_32, g122_33, g122_39, g122_40, g122_41, g122_45, g122_46, g122_47, g122_48, n123, n124, n125, n126, n127, n128, n129, n130, n131, n132, n133, n134, n135, n136, n137, n138, n139, n140, n141, n142, n143, n144, n145, n146, cNn rc, cIn rc, e, c_fieldOf ok rc, ef, oI_some, H1, H2, bI, if_true, if_false, Bool.false_eq_true]
              simp only [newB, ef, e1', e2, Option.elim_some, e3]
              simp
            | false =>
              simp (disch := omega) only [↓m1_n, li_n, li_0, li_1, lt_y, lt_n, le_y, le_n, eq_n, nL, nLe, nEq, nEm, mEn, nLm, mLn, nLem, mLen, nI_add, nI_mul, nI_sub, nI_m, ib_nI, nx_nI, gd_tt, bnd_eq, Option.bind_some, ↓reduceIte, hI_uI_o, hI_uI_s, hI_uI_e, hL_uI, hI_uL, hL_uL_o, hL_uL_s, hL_uL_e, and1_a, and1_b, Bool.not_true, Bool.not_false, Nat.zero_add, Nat.add_zero, Nat.add_sub_cancel, eq_self, ne_b, g0_0, g0_1, g0_2, g0_3, g0_4, g0_5, g0_6, g0_7, g0_8, g0_9, n1, n2, g3_2, g3_3, g3_4, g3_5, g3_6, g3_7, g3_8, g3_9, n4, n5, n6, n7, n8, n9, g10_2, g10_3, g10_4, g10_5, n11, n12, n13, n14, g15_2, g15_3, g15_4, g15_5, n16, n17, n18, n19, g40_0, g40_1, g40_2, g44_0, g44_2, g44_3, g44_5, g44_6, g44_10, g51_3, g51_4, g51_5, g51_6, g51_7, g57_3, g57_4, g57_5, g57_6, g57_7, n120, n121, g122_0, g122_4, g122_5, g122_6, g122_7, g122_8, g122_18, g122_19, g122_20, g122_21, g122_24, g122_25, g122_28, g122_29, g122_31, g122_32, g122_33, g122_39, g122_40, g122_41, g122_45, g122_46, g122_47, g122_48, n123, n124, n125, n126, n127, n128, n129, n130, n131, n132, n133, n134, n135, n136, n137, n138, n139, n140, n141, n142, n143, n144, n145, n146, cNn rc, cIn rc, e, c_fieldOf ok rc, ef, oI_some, H1, H2, bI, if_true, if_false, Bool.false_eq_true]
              simp only [newB, ef, e1', e2, Option.elim_some, e3]
              simp
          | false =>
            rw [e3] at H2
            cases both with
            | true =>
              simp (disch := omega) only [↓m1_n, li_n, li_0, li_1, lt_y, lt_n, le_y, le_n, eq_n, nL, nLe, nEq, nEm, mEn, nLm, mLn, nLem, mLen, nI_add, nI_mul, nI_sub, nI_m, ib_nI, nx_nI, gd_tt, bnd_eq, Option.bind_some, ↓reduceIte, hI_uI_o, hI_uI_s, hI_uI_e, hL_uI, hI_uL, hL_uL_o, hL_uL_s, hL_uL_e, and1_a, and1_b, Bool.not_true, Bool.not_false, Nat.zero_add, Nat.add_zero, Nat.add_sub_cancel, eq_self, ne_b, g0_0, g0_1, g0_2, g0_3, g0_4, g0_5, g0_6, g0_7, g0_8, g0_9, n1, n2, g3_2, g3_3, g3_4, g3_5, g3_6, g3_7, g3_8, g3_9, n4, n5, n6, n7, n8, n9, g10_2, g10_3, g10_4, g10_5, n11, n12, n13, n14, g15_2, g15_3, g15_4, g15_5, n16, n17, n18, n19, g40_0, g40_1, g40_2, g44_0, g44_2, g44_3, g44_5, g44_6, g44_10, g51_3, g51_4, g51_5, g51_6, g51_7, g57_3, g57_4, g57_5, g57_6, g57_7, n120, n121, g122_0, g122_4, g122_5, g122_6, g122_7, g122_8, g122_18, g122_19, g122_20, g122_21, g122_24, g122_25, g122_28, g122_29, g122_31, g122_32, g122_33, g122_39, g122_40, g122_41, g122_45, g122_46, g122_47, g122_48, n123, n124, n125, n126, n127, n128, n129, n130, n131, n132, n133, n134, n135, n136, n137, n138, n139, n140, n141, n142, n143, n144, n145, n146, cNn rc, cIn rc, e, c_fieldOf ok rc, ef, oI_some, H1, H2, bI, if_true, if_false, Bool.false_eq_true]
              simp only [newB, ef, e1', e2, Option.elim_some, e3]
              simp
            | false =>
              simp (disch := omega) only [↓m1_n, li_n, li_0, li_1, lt_y, lt_n, le_y, le_n, eq_n, nL, nLe, nEq, nEm, mEn, nLm, mLn, nLem, mLen, nI_add, nI_mul, nI_sub, nI_m, ib_nI, nx_nI, gd_tt, bnd_eq, Option.bind_some, ↓reduceIte, hI_uI_o, hI_uI_s, hI_uI_e, hL_uI, hI_uL, hL_uL_o, hL_uL_s, hL_uL_e, and1_a, and1_b, Bool.not_true, Bool.not_false, Nat.zero_add, Nat.add_zero, Nat.add_sub_cancel, eq_self, ne_b, g0_0, g0_1, g0_2, g0_3, g0_4, g0_5, g0_6, g0_7, g0_8, g0_9, n1, n2, g3_2, g3_3, g3_4, g3_5, g3_6, g3_7, g3_8, g3_9, n4, n5, n6, n7, n8, n9, g10_2, g10_3, g10_4, g10_5, n11, n12, n13, n14, g15_2, g15_3, g15_4, g15_5, n16, n17, n18, n19, g40_0, g40_1, g40_2, g44_0, g44_2, g44_3, g44_5, g44_6, g44_10, g51_3, g51_4, g51_5, g51_6, g51_7, g57_3, g57_4, g57_5, g57_6, g57_7, n120, n121, g122_0, g122_4, g122_5, g122_6, g122_7, g122_8, g122_18, g122_19, g122_20, g122_21, g122_24, g122_25, g122_28, g122_29, g122_31, g122_32, g122_33, g122_39, g122_40, g122_41, g122_45, g122_46, g122_47, g122_48, n123, n124, n125, n126, n127, n128, n129, n130, n131, n132, n133, n134, n135, n136, n137, n138, n139, n140, n141, n142, n143, n144, n145, n146, cNn rc, cIn rc, e, c_fieldOf ok rc, ef, oI_some, H1, H2, bI, if_true, if_false, Bool.false_eq_true]
              simp only [newB, ef, e1', e2, Option.elim_some, e3]
              simp
    · simp (disch := omega) only [↓m1_n, li_n, li_0, li_1, lt_y, lt_n, le_y, le_n, eq_n, nL, nLe, nEq, nEm, mEn, nLm, mLn, nLem, mLen, nI_add, nI_mul, nI_sub, nI_m, ib_nI, nx_nI, gd_tt, bnd_eq, Option.bind_some, ↓reduceIte, hI_uI_o, hI_uI_s, hI_uI_e, hL_uI, hI_uL, hL_uL_o, hL_uL_s, hL_uL_e, and1_a, and1_b, Bool.not_true, Bool.not_false, Nat.zero_add, Nat.add_zero, Nat.add_sub_cancel, eq_self, ne_b, g0_0, g0_1, g0_2, g0_3, g0_4, g0_5, g0_6, g0_7, g0_8, g0_9, n1, n2, g3_2, g3_3, g3_4, g3_5, g3_6, g3_7, g3_8, g3_9, n4, n5, n6, n7, n8, n9, g10_2, g10_3, g10_4, g10_5, n11, n12, n13, n14, g15_2, g15_3, g15_4, g15_5, n16, n17, n18, n19, g40_0, g40_1, g40_2, g44_0, g44_2, g44_3, g44_5, g44_6, g44_10, g51_3, g51_4, g51_5, g51_6, g51_7, g57_3, g57_4, g57_5, g57_6, g57_7, n120, n121, g122_0, g122_4, g122_5, g122_6, g122_7, g122_8, g122_18, g122_19, g122_20, g122_21, g122_24, g122_25, g122_28, g122_29, g122_31, g122_32, g122_33, g122_39, g122_40, g122_41, g122_45, g122_46, g122_47, g122_48, n123, n124, n125, n126, n127, n128, n129, n130, n131, n132, n133, n134, n135, n136, n137, n138, n139, n140, n141, n142, n143, n144, n145, n146, cNn rc, cIn rc, e]
      simp [newB, inkB, e]
  · show B_X2_matchedBy_29 _ _ _ _ _ _ _ _ = _
    unfold B_X2_matchedBy_29
    simp (disch := omega) only [↓m1_n, li_n, li_0, li_1, lt_y, lt_n, le_y, le_n, eq_n, nL, nLe, nEq, nEm, mEn, nLm, mLn, nLem, mLen, nI_add, nI_mul, nI_sub, nI_m, ib_nI, nx_nI, gd_tt, bnd_eq, Option.bind_some, ↓reduceIte, hI_uI_o, hI_uI_s, hI_uI_e, hL_uI, hI_uL, hL_uL_o, hL_uL_s, hL_uL_e, and1_a, and1_b, Bool.not_true, Bool.not_false, Nat.zero_add, Nat.add_zero, Nat.add_sub_cancel, eq_self, ne_b, g0_0, g0_1, g0_2, g0_3, g0_4, g0_5, g0_6, g0_7, g0_8, g0_9, n1, n2, g3_2, g3_3, g3_4, g3_5, g3_6, g3_7, g3_8, g3_9, n4, n5, n6, n7, n8, n9, g10_2, g10_3, g10_4, g10_5, n11, n12, n13, n14, g15_2, g15_3, g15_4, g15_5, n16, n17, n18, n19, g40_0, g40_1, g40_2, g44_0, g44_2, g44_3, g44_5, g44_6, g44_10, g51_3, g51_4, g51_5, g51_6, g51_7, g57_3, g57_4, g57_5, g57_6, g57_7, n120, n121, g122_0, g122_4, g122_5, g122_6, g122_7, g122_8, g122_18, g122_19, g122_20, g122_21, g122_24, g122_25, g122_28, g122_29, g122_31, g122_32, g122_33, g122_39, g122_40, g122_41, g122_45, g122_46, g122_47, g122_48, n123, n124, n125, n126, n127, n128, n129, n130, n131, n132, n133, n134, n135, n136, n137, n138, n139, n140, n141, n142, n143, n144, n145, n146, cNn rc]
theorem iterW_fst2 {σ ρ : Type} {f : σ → Option (σ ⊕ ρ)} (S T : Nat → σ) (P : Nat → Bool) (r : Nat → ρ) (z : ρ) : ∀ n a, (∀ j, a ≤ j → j < a + n → f (S j) = if P j then some (.inl (T j)) else some (.inl (S (j + 1)))) → (∀ j, a ≤ j → j < a + n → iterW f (T j) = some (r j)) → f (S (a + n)) = some (.inr z) → iterW f (S a) = some ((fst1 P n a).elim z r) := by
  intro n
  induction n with
  | zero =>
    intro a _ _ he
    exact iterW_end he
  | succ n ih =>
    intro a hs ht he
    have h := hs a (Nat.le_refl _) (by omega)
    by_cases e : P a = true
    · rw [if_pos e] at h
      rw [iterW_go h, fst1, if_pos e, ht a (by omega) (by omega)]
      rfl
    · rw [if_neg e] at h
      rw [iterW_go h, fst1, if_neg e]
      exact ih (a + 1) (fun j h1 h2 => hs j (by omega) (by omega)) (fun j h1 h2 => ht j (by omega) (by omega)) (by rw [show a + 1 + n = a + (n + 1) by omega]; exact he)
def inkd (A : Ho) (i : Nat) : Bool := decide (oK A i ≠ mN)
theorem m_newsL0 {h : Hp} {A : Ho} {a b c : Nat} {x y v : Int32} (j : Nat) (hj : j < 2147483648) (hc : c < 2147483648) : L_X12_matched_78 h 122 (nI a) (nI b) x y (nI c) v (nI 0) (nI j) = some (nI 0) := by
  refine iterW_end ?_
  show B_X12_matched_78 _ _ _ _ _ _ _ _ _ _ = _
  unfold B_X12_matched_78
  by_cases e : c ≤ j
  · simp (disch := omega) only [↓m1_n, li_n, li_0, li_1, lt_y, lt_n, le_y, le_n, eq_n, nL, nLe, nEq, nEm, mEn, nLm, mLn, nLem, mLen, nI_add, nI_mul, nI_sub, nI_m, ib_nI, nx_nI, gd_tt, bnd_eq, Option.bind_some, ↓reduceIte, hI_uI_o, hI_uI_s, hI_uI_e, hL_uI, hI_uL, hL_uL_o, hL_uL_s, hL_uL_e, and1_a, and1_b, Bool.not_true, Bool.not_false, Nat.zero_add, Nat.add_zero, Nat.add_sub_cancel, eq_self, ne_b, g0_0, g0_1, g0_2, g0_3, g0_4, g0_5, g0_6, g0_7, g0_8, g0_9, n1, n2, g3_2, g3_3, g3_4, g3_5, g3_6, g3_7, g3_8, g3_9, n4, n5, n6, n7, n8, n9, g10_2, g10_3, g10_4, g10_5, n11, n12, n13, n14, g15_2, g15_3, g15_4, g15_5, n16, n17, n18, n19, g40_0, g40_1, g40_2, g44_0, g44_2, g44_3, g44_5, g44_6, g44_10, g51_3, g51_4, g51_5, g51_6, g51_7, g57_3, g57_4, g57_5, g57_6, g57_7, n120, n121, g122_0, g122_4, g122_5, g122_6, g122_7, g122_8, g122_18, g122_19, g122_20, g122_21, g122_24, g122_25, g122_28, g122_29, g122_31, g122_32, g122_33, g122_39, g122_40, g122_41, g122_45, g122_46, g122_47, g122_48, n123, n124, n125, n126, n127, n128, n129, n130, n131, n132, n133, n134, n135, n136, n137, n138, n139, n140, n141, n142, n143, n144, n145, n146, e]
  · simp (disch := omega) only [↓m1_n, li_n, li_0, li_1, lt_y, lt_n, le_y, le_n, eq_n, nL, nLe, nEq, nEm, mEn, nLm, mLn, nLem, mLen, nI_add, nI_mul, nI_sub, nI_m, ib_nI, nx_nI, gd_tt, bnd_eq, Option.bind_some, ↓reduceIte, hI_uI_o, hI_uI_s, hI_uI_e, hL_uI, hI_uL, hL_uL_o, hL_uL_s, hL_uL_e, and1_a, and1_b, Bool.not_true, Bool.not_false, Nat.zero_add, Nat.add_zero, Nat.add_sub_cancel, eq_self, ne_b, g0_0, g0_1, g0_2, g0_3, g0_4, g0_5, g0_6, g0_7, g0_8, g0_9, n1, n2, g3_2, g3_3, g3_4, g3_5, g3_6, g3_7, g3_8, g3_9, n4, n5, n6, n7, n8, n9, g10_2, g10_3, g10_4, g10_5, n11, n12, n13, n14, g15_2, g15_3, g15_4, g15_5, n16, n17, n18, n19, g40_0, g40_1, g40_2, g44_0, g44_2, g44_3, g44_5, g44_6, g44_10, g51_3, g51_4, g51_5, g51_6, g51_7, g57_3, g57_4, g57_5, g57_6, g57_7, n120, n121, g122_0, g122_4, g122_5, g122_6, g122_7, g122_8, g122_18, g122_19, g122_20, g122_21, g122_24, g122_25, g122_28, g122_29, g122_31, g122_32, g122_33, g122_39, g122_40, g122_41, g122_45, g122_46, g122_47, g122_48, n123, n124, n125, n126, n127, n128, n129, n130, n131, n132, n133, n134, n135, n136, n137, n138, n139, n140, n141, n142, n143, n144, n145, n146]
theorem m_newsL {h : Hp} {A : Ho} {q a b c v : Nat} {x y : Int32} (ok : HoOk q A) (rm : RmH h 0 A) (hab : a ≤ b) (hb : b < 8) (h6 : b < a + 6) (hc : c < oN A) (hv : v < 1000000) : L_X12_matched_78 h 122 (nI a) (nI b) x y (nI c) (nI v) (nI 1) (nI 0) = some (if exB (fun d => inkd A d && decide (fld A d a b = some v)) c then nI 0 else nI 1) := by
  have hA := ok.1
  rw [← fst1_exB]
  refine iterW_fst2 (fun j => (nI 1, nI j)) (fun j => (nI 0, nI (j + 1))) _ (fun _ => nI 0) (nI 1) c 0 (fun j _ hj => ?_) (fun j _ hj => m_newsL0 (A := A) (j + 1) (by omega) (by omega)) ?_
  · show B_X12_matched_78 _ _ _ _ _ _ _ _ _ _ = _
    unfold B_X12_matched_78
    have hl : ∀ w, fld A j a b = some w → w < 1000000 := fun w => fld_lt h6
    simp (disch := omega) only [↓m1_n, li_n, li_0, li_1, lt_y, lt_n, le_y, le_n, eq_n, nL, nLe, nEq, nEm, mEn, nLm, mLn, nLem, mLen, nI_add, nI_mul, nI_sub, nI_m, ib_nI, nx_nI, gd_tt, bnd_eq, Option.bind_some, ↓reduceIte, hI_uI_o, hI_uI_s, hI_uI_e, hL_uI, hI_uL, hL_uL_o, hL_uL_s, hL_uL_e, and1_a, and1_b, Bool.not_true, Bool.not_false, Nat.zero_add, Nat.add_zero, Nat.add_sub_cancel, eq_self, ne_b, g0_0, g0_1, g0_2, g0_3, g0_4, g0_5, g0_6, g0_7, g0_8, g0_9, n1, n2, g3_2, g3_3, g3_4, g3_5, g3_6, g3_7, g3_8, g3_9, n4, n5, n6, n7, n8, n9, g10_2, g10_3, g10_4, g10_5, n11, n12, n13, n14, g15_2, g15_3, g15_4, g15_5, n16, n17, n18, n19, g40_0, g40_1, g40_2, g44_0, g44_2, g44_3, g44_5, g44_6, g44_10, g51_3, g51_4, g51_5, g51_6, g51_7, g57_3, g57_4, g57_5, g57_6, g57_7, n120, n121, g122_0, g122_4, g122_5, g122_6, g122_7, g122_8, g122_18, g122_19, g122_20, g122_21, g122_24, g122_25, g122_28, g122_29, g122_31, g122_32, g122_33, g122_39, g122_40, g122_41, g122_45, g122_46, g122_47, g122_48, n123, n124, n125, n126, n127, n128, n129, n130, n131, n132, n133, n134, n135, n136, n137, n138, n139, n140, n141, n142, n143, n144, n145, n146, mIn ok rm, m_numberOf ok rm, oI_nI hl hv]
    by_cases e : oK A j = mN <;> by_cases e' : fld A j a b = some v <;> simp [inkd, e, e']
  · show B_X12_matched_78 _ _ _ _ _ _ _ _ _ _ = _
    unfold B_X12_matched_78
    simp (disch := omega) only [↓m1_n, li_n, li_0, li_1, lt_y, lt_n, le_y, le_n, eq_n, nL, nLe, nEq, nEm, mEn, nLm, mLn, nLem, mLen, nI_add, nI_mul, nI_sub, nI_m, ib_nI, nx_nI, gd_tt, bnd_eq, Option.bind_some, ↓reduceIte, hI_uI_o, hI_uI_s, hI_uI_e, hL_uI, hI_uL, hL_uL_o, hL_uL_s, hL_uL_e, and1_a, and1_b, Bool.not_true, Bool.not_false, Nat.zero_add, Nat.add_zero, Nat.add_sub_cancel, eq_self, ne_b, g0_0, g0_1, g0_2, g0_3, g0_4, g0_5, g0_6, g0_7, g0_8, g0_9, n1, n2, g3_2, g3_3, g3_4, g3_5, g3_6, g3_7, g3_8, g3_9, n4, n5, n6, n7, n8, n9, g10_2, g10_3, g10_4, g10_5, n11, n12, n13, n14, g15_2, g15_3, g15_4, g15_5, n16, n17, n18, n19, g40_0, g40_1, g40_2, g44_0, g44_2, g44_3, g44_5, g44_6, g44_10, g51_3, g51_4, g51_5, g51_6, g51_7, g57_3, g57_4, g57_5, g57_6, g57_7, n120, n121, g122_0, g122_4, g122_5, g122_6, g122_7, g122_8, g122_18, g122_19, g122_20, g122_21, g122_24, g122_25, g122_28, g122_29, g122_31, g122_32, g122_33, g122_39, g122_40, g122_41, g122_45, g122_46, g122_47, g122_48, n123, n124, n125, n126, n127, n128, n129, n130, n131, n132, n133, n134, n135, n136, n137, n138, n139, n140, n141, n142, n143, n144, n145, n146]
def mk2 (x y : Bool) : Nat := (if x then 1 else 0) + (if y then 2 else 0)
theorem or_ink : ∀ x y : Bool, nI (mk2 x y) ||| (nI 1 <<< (nI 0 &&& nI 31)) = nI (mk2 true y) ∧ nI (mk2 x y) ||| (nI 1 <<< (nI 1 &&& nI 31)) = nI (mk2 x true) := by decide
theorem m_inksOf {h : Hp} {A : Ho} {q a b v : Nat} (ok : HoOk q A) (rm : RmH h 0 A) (hab : a ≤ b) (hb : b < 8) (h6 : b < a + 6) (hv : v < 1000000) : F_X12_inksOf h 122 (nI v) (nI a) (nI b) = some (nI (mk2 (exB (hasB A a b (nI 0) v) (oN A)) (exB (hasB A a b (nI 1) v) (oN A)))) := by
  have hA := ok.1
  refine iterW_for (fun j => (nI (mk2 (exB (hasB A a b (nI 0) v) j) (exB (hasB A a b (nI 1) v) j)), nI j)) (oN A) (fun j hj => ?_) ?_
  · show B_X12_inksOf_6 _ _ _ _ _ _ _ = _
    unfold B_X12_inksOf_6
    have hl : ∀ w, fld A j a b = some w → w < 1000000 := fun w => fld_lt h6
    have hk : oK A j = mN ∨ oK A j = nI 0 ∨ oK A j = nI 1 := (ok.2.1 j hj).2.2.1
    simp (disch := omega) only [↓m1_n, li_n, li_0, li_1, lt_y, lt_n, le_y, le_n, eq_n, nL, nLe, nEq, nEm, mEn, nLm, mLn, nLem, mLen, nI_add, nI_mul, nI_sub, nI_m, ib_nI, nx_nI, gd_tt, bnd_eq, Option.bind_some, ↓reduceIte, hI_uI_o, hI_uI_s, hI_uI_e, hL_uI, hI_uL, hL_uL_o, hL_uL_s, hL_uL_e, and1_a, and1_b, Bool.not_true, Bool.not_false, Nat.zero_add, Nat.add_zero, Nat.add_sub_cancel, eq_self, ne_b, g0_0, g0_1, g0_2, g0_3, g0_4, g0_5, g0_6, g0_7, g0_8, g0_9, n1, n2, g3_2, g3_3, g3_4, g3_5, g3_6, g3_7, g3_8, g3_9, n4, n5, n6, n7, n8, n9, g10_2, g10_3, g10_4, g10_5, n11, n12, n13, n14, g15_2, g15_3, g15_4, g15_5, n16, n17, n18, n19, g40_0, g40_1, g40_2, g44_0, g44_2, g44_3, g44_5, g44_6, g44_10, g51_3, g51_4, g51_5, g51_6, g51_7, g57_3, g57_4, g57_5, g57_6, g57_7, n120, n121, g122_0, g122_4, g122_5, g122_6, g122_7, g122_8, g122_18, g122_19, g122_20, g122_21, g122_24, g122_25, g122_28, g122_29, g122_31, g122_32, g122_33, g122_39, g122_40, g122_41, g122_45, g122_46, g122_47, g122_48, n123, n124, n125, n126, n127, n128, n129, n130, n131, n132, n133, n134, n135, n136, n137, n138, n139, n140, n141, n142, n143, n144, n145, n146, mNc rm, mIn ok rm, m_numberOf ok rm, oI_nI hl hv]
    rw [exB, exB]
    have t1 : ¬ nI 0 = nI 1 := by decide
    have t2 : ¬ nI 1 = nI 0 := by decide
    have t5 : ¬ mN = nI 0 := by decide
    have t6 : ¬ mN = nI 1 := by decide
    rcases hk with e | e | e
    · rw [if_pos e]
      simp [hasB, e, t5, t6]
    · rw [if_neg (by rw [e]; decide)]
      by_cases e' : fld A j a b = some v
      · rw [if_pos e', e, (or_ink _ _).1]
        simp [hasB, e, e', t1, t2]
      · rw [if_neg e']
        simp [hasB, e']
    · rw [if_neg (by rw [e]; decide)]
      by_cases e' : fld A j a b = some v
      · rw [if_pos e', e, (or_ink _ _).2]
        simp [hasB, e, e', t1, t2]
      · rw [if_neg e']
        simp [hasB, e']
  · show B_X12_inksOf_6 _ _ _ _ _ _ _ = _
    unfold B_X12_inksOf_6
    simp (disch := omega) only [↓m1_n, li_n, li_0, li_1, lt_y, lt_n, le_y, le_n, eq_n, nL, nLe, nEq, nEm, mEn, nLm, mLn, nLem, mLen, nI_add, nI_mul, nI_sub, nI_m, ib_nI, nx_nI, gd_tt, bnd_eq, Option.bind_some, ↓reduceIte, hI_uI_o, hI_uI_s, hI_uI_e, hL_uI, hI_uL, hL_uL_o, hL_uL_s, hL_uL_e, and1_a, and1_b, Bool.not_true, Bool.not_false, Nat.zero_add, Nat.add_zero, Nat.add_sub_cancel, eq_self, ne_b, g0_0, g0_1, g0_2, g0_3, g0_4, g0_5, g0_6, g0_7, g0_8, g0_9, n1, n2, g3_2, g3_3, g3_4, g3_5, g3_6, g3_7, g3_8, g3_9, n4, n5, n6, n7, n8, n9, g10_2, g10_3, g10_4, g10_5, n11, n12, n13, n14, g15_2, g15_3, g15_4, g15_5, n16, n17, n18, n19, g40_0, g40_1, g40_2, g44_0, g44_2, g44_3, g44_5, g44_6, g44_10, g51_3, g51_4, g51_5, g51_6, g51_7, g57_3, g57_4, g57_5, g57_6, g57_7, n120, n121, g122_0, g122_4, g122_5, g122_6, g122_7, g122_8, g122_18, g122_19, g122_20, g122_21, g122_24, g122_25, g122_28, g122_29, g122_31, g122_32, g122_33, g122_39, g122_40, g122_41, g122_45, g122_46, g122_47, g122_48, n123, n124, n125, n126, n127, n128, n129, n130, n131, n132, n133, n134, n135, n136, n137, n138, n139, n140, n141, n142, n143, n144, n145, n146, mNc rm]
theorem m_matchedL {h : Hp} {A : Ho} {q a b w : Nat} (ok : HoOk q A) (rm : RmH h 0 A) (hab : a ≤ b) (hb : b < 8) (h6 : b < a + 6) (hw : w < 3) : L_X12_matched_29 h 122 (nI a) (nI b) (nI w) (nI 0) (nI 0) = some (ans h 122 1 (0, nI (cnt (newB (inkd A) (fun c => fld A c a b) (fun v => decide (mk2 (exB (hasB A a b (nI 0) v) (oN A)) (exB (hasB A a b (nI 1) v) (oN A)) = (if w = 0 then 3 else w)))) (oN A)))) := by
  have hA := ok.1
  refine iterW_for (fun j => (nI (cnt (newB (inkd A) (fun c => fld A c a b) (fun v => decide (mk2 (exB (hasB A a b (nI 0) v) (oN A)) (exB (hasB A a b (nI 1) v) (oN A)) = (if w = 0 then 3 else w)))) j), nI j)) (oN A) (fun j hj => ?_) ?_
  · show B_X12_matched_29 _ _ _ _ _ _ _ = _
    unfold B_X12_matched_29 J_X12_matched_128 J_X12_matched_152
    rw [cnt]
    cases ef : fld A j a b with
    | none =>
      simp (disch := omega) only [↓m1_n, li_n, li_0, li_1, lt_y, lt_n, le_y, le_n, eq_n, nL, nLe, nEq, nEm, mEn, nLm, mLn, nLem, mLen, nI_add, nI_mul, nI_sub, nI_m, ib_nI, nx_nI, gd_tt, bnd_eq, Option.bind_some, ↓reduceIte, hI_uI_o, hI_uI_s, hI_uI_e, hL_uI, hI_uL, hL_uL_o, hL_uL_s, hL_uL_e, and1_a, and1_b, Bool.not_true, Bool.not_false, Nat.zero_add, Nat.add_zero, Nat.add_sub_cancel, eq_self, ne_b, g0_0, g0_1, g0_2, g0_3, g0_4, g0_5, g0_6, g0_7, g0_8, g0_9, n1, n2, g3_2, g3_3, g3_4, g3_5, g3_6, g3_7, g3_8, g3_9, n4, n5, n6, n7, n8, n9, g10_2, g10_3, g10_4, g10_5, n11, n12, n13, n14, g15_2, g15_3, g15_4, g15_5, n16, n17, n18, n19, g40_0, g40_1, g40_2, g44_0, g44_2, g44_3, g44_5, g44_6, g44_10, g51_3, g51_4, g51_5, g51_6, g51_7, g57_3, g57_4, g57_5, g57_6, g57_7, n120, n121, g122_0, g122_4, g122_5, g122_6, g122_7, g122_8, g122_18, g122_19, g122_20, g122_21, g122_24, g122_25, g122_28, g122_29, g122_31, g122_32, g122_33, g122_39, g122_40, g122_41, g122_45, g122_46, g122_47, g122_48, n123, n124, n125, n126, n127, n128, n129, n130, n131, n132, n133, n134, n135, n136, n137, n138, n139, n140, n141, n142, n143, n144, n145, n146, mNc rm, m_numberOf ok rm, ef, oI_none, m_newsL0 (A := A)]
      simp [newB, ef]
    | some v =>
      have hv := fld_lt h6 ef
      have hm : mk2 (exB (hasB A a b (nI 0) v) (oN A)) (exB (hasB A a b (nI 1) v) (oN A)) < 4 := by
        cases exB (hasB A a b (nI 0) v) (oN A) <;> cases exB (hasB A a b (nI 1) v) (oN A) <;> decide
      by_cases e : oK A j = mN
      · simp (disch := omega) only [↓m1_n, li_n, li_0, li_1, lt_y, lt_n, le_y, le_n, eq_n, nL, nLe, nEq, nEm, mEn, nLm, mLn, nLem, mLen, nI_add, nI_mul, nI_sub, nI_m, ib_nI, nx_nI, gd_tt, bnd_eq, Option.bind_some, ↓reduceIte, hI_uI_o, hI_uI_s, hI_uI_e, hL_uI, hI_uL, hL_uL_o, hL_uL_s, hL_uL_e, and1_a, and1_b, Bool.not_true, Bool.not_false, Nat.zero_add, Nat.add_zero, Nat.add_sub_cancel, eq_self, ne_b, g0_0, g0_1, g0_2, g0_3, g0_4, g0_5, g0_6, g0_7, g0_8, g0_9, n1, n2, g3_2, g3_3, g3_4, g3_5, g3_6, g3_7, g3_8, g3_9, n4, n5, n6, n7, n8, n9, g10_2, g10_3, g10_4, g10_5, n11, n12, n13, n14, g15_2, g15_3, g15_4, g15_5, n16, n17, n18, n19, g40_0, g40_1, g40_2, g44_0, g44_2, g44_3, g44_5, g44_6, g44_10, g51_3, g51_4, g51_5, g51_6, g51_7, g57_3, g57_4, g57_5, g57_6, g57_7, n120, n121, g122_0, g122_4, g122_5, g122_6, g122_7, g122_8, g122_18, g122_19, g122_20, g122_21, g122_24, g122_25, g122_28, g122_29, g122_31, g122_32, g122_33, g122_39, g122_40, g122_41, g122_45, g122_46, g122_47, g122_48, n123, n124, n125, n126, n127, n128, n129, n130, n131, n132, n133, n134, n135, n136, n137, n138, n139, n140, n141, n142, n143, n144, n145, n146, mNc rm, m_numberOf ok rm, ef, oI_some, mIn ok rm, e, m_newsL0 (A := A)]
        simp [newB, ef, inkd, e]
      · have e2 : inkd A j = true := by simp [inkd, e]
        cases e3 : exB (fun d => inkd A d && decide (fld A d a b = some v)) j with
        | true =>
          simp (disch := omega) only [↓m1_n, li_n, li_0, li_1, lt_y, lt_n, le_y, le_n, eq_n, nL, nLe, nEq, nEm, mEn, nLm, mLn, nLem, mLen, nI_add, nI_mul, nI_sub, nI_m, ib_nI, nx_nI, gd_tt, bnd_eq, Option.bind_some, ↓reduceIte, hI_uI_o, hI_uI_s, hI_uI_e, hL_uI, hI_uL, hL_uL_o, hL_uL_s, hL_uL_e, and1_a, and1_b, Bool.not_true, Bool.not_false, Nat.zero_add, Nat.add_zero, Nat.add_sub_cancel, eq_self, ne_b, g0_0, g0_1, g0_2, g0_3, g0_4, g0_5, g0_6, g0_7, g0_8, g0_9, n1, n2, g3_2, g3_3, g3_4, g3_5, g3_6, g3_7, g3_8, g3_9, n4, n5, n6, n7, n8, n9, g10_2, g10_3, g10_4, g10_5, n11, n12, n13, n14, g15_2, g15_3, g15_4, g15_5, n16, n17, n18, n19, g40_0, g40_1, g40_2, g44_0, g44_2, g44_3, g44_5, g44_6, g44_10, g51_3, g51_4, g51_5, g51_6, g51_7, g57_3, g57_4, g57_5, g57_6, g57_7, n120, n121, g122_0, g122_4, g122_5, g122_6, g122_7, g122_8, g122_18, g122_19, g122_20, g122_21, g122_24, g122_25, g122_28, g122_29, g122_31, g122_32, g122_33, g122_39, g122_40, g122_41, g122_45, g122_46, g122_47, g122_48, n123, n124, n125, n126, n127, n128, n129, n130, n131, n132, n133, n134, n135, n136, n137, n138, n139, n140, n141, n142, n143, n144, n145, n146, mNc rm, m_numberOf ok rm, ef, oI_some, mIn ok rm, e, m_newsL ok rm, e3]
          simp [newB, ef, e3]
        | false =>
          by_cases w0 : w = 0
          · simp (disch := omega) only [↓m1_n, li_n, li_0, li_1, lt_y, lt_n, le_y, le_n, eq_n, nL, nLe, nEq, nEm, mEn, nLm, mLn, nLem, mLen, nI_add, nI_mul, nI_sub, nI_m, ib_nI, nx_nI, gd_tt, bnd_eq, Option.bind_some, ↓reduceIte, hI_uI_o, hI_uI_s, hI_uI_e, hL_uI, hI_uL, hL_uL_o, hL_uL_s, hL_uL_e, and1_a, and1_b, Bool.not_true, Bool.not_false, Nat.zero_add, Nat.add_zero, Nat.add_sub_cancel, eq_self, ne_b, g0_0, g0_1, g0_2, g0_3, g0_4, g0_5, g0_6, g0_7, g0_8, g0_9, n1, n2, g3_2, g3_3, g3_4, g3_5, g3_6, g3_7, g3_8, g3_9, n4, n5, n6, n7, n8, n9, g10_2, g10_3, g10_4, g10_5, n11, n12, n13, n14, g15_2, g15_3, g15_4, g15_5, n16, n17, n18, n19, g40_0, g40_1, g40_2, g44_0, g44_2, g44_3, g44_5, g44_6, g44_10, g51_3, g51_4, g51_5, g51_6, g51_7, g57_3, g57_4, g57_5, g57_6, g57_7, n120, n121, g122_0, g122_4, g122_5, g122_6, g122_7, g122_8, g122_18, g122_19, g122_20, g122_21, g122_24, g122_25, g122_28, g122_29, g122_31, g122_32, g122_33, g122_39, g122_40, g122_41, g122_45, g122_46, g122_47, g122_48, n123, n124, n125, n126, n127, n128, n129, n130, n131, n132, n133, n134, n135, n136, n137, n138, n139, n140, n141, n142, n143, n144, n145, n146, mNc rm, m_numberOf ok rm, ef, oI_some, mIn ok rm, e, m_newsL ok rm, e3, m_inksOf ok rm, w0, Bool.false_eq_true]
            by_cases c : mk2 (exB (hasB A a b (nI 0) v) (oN A)) (exB (hasB A a b (nI 1) v) (oN A)) = 3 <;> simp [newB, ef, e3, e2, c]
          · simp (disch := omega) only [↓m1_n, li_n, li_0, li_1, lt_y, lt_n, le_y, le_n, eq_n, nL, nLe, nEq, nEm, mEn, nLm, mLn, nLem, mLen, nI_add, nI_mul, nI_sub, nI_m, ib_nI, nx_nI, gd_tt, bnd_eq, Option.bind_some, ↓reduceIte, hI_uI_o, hI_uI_s, hI_uI_e, hL_uI, hI_uL, hL_uL_o, hL_uL_s, hL_uL_e, and1_a, and1_b, Bool.not_true, Bool.not_false, Nat.zero_add, Nat.add_zero, Nat.add_sub_cancel, eq_self, ne_b, g0_0, g0_1, g0_2, g0_3, g0_4, g0_5, g0_6, g0_7, g0_8, g0_9, n1, n2, g3_2, g3_3, g3_4, g3_5, g3_6, g3_7, g3_8, g3_9, n4, n5, n6, n7, n8, n9, g10_2, g10_3, g10_4, g10_5, n11, n12, n13, n14, g15_2, g15_3, g15_4, g15_5, n16, n17, n18, n19, g40_0, g40_1, g40_2, g44_0, g44_2, g44_3, g44_5, g44_6, g44_10, g51_3, g51_4, g51_5, g51_6, g51_7, g57_3, g57_4, g57_5, g57_6, g57_7, n120, n121, g122_0, g122_4, g122_5, g122_6, g122_7, g122_8, g122_18, g122_19, g122_20, g122_21, g122_24, g122_25, g122_28, g122_29, g122_31, g122_32, g122_33, g122_39, g122_40, g122_41, g122_45, g122_46, g122_47, g122_48, n123, n124, n125, n126, n127, n128, n129, n130, n131, n132, n133, n134, n135, n136, n137, n138, n139, n140, n141, n142, n143, n144, n145, n146, mNc rm, m_numberOf ok rm, ef, oI_some, mIn ok rm, e, m_newsL ok rm, e3, m_inksOf ok rm, w0, Bool.false_eq_true]
            by_cases c : mk2 (exB (hasB A a b (nI 0) v) (oN A)) (exB (hasB A a b (nI 1) v) (oN A)) = w <;> simp [newB, ef, e3, e2, c]
  · show B_X12_matched_29 _ _ _ _ _ _ _ = _
    unfold B_X12_matched_29 F_X12_gives
    simp (disch := omega) only [↓m1_n, li_n, li_0, li_1, lt_y, lt_n, le_y, le_n, eq_n, nL, nLe, nEq, nEm, mEn, nLm, mLn, nLem, mLen, nI_add, nI_mul, nI_sub, nI_m, ib_nI, nx_nI, gd_tt, bnd_eq, Option.bind_some, ↓reduceIte, hI_uI_o, hI_uI_s, hI_uI_e, hL_uI, hI_uL, hL_uL_o, hL_uL_s, hL_uL_e, and1_a, and1_b, Bool.not_true, Bool.not_false, Nat.zero_add, Nat.add_zero, Nat.add_sub_cancel, eq_self, ne_b, g0_0, g0_1, g0_2, g0_3, g0_4, g0_5, g0_6, g0_7, g0_8, g0_9, n1, n2, g3_2, g3_3, g3_4, g3_5, g3_6, g3_7, g3_8, g3_9, n4, n5, n6, n7, n8, n9, g10_2, g10_3, g10_4, g10_5, n11, n12, n13, n14, g15_2, g15_3, g15_4, g15_5, n16, n17, n18, n19, g40_0, g40_1, g40_2, g44_0, g44_2, g44_3, g44_5, g44_6, g44_10, g51_3, g51_4, g51_5, g51_6, g51_7, g57_3, g57_4, g57_5, g57_6, g57_7, n120, n121, g122_0, g122_4, g122_5, g122_6, g122_7, g122_8, g122_18, g122_19, g122_20, g122_21, g122_24, g122_25, g122_28, g122_29, g122_31, g122_32, g122_33, g122_39, g122_40, g122_41, g122_45, g122_46, g122_47, g122_48, n123, n124, n125, n126, n127, n128, n129, n130, n131, n132, n133, n134, n135, n136, n137, n138, n139, n140, n141, n142, n143, n144, n145, n146, mNc rm]
    rfl
theorem exB_or {P Q : Nat → Bool} : ∀ n, exB (fun d => P d || Q d) n = (exB P n || exB Q n) := by
  intro n
  induction n with
  | zero => rfl
  | succ n ih =>
    rw [exB, exB, exB, ih]
    cases exB P n <;> cases exB Q n <;> cases P n <;> cases Q n <;> rfl
theorem exB_congr {P Q : Nat → Bool} : ∀ n, (∀ j, j < n → P j = Q j) → exB P n = exB Q n := by
  intro n
  induction n with
  | zero => intro _; rfl
  | succ n ih =>
    intro h
    rw [exB, exB, ih (fun j hj => h j (by omega)), h n (by omega)]
theorem matched_eq {A : Ho} {q a b : Nat} {k : Int32} {w : Nat} {both : Bool} (ok : HoOk q A) (h6 : b < a + 6) (hw : (w = 0 ∧ k = nI 0 ∧ both = true) ∨ (w = 1 ∧ k = nI 0 ∧ both = false) ∨ (w = 2 ∧ k = nI 1 ∧ both = false)) : cnt (newB (inkB A k) (fun c => fld A c a b) (fun v => exB (hasB A a b (nI 1 - k) v) (oN A) == both)) (oN A) = cnt (newB (inkd A) (fun c => fld A c a b) (fun v => decide (mk2 (exB (hasB A a b (nI 0) v) (oN A)) (exB (hasB A a b (nI 1) v) (oN A)) = (if w = 0 then 3 else w)))) (oN A) := by
  rw [cnt_new (N := 1000000) (oN A) (fun c _ v => fld_lt h6), cnt_new (N := 1000000) (oN A) (fun c _ v => fld_lt h6)]
  refine cnt_congr _ (fun v _ => ?_)
  have e1 : exB (fun d => inkd A d && decide (fld A d a b = some v)) (oN A) = (exB (hasB A a b (nI 0) v) (oN A) || exB (hasB A a b (nI 1) v) (oN A)) := by
    rw [← exB_or]
    refine exB_congr _ (fun j hj => ?_)
    have hk : oK A j = mN ∨ oK A j = nI 0 ∨ oK A j = nI 1 := (ok.2.1 j hj).2.2.1
    have t1 : ¬ nI 0 = nI 1 := by decide
    have t2 : ¬ nI 1 = nI 0 := by decide
    have t3 : ¬ nI 0 = mN := by decide
    have t4 : ¬ nI 1 = mN := by decide
    have t5 : ¬ mN = nI 0 := by decide
    have t6 : ¬ mN = nI 1 := by decide
    rcases hk with e | e | e <;> simp [inkd, hasB, e, t1, t2, t3, t4, t5, t6]
  rw [e1, ← hasB_eq]
  rcases hw with ⟨rfl, rfl, rfl⟩ | ⟨rfl, rfl, rfl⟩ | ⟨rfl, rfl, rfl⟩
  · rw [show nI 1 - nI 0 = nI 1 by decide]
    cases exB (hasB A a b (nI 0) v) (oN A) <;> cases exB (hasB A a b (nI 1) v) (oN A) <;> decide
  · rw [show nI 1 - nI 0 = nI 1 by decide]
    cases exB (hasB A a b (nI 0) v) (oN A) <;> cases exB (hasB A a b (nI 1) v) (oN A) <;> decide
  · rw [show nI 1 - nI 1 = nI 0 by decide]
    cases exB (hasB A a b (nI 0) v) (oN A) <;> cases exB (hasB A a b (nI 1) v) (oN A) <;> decide
theorem op_matched (q : Nat) (h : Hp) (x y z : Int32) (_ : q < 512) (i : Inv q h) : ∃ h1 h2 r, F_X11_matched h 0 x y z = some (h1, r) ∧ F_X12_matched h1 122 x y z = some (h2, r) ∧ Inv (q + 1) h2 := by
  obtain ⟨A, m, Mk, ok, rc, rm, -⟩ := id i.1
  have hn := ok.1
  refine Ask.go (f := fun h => F_X11_matched h 0 x y z) (g := fun h => F_X12_matched h 122 x y z) i ?_
  show Ask h (F_X11_matched h 0 x y z) _
  unfold F_X11_matched F_X12_matched
  rw [g0_2]
  rcases p_field (h := h) x y with ⟨d1, d2⟩ | ⟨⟨a, b, hab, hb, hab6, rfl, rfl⟩, d1, d2⟩
  · exact ⟨(1, -1), by rw [d1]; rfl, fun h' u => by dsimp only; rw [d2 h' u]; rfl⟩
  rcases nI_cases z (n := 3) (by decide) with (p | p) | ⟨w, hw, rfl⟩
  · exact ⟨(1, -1), by rw [d1]; simp only [Option.bind_some, if_pos p]; rfl, fun h' u => by dsimp only; rw [d2 h' u]; simp only [Option.bind_some, if_pos p]; rfl⟩
  · have p0 : ¬ z < 0 := Int32.not_lt.mpr (Int32.le_trans (by decide) p)
    have p2 : ¬ z ≤ 2 := fun e => absurd (Int32.le_trans p e) (by decide)
    exact ⟨(1, -1), by rw [d1]; simp only [Option.bind_some, if_neg p0, if_neg p2]; rfl, fun h' u => by dsimp only; rw [d2 h' u]; simp only [Option.bind_some, if_neg p0, if_neg p2]; rfl⟩
  have : w = 0 ∨ w = 1 ∨ w = 2 := by omega
  rcases this with rfl | rfl | rfl
  · have C := c_matchedL (k := nI 0) ok rc hab hb hab6 true
    rw [matched_eq (w := 0) ok hab6 (Or.inl ⟨rfl, rfl, rfl⟩)] at C
    exact ⟨(0, _), by unfold F_X2_matchedBy J_X2_matchedBy_10; simp (disch := omega) only [↓m1_n, li_n, li_0, li_1, lt_y, lt_n, le_y, le_n, eq_n, nL, nLe, nEq, nEm, mEn, nLm, mLn, nLem, mLen, nI_add, nI_mul, nI_sub, nI_m, ib_nI, nx_nI, gd_tt, bnd_eq, Option.bind_some, ↓reduceIte, hI_uI_o, hI_uI_s, hI_uI_e, hL_uI, hI_uL, hL_uL_o, hL_uL_s, hL_uL_e, and1_a, and1_b, Bool.not_true, Bool.not_false, Nat.zero_add, Nat.add_zero, Nat.add_sub_cancel, eq_self, ne_b, g0_0, g0_1, g0_2, g0_3, g0_4, g0_5, g0_6, g0_7, g0_8, g0_9, n1, n2, g3_2, g3_3, g3_4, g3_5, g3_6, g3_7, g3_8, g3_9, n4, n5, n6, n7, n8, n9, g10_2, g10_3, g10_4, g10_5, n11, n12, n13, n14, g15_2, g15_3, g15_4, g15_5, n16, n17, n18, n19, g40_0, g40_1, g40_2, g44_0, g44_2, g44_3, g44_5, g44_6, g44_10, g51_3, g51_4, g51_5, g51_6, g51_7, g57_3, g57_4, g57_5, g57_6, g57_7, n120, n121, g122_0, g122_4, g122_5, g122_6, g122_7, g122_8, g122_18, g122_19, g122_20, g122_21, g122_24, g122_25, g122_28, g122_29, g122_31, g122_32, g122_33, g122_39, g122_40, g122_41, g122_45, g122_46, g122_47, g122_48, n123, n124, n125, n126, n127, n128, n129, n130, n131, n132, n133, n134, n135, n136, n137, n138, n139, n140, n141, n142, n143, n144, n145, n146, d1, show L_X2_matchedBy_29 h 3 (nI a) (nI b) (nI 0) (nI 1) (nI 0) (nI 0) = _ from C] <;> rfl, fun h' u => by simp (disch := omega) only [↓m1_n, li_n, li_0, li_1, lt_y, lt_n, le_y, le_n, eq_n, nL, nLe, nEq, nEm, mEn, nLm, mLn, nLem, mLen, nI_add, nI_mul, nI_sub, nI_m, ib_nI, nx_nI, gd_tt, bnd_eq, Option.bind_some, ↓reduceIte, hI_uI_o, hI_uI_s, hI_uI_e, hL_uI, hI_uL, hL_uL_o, hL_uL_s, hL_uL_e, and1_a, and1_b, Bool.not_true, Bool.not_false, Nat.zero_add, Nat.add_zero, Nat.add_sub_cancel, eq_self, ne_b, g0_0, g0_1, g0_2, g0_3, g0_4, g0_5, g0_6, g0_7, g0_8, g0_9, n1, n2, g3_2, g3_3, g3_4, g3_5, g3_6, g3_7, g3_8, g3_9, n4, n5, n6, n7, n8, n9, g10_2, g10_3, g10_4, g10_5, n11, n12, n13, n14, g15_2, g15_3, g15_4, g15_5, n16, n17, n18, n19, g40_0, g40_1, g40_2, g44_0, g44_2, g44_3, g44_5, g44_6, g44_10, g51_3, g51_4, g51_5, g51_6, g51_7, g57_3, g57_4, g57_5, g57_6, g57_7, n120, n121, g122_0, g122_4, g122_5, g122_6, g122_7, g122_8, g122_18, g122_19, g122_20, g122_21, g122_24, g122_25, g122_28, g122_29, g122_31, g122_32, g122_33, g122_39, g122_40, g122_41, g122_45, g122_46, g122_47, g122_48, n123, n124, n125, n126, n127, n128, n129, n130, n131, n132, n133, n134, n135, n136, n137, n138, n139, n140, n141, n142, n143, n144, n145, n146, d2 h' u, m_matchedL ok (u.rm rm)] <;> rfl⟩
  · have C := c_matchedL (k := nI 0) ok rc hab hb hab6 false
    rw [matched_eq (w := 1) ok hab6 (Or.inr (Or.inl ⟨rfl, rfl, rfl⟩))] at C
    exact ⟨(0, _), by unfold F_X2_matchedBy J_X2_matchedBy_10; simp (disch := omega) only [↓m1_n, li_n, li_0, li_1, lt_y, lt_n, le_y, le_n, eq_n, nL, nLe, nEq, nEm, mEn, nLm, mLn, nLem, mLen, nI_add, nI_mul, nI_sub, nI_m, ib_nI, nx_nI, gd_tt, bnd_eq, Option.bind_some, ↓reduceIte, hI_uI_o, hI_uI_s, hI_uI_e, hL_uI, hI_uL, hL_uL_o, hL_uL_s, hL_uL_e, and1_a, and1_b, Bool.not_true, Bool.not_false, Nat.zero_add, Nat.add_zero, Nat.add_sub_cancel, eq_self, ne_b, g0_0, g0_1, g0_2, g0_3, g0_4, g0_5, g0_6, g0_7, g0_8, g0_9, n1, n2, g3_2, g3_3, g3_4, g3_5, g3_6, g3_7, g3_8, g3_9, n4, n5, n6, n7, n8, n9, g10_2, g10_3, g10_4, g10_5, n11, n12, n13, n14, g15_2, g15_3, g15_4, g15_5, n16, n17, n18, n19, g40_0, g40_1, g40_2, g44_0, g44_2, g44_3, g44_5, g44_6, g44_10, g51_3, g51_4, g51_5, g51_6, g51_7, g57_3, g57_4, g57_5, g57_6, g57_7, n120, n121, g122_0, g122_4, g122_5, g122_6, g122_7, g122_8, g122_18, g122_19, g122_20, g122_21, g122_24, g122_25, g122_28, g122_29, g122_31, g122_32, g122_33, g122_39, g122_40, g122_41, g122_45, g122_46, g122_47, g122_48, n123, n124, n125, n126, n127, n128, n129, n130, n131, n132, n133, n134, n135, n136, n137, n138, n139, n140, n141, n142, n143, n144, n145, n146, d1, show L_X2_matchedBy_29 h 3 (nI a) (nI b) (nI 0) (nI 0) (nI 0) (nI 0) = _ from C] <;> rfl, fun h' u => by simp (disch := omega) only [↓m1_n, li_n, li_0, li_1, lt_y, lt_n, le_y, le_n, eq_n, nL, nLe, nEq, nEm, mEn, nLm, mLn, nLem, mLen, nI_add, nI_mul, nI_sub, nI_m, ib_nI, nx_nI, gd_tt, bnd_eq, Option.bind_some, ↓reduceIte, hI_uI_o, hI_uI_s, hI_uI_e, hL_uI, hI_uL, hL_uL_o, hL_uL_s, hL_uL_e, and1_a, and1_b, Bool.not_true, Bool.not_false, Nat.zero_add, Nat.add_zero, Nat.add_sub_cancel, eq_self, ne_b, g0_0, g0_1, g0_2, g0_3, g0_4, g0_5, g0_6, g0_7, g0_8, g0_9, n1, n2, g3_2, g3_3, g3_4, g3_5, g3_6, g3_7, g3_8, g3_9, n4, n5, n6, n7, n8, n9, g10_2, g10_3, g10_4, g10_5, n11, n12, n13, n14, g15_2, g15_3, g15_4, g15_5, n16, n17, n18, n19, g40_0, g40_1, g40_2, g44_0, g44_2, g44_3, g44_5, g44_6, g44_10, g51_3, g51_4, g51_5, g51_6, g51_7, g57_3, g57_4, g57_5, g57_6, g57_7, n120, n121, g122_0, g122_4, g122_5, g122_6, g122_7, g122_8, g122_18, g122_19, g122_20, g122_21, g122_24, g122_25, g122_28, g122_29, g122_31, g122_32, g122_33, g122_39, g122_40, g122_41, g122_45, g122_46, g122_47, g122_48, n123, n124, n125, n126, n127, n128, n129, n130, n131, n132, n133, n134, n135, n136, n137, n138, n139, n140, n141, n142, n143, n144, n145, n146, d2 h' u, m_matchedL ok (u.rm rm)] <;> rfl⟩
  · have C := c_matchedL (k := nI 1) ok rc hab hb hab6 false
    rw [matched_eq (w := 2) ok hab6 (Or.inr (Or.inr ⟨rfl, rfl, rfl⟩))] at C
    exact ⟨(0, _), by unfold F_X2_matchedBy J_X2_matchedBy_10; simp (disch := omega) only [↓m1_n, li_n, li_0, li_1, lt_y, lt_n, le_y, le_n, eq_n, nL, nLe, nEq, nEm, mEn, nLm, mLn, nLem, mLen, nI_add, nI_mul, nI_sub, nI_m, ib_nI, nx_nI, gd_tt, bnd_eq, Option.bind_some, ↓reduceIte, hI_uI_o, hI_uI_s, hI_uI_e, hL_uI, hI_uL, hL_uL_o, hL_uL_s, hL_uL_e, and1_a, and1_b, Bool.not_true, Bool.not_false, Nat.zero_add, Nat.add_zero, Nat.add_sub_cancel, eq_self, ne_b, g0_0, g0_1, g0_2, g0_3, g0_4, g0_5, g0_6, g0_7, g0_8, g0_9, n1, n2, g3_2, g3_3, g3_4, g3_5, g3_6, g3_7, g3_8, g3_9, n4, n5, n6, n7, n8, n9, g10_2, g10_3, g10_4, g10_5, n11, n12, n13, n14, g15_2, g15_3, g15_4, g15_5, n16, n17, n18, n19, g40_0, g40_1, g40_2, g44_0, g44_2, g44_3, g44_5, g44_6, g44_10, g51_3, g51_4, g51_5, g51_6, g51_7, g57_3, g57_4, g57_5, g57_6, g57_7, n120, n121, g122_0, g122_4, g122_5, g122_6, g122_7, g122_8, g122_18, g122_19, g122_20, g122_21, g122_24, g122_25, g122_28, g122_29, g122_31, g122_32, g122_33, g122_39, g122_40, g122_41, g122_45, g122_46, g122_47, g122_48, n123, n124, n125, n126, n127, n128, n129, n130, n131, n132, n133, n134, n135, n136, n137, n138, n139, n140, n141, n142, n143, n144, n145, n146, d1, show L_X2_matchedBy_29 h 3 (nI a) (nI b) (nI 1) (nI 0) (nI 0) (nI 0) = _ from C] <;> rfl, fun h' u => by simp (disch := omega) only [↓m1_n, li_n, li_0, li_1, lt_y, lt_n, le_y, le_n, eq_n, nL, nLe, nEq, nEm, mEn, nLm, mLn, nLem, mLen, nI_add, nI_mul, nI_sub, nI_m, ib_nI, nx_nI, gd_tt, bnd_eq, Option.bind_some, ↓reduceIte, hI_uI_o, hI_uI_s, hI_uI_e, hL_uI, hI_uL, hL_uL_o, hL_uL_s, hL_uL_e, and1_a, and1_b, Bool.not_true, Bool.not_false, Nat.zero_add, Nat.add_zero, Nat.add_sub_cancel, eq_self, ne_b, g0_0, g0_1, g0_2, g0_3, g0_4, g0_5, g0_6, g0_7, g0_8, g0_9, n1, n2, g3_2, g3_3, g3_4, g3_5, g3_6, g3_7, g3_8, g3_9, n4, n5, n6, n7, n8, n9, g10_2, g10_3, g10_4, g10_5, n11, n12, n13, n14, g15_2, g15_3, g15_4, g15_5, n16, n17, n18, n19, g40_0, g40_1, g40_2, g44_0, g44_2, g44_3, g44_5, g44_6, g44_10, g51_3, g51_4, g51_5, g51_6, g51_7, g57_3, g57_4, g57_5, g57_6, g57_7, n120, n121, g122_0, g122_4, g122_5, g122_6, g122_7, g122_8, g122_18, g122_19, g122_20, g122_21, g122_24, g122_25, g122_28, g122_29, g122_31, g122_32, g122_33, g122_39, g122_40, g122_41, g122_45, g122_46, g122_47, g122_48, n123, n124, n125, n126, n127, n128, n129, n130, n131, n132, n133, n134, n135, n136, n137, n138, n139, n140, n141, n142, n143, n144, n145, n146, d2 h' u, m_matchedL ok (u.rm rm)] <;> rfl⟩
