/-! ===== collate ===== -/
/-- the reference's cards, while its deck is laid anew; its row has the old deck -/
def RmW (h : Hp) (A : Ho) : Prop := hI h 123 0 = nI (oN A) ∧ (∀ i, i < oN A → (∀ k, k < 8 → hI h 123 (8 + 11 * i + k) = nI (oH A i k)) ∧ hI h 123 (8 + 11 * i + 9) = oK A i) ∧ ∀ k, k < oN A → hI h 134 k = nI (oD A k)
theorem RmW_of {h : Hp} {A : Ho} (rm : RmH h 0 A) (e : ∀ k, k < oN A → hI h 134 k = nI (oD A k)) : RmW h A := by
  refine ⟨mNc rm, fun i hi => ⟨fun k hk => ?_, ?_⟩, e⟩
  · have := (rm.1.2.2 i hi).1 k hk
    rw [Nat.zero_add] at this
    exact this
  · have := (rm.1.2.2 i hi).2.2.1
    rw [Nat.zero_add] at this
    rw [show 8 + 11 * i + 9 = 17 + 11 * i by omega]
    exact this
theorem RmW_deck {q : Nat} {h h' : Hp} {A : Ho} (ok : HoOk q A) (w : RmW h A) (e : ∀ k, k < 338 → hI h' 123 k = hI h 123 k) (e2 : hI h' 134 = hI h 134) : RmW h' A := by
  have hA := ok.1
  refine ⟨(e 0 (by omega)).trans w.1, fun i hi => ⟨fun k hk => (e _ (by omega)).trans ((w.2.1 i hi).1 k hk), (e _ (by omega)).trans (w.2.1 i hi).2⟩, fun k hk => by rw [e2]; exact w.2.2 k hk⟩
theorem m_readsW {h : Hp} {A : Ho} {q i k : Nat} (ok : HoOk q A) (w : RmW h A) (hi : i < oN A) (hk : k < 8) : F_X12_reads h 122 (nI i) (nI k) = some (nI (rdN (oH A i k))) := by
  have hv := (ok.2.1 i hi).1 k hk
  unfold F_X12_reads
  rw [m_ofCard ok hi (by omega), (w.2.1 i hi).1 k hk]
  simp only [Option.bind_some]
  generalize oH A i k = v at *
  by_cases h0 : v = 0
  · subst h0
    rfl
  · rw [if_neg (show ¬ nI v = 0 from fun e => h0 (nI_inj (by omega) (by decide) e)), nI_1023 (by omega), rdN_W h0, m_bits (Nat.mod_lt _ (by decide))]
    simp only [Option.bind_some]
    have hw : v % 1024 < 1024 := Nat.mod_lt _ (by decide)
    generalize v % 1024 = w at *
    have e : w = 32 * (w / 32) + w % 32 := (Nat.div_add_mod w 32).symm
    have B := Bre_all (w / 32) (by omega) (w % 32) (by omega)
    rw [← e] at B
    by_cases h1 : pcN 10 w = 1
    · rw [h1, if_pos (by decide)]
      exact iterW_N 11 (B.1 h1)
    · rw [if_neg (show ¬ nI (pcN 10 w) = 1 from fun e => h1 (nI_inj (b := 1) (by omega) (by decide) e)), B.2.1 h1]
      rfl
theorem m_numberW {h : Hp} {A : Ho} {q i a b : Nat} (ok : HoOk q A) (w : RmW h A) (hi : i < oN A) (hab : a ≤ b + 1) (hb : b < 8) : F_X12_numberOf h 122 (nI i) (nI a) (nI b) = some (oI (fld A i a b)) := by
  have key : ∀ n c v, c + n = b + 1 → iterW (fun s : Int32 × Int32 => B_X12_numberOf_6 h 122 (nI i) (nI b) s.1 s.2) (nI v, nI c) = some (oI (fldF (fun c => rdN (oH A i c)) n c v)) := by
    intro n
    induction n with
    | zero =>
      intro c v e
      refine iterW_end ?_
      show B_X12_numberOf_6 _ _ _ _ _ _ = _
      unfold B_X12_numberOf_6
      simp (disch := omega) only [↓m1_n, li_n, li_0, li_1, lt_y, lt_n, le_y, le_n, eq_n, nL, nLe, nEq, nEm, mEn, nLm, mLn, nLem, mLen, nI_add, nI_mul, nI_sub, nI_m, ib_nI, nx_nI, gd_y, bnd_e, bind_y, ↓reduceIte, hI_uI_o, hI_uI_s, hI_uI_e, hL_uI, hI_uL, hL_uL_o, hL_uL_s, hL_uL_e, and1_a, and1_b, Bool.not_true, Bool.not_false, Nat.zero_add, Nat.add_zero, Nat.add_sub_cancel, eq_self, ne_b, g0_0, g0_1, g0_2, g0_3, g0_4, g0_5, g0_6, g0_7, g0_8, g0_9, n1, n2, g3_2, g3_3, g3_4, g3_5, g3_6, g3_7, g3_8, g3_9, n4, n5, n6, n7, n8, n9, g10_2, g10_3, g10_4, g10_5, n11, n12, n13, n14, g15_2, g15_3, g15_4, g15_5, n16, n17, n18, n19, g40_0, g40_1, g40_2, g44_0, g44_2, g44_3, g44_5, g44_6, g44_10, g51_3, g51_4, g51_5, g51_6, g51_7, g57_3, g57_4, g57_5, g57_6, g57_7, n120, n121, g122_0, g122_4, g122_5, g122_6, g122_7, g122_8, g122_18, g122_19, g122_20, g122_21, g122_24, g122_25, g122_28, g122_29, g122_31, g122_32, g122_33, g122_39, g122_40, g122_41, g122_45, g122_46, g122_47, g122_48, n123, n124, n125, n126, n127, n128, n129, n130, n131, n132, n133, n134, n135, n136, n137, n138, n139, n140, n141, n142, n143, n144, n145, n146]
      rfl
    | succ n ih =>
      intro c v e
      have hr := rdN_le (oH A i c)
      rw [iterW_st (o := if rdN (oH A i c) = 11 then some (.inr (-1)) else if rdN (oH A i c) = 10 then some (.inl (nI (v * 10 + 0), nI (c + 1))) else some (.inl (nI (v * 10 + rdN (oH A i c)), nI (c + 1)))) (by
        unfold B_X12_numberOf_6
        simp (disch := omega) only [↓m1_n, li_n, li_0, li_1, lt_y, lt_n, le_y, le_n, eq_n, nL, nLe, nEq, nEm, mEn, nLm, mLn, nLem, mLen, nI_add, nI_mul, nI_sub, nI_m, ib_nI, nx_nI, gd_y, bnd_e, bind_y, ↓reduceIte, hI_uI_o, hI_uI_s, hI_uI_e, hL_uI, hI_uL, hL_uL_o, hL_uL_s, hL_uL_e, and1_a, and1_b, Bool.not_true, Bool.not_false, Nat.zero_add, Nat.add_zero, Nat.add_sub_cancel, eq_self, ne_b, g0_0, g0_1, g0_2, g0_3, g0_4, g0_5, g0_6, g0_7, g0_8, g0_9, n1, n2, g3_2, g3_3, g3_4, g3_5, g3_6, g3_7, g3_8, g3_9, n4, n5, n6, n7, n8, n9, g10_2, g10_3, g10_4, g10_5, n11, n12, n13, n14, g15_2, g15_3, g15_4, g15_5, n16, n17, n18, n19, g40_0, g40_1, g40_2, g44_0, g44_2, g44_3, g44_5, g44_6, g44_10, g51_3, g51_4, g51_5, g51_6, g51_7, g57_3, g57_4, g57_5, g57_6, g57_7, n120, n121, g122_0, g122_4, g122_5, g122_6, g122_7, g122_8, g122_18, g122_19, g122_20, g122_21, g122_24, g122_25, g122_28, g122_29, g122_31, g122_32, g122_33, g122_39, g122_40, g122_41, g122_45, g122_46, g122_47, g122_48, n123, n124, n125, n126, n127, n128, n129, n130, n131, n132, n133, n134, n135, n136, n137, n138, n139, n140, n141, n142, n143, n144, n145, n146, m_readsW ok w hi (show c < 8 by omega), Nat.mul_comm 10 v])]
      unfold fldF
      by_cases e1 : rdN (oH A i c) = 11
      · rw [if_pos e1, if_pos e1]
        rfl
      · rw [if_neg e1, if_neg e1]
        by_cases e2 : rdN (oH A i c) = 10
        · rw [if_pos e2, if_pos e2]
          exact ih _ _ (by omega)
        · rw [if_neg e2, if_neg e2]
          exact ih _ _ (by omega)
  exact key (b + 1 - a) a 0 (by omega)
theorem m_inkW {h : Hp} {A : Ho} {q i : Nat} (ok : HoOk q A) (w : RmW h A) (hi : i < oN A) : F_X12_ofCard h 122 (nI i) (nI 9) = some (oK A i) := by
  rw [m_ofCard ok hi (by omega), (w.2.1 i hi).2]
def coP (A : Ho) (a b : Nat) (k : Int32) (p : Nat) : Bool := decide (oK A (oD A p) = k) && (fld A (oD A p) a b).isSome
def coV (A : Ho) (a b : Nat) (p : Nat) : Nat := fv A (oD A p) a b
theorem coP_dj {A : Ho} {a b : Nat} : ∀ j, coP A a b (nI 0) j = true → coP A a b (nI 1) j = true → False := by
  intro j h1 h2
  simp only [coP, Bool.and_eq_true, decide_eq_true_eq] at h1 h2
  rw [h1.1] at h2
  exact absurd h2.1 (by decide)
theorem oI_ism {o : Option Nat} (h : ∀ w, o = some w → w < 1000000) : (oI o = mN) = (o.isSome = false) := by
  cases o with
  | none => exact propext ⟨fun _ => rfl, fun _ => rfl⟩
  | some w =>
    have := h w rfl
    exact propext ⟨fun e => absurd e (nI_m1 (by omega)), fun e => by cases e⟩
theorem c_next {h : Hp} {A : Ho} {q a b f : Nat} {k : Int32} (ok : HoOk q A) (rc : RcH h 3 A) (hab : a ≤ b) (hb : b < 8) (h6 : b < a + 6) (hf : f ≤ oN A) : F_X3_nextInInk h 3 (nI f) k (nI a) (nI b) = some (nI (nxP (coP A a b k) (oN A) f)) := by
  have hA := ok.1
  have key : F_X3_nextInInk h 3 (nI f) k (nI a) (nI b) = some ((fst1 (coP A a b k) (oN A - f) f).elim (nI (oN A)) nI) := by
    refine iterW_fst (fun j => nI j) _ nI (nI (oN A)) (oN A - f) f (fun j h1 h2 => ?_) ?_
    · show B_X3_nextInInk_3 _ _ _ _ _ _ = _
      unfold B_X3_nextInInk_3 F_X3_collates
      have hd := (ok.2.1 j (by omega)).2.2.2.2
      have hl : ∀ w, fld A (oD A j) a b = some w → w < 1000000 := fun w => fld_lt h6
      simp (disch := omega) only [↓m1_n, li_n, li_0, li_1, lt_y, lt_n, le_y, le_n, eq_n, nL, nLe, nEq, nEm, mEn, nLm, mLn, nLem, mLen, nI_add, nI_mul, nI_sub, nI_m, ib_nI, nx_nI, gd_y, bnd_e, bind_y, ↓reduceIte, hI_uI_o, hI_uI_s, hI_uI_e, hL_uI, hI_uL, hL_uL_o, hL_uL_s, hL_uL_e, and1_a, and1_b, Bool.not_true, Bool.not_false, Nat.zero_add, Nat.add_zero, Nat.add_sub_cancel, eq_self, ne_b, g0_0, g0_1, g0_2, g0_3, g0_4, g0_5, g0_6, g0_7, g0_8, g0_9, n1, n2, g3_2, g3_3, g3_4, g3_5, g3_6, g3_7, g3_8, g3_9, n4, n5, n6, n7, n8, n9, g10_2, g10_3, g10_4, g10_5, n11, n12, n13, n14, g15_2, g15_3, g15_4, g15_5, n16, n17, n18, n19, g40_0, g40_1, g40_2, g44_0, g44_2, g44_3, g44_5, g44_6, g44_10, g51_3, g51_4, g51_5, g51_6, g51_7, g57_3, g57_4, g57_5, g57_6, g57_7, n120, n121, g122_0, g122_4, g122_5, g122_6, g122_7, g122_8, g122_18, g122_19, g122_20, g122_21, g122_24, g122_25, g122_28, g122_29, g122_31, g122_32, g122_33, g122_39, g122_40, g122_41, g122_45, g122_46, g122_47, g122_48, n123, n124, n125, n126, n127, n128, n129, n130, n131, n132, n133, n134, n135, n136, n137, n138, n139, n140, n141, n142, n143, n144, n145, n146, cNn rc, cDe rc, cIn rc, c_fieldOf ok rc, oI_ism hl]
      by_cases c1 : oK A (oD A j) = k
      · cases c2 : (fld A (oD A j) a b).isSome <;> simp (disch := omega) only [↓m1_n, li_n, li_0, li_1, lt_y, lt_n, le_y, le_n, eq_n, nL, nLe, nEq, nEm, mEn, nLm, mLn, nLem, mLen, nI_add, nI_mul, nI_sub, nI_m, ib_nI, nx_nI, gd_y, bnd_e, bind_y, ↓reduceIte, hI_uI_o, hI_uI_s, hI_uI_e, hL_uI, hI_uL, hL_uL_o, hL_uL_s, hL_uL_e, and1_a, and1_b, Bool.not_true, Bool.not_false, Nat.zero_add, Nat.add_zero, Nat.add_sub_cancel, eq_self, ne_b, g0_0, g0_1, g0_2, g0_3, g0_4, g0_5, g0_6, g0_7, g0_8, g0_9, n1, n2, g3_2, g3_3, g3_4, g3_5, g3_6, g3_7, g3_8, g3_9, n4, n5, n6, n7, n8, n9, g10_2, g10_3, g10_4, g10_5, n11, n12, n13, n14, g15_2, g15_3, g15_4, g15_5, n16, n17, n18, n19, g40_0, g40_1, g40_2, g44_0, g44_2, g44_3, g44_5, g44_6, g44_10, g51_3, g51_4, g51_5, g51_6, g51_7, g57_3, g57_4, g57_5, g57_6, g57_7, n120, n121, g122_0, g122_4, g122_5, g122_6, g122_7, g122_8, g122_18, g122_19, g122_20, g122_21, g122_24, g122_25, g122_28, g122_29, g122_31, g122_32, g122_33, g122_39, g122_40, g122_41, g122_45, g122_46, g122_47, g122_48, n123, n124, n125, n126, n127, n128, n129, n130, n131, n132, n133, n134, n135, n136, n137, n138, n139, n140, n141, n142, n143, n144, n145, n146, c1, c2, coP, decide_true, decide_false, Bool.and_true, Bool.and_false, Bool.true_eq_false, Bool.false_eq_true]
      · simp (disch := omega) only [↓m1_n, li_n, li_0, li_1, lt_y, lt_n, le_y, le_n, eq_n, nL, nLe, nEq, nEm, mEn, nLm, mLn, nLem, mLen, nI_add, nI_mul, nI_sub, nI_m, ib_nI, nx_nI, gd_y, bnd_e, bind_y, ↓reduceIte, hI_uI_o, hI_uI_s, hI_uI_e, hL_uI, hI_uL, hL_uL_o, hL_uL_s, hL_uL_e, and1_a, and1_b, Bool.not_true, Bool.not_false, Nat.zero_add, Nat.add_zero, Nat.add_sub_cancel, eq_self, ne_b, g0_0, g0_1, g0_2, g0_3, g0_4, g0_5, g0_6, g0_7, g0_8, g0_9, n1, n2, g3_2, g3_3, g3_4, g3_5, g3_6, g3_7, g3_8, g3_9, n4, n5, n6, n7, n8, n9, g10_2, g10_3, g10_4, g10_5, n11, n12, n13, n14, g15_2, g15_3, g15_4, g15_5, n16, n17, n18, n19, g40_0, g40_1, g40_2, g44_0, g44_2, g44_3, g44_5, g44_6, g44_10, g51_3, g51_4, g51_5, g51_6, g51_7, g57_3, g57_4, g57_5, g57_6, g57_7, n120, n121, g122_0, g122_4, g122_5, g122_6, g122_7, g122_8, g122_18, g122_19, g122_20, g122_21, g122_24, g122_25, g122_28, g122_29, g122_31, g122_32, g122_33, g122_39, g122_40, g122_41, g122_45, g122_46, g122_47, g122_48, n123, n124, n125, n126, n127, n128, n129, n130, n131, n132, n133, n134, n135, n136, n137, n138, n139, n140, n141, n142, n143, n144, n145, n146, c1, coP, decide_false, Bool.false_and, Bool.false_eq_true]
    · rw [show f + (oN A - f) = oN A by omega]
      show B_X3_nextInInk_3 _ _ _ _ _ _ = _
      unfold B_X3_nextInInk_3
      simp (disch := omega) only [↓m1_n, li_n, li_0, li_1, lt_y, lt_n, le_y, le_n, eq_n, nL, nLe, nEq, nEm, mEn, nLm, mLn, nLem, mLen, nI_add, nI_mul, nI_sub, nI_m, ib_nI, nx_nI, gd_y, bnd_e, bind_y, ↓reduceIte, hI_uI_o, hI_uI_s, hI_uI_e, hL_uI, hI_uL, hL_uL_o, hL_uL_s, hL_uL_e, and1_a, and1_b, Bool.not_true, Bool.not_false, Nat.zero_add, Nat.add_zero, Nat.add_sub_cancel, eq_self, ne_b, g0_0, g0_1, g0_2, g0_3, g0_4, g0_5, g0_6, g0_7, g0_8, g0_9, n1, n2, g3_2, g3_3, g3_4, g3_5, g3_6, g3_7, g3_8, g3_9, n4, n5, n6, n7, n8, n9, g10_2, g10_3, g10_4, g10_5, n11, n12, n13, n14, g15_2, g15_3, g15_4, g15_5, n16, n17, n18, n19, g40_0, g40_1, g40_2, g44_0, g44_2, g44_3, g44_5, g44_6, g44_10, g51_3, g51_4, g51_5, g51_6, g51_7, g57_3, g57_4, g57_5, g57_6, g57_7, n120, n121, g122_0, g122_4, g122_5, g122_6, g122_7, g122_8, g122_18, g122_19, g122_20, g122_21, g122_24, g122_25, g122_28, g122_29, g122_31, g122_32, g122_33, g122_39, g122_40, g122_41, g122_45, g122_46, g122_47, g122_48, n123, n124, n125, n126, n127, n128, n129, n130, n131, n132, n133, n134, n135, n136, n137, n138, n139, n140, n141, n142, n143, n144, n145, n146, cNn rc]
  rw [key]
  unfold nxP
  cases fst1 (coP A a b k) (oN A - f) f <;> rfl
theorem m_next {h : Hp} {A : Ho} {q a b f : Nat} {k : Int32} (ok : HoOk q A) (w : RmW h A) (hab : a ≤ b) (hb : b < 8) (h6 : b < a + 6) (hf : f ≤ oN A) : F_X12_nextOf h 122 (nI f) k (nI a) (nI b) = some (nI (nxP (coP A a b k) (oN A) f)) := by
  have hA := ok.1
  have key : F_X12_nextOf h 122 (nI f) k (nI a) (nI b) = some ((fst1 (coP A a b k) (oN A - f) f).elim (nI (oN A)) nI) := by
    refine iterW_fst (fun j => nI j) _ nI (nI (oN A)) (oN A - f) f (fun j h1 h2 => ?_) ?_
    · show B_X12_nextOf_3 _ _ _ _ _ _ = _
      unfold B_X12_nextOf_3
      have hd := (ok.2.1 j (by omega)).2.2.2.2
      have hl : ∀ w, fld A (oD A j) a b = some w → w < 1000000 := fun w => fld_lt h6
      simp (disch := omega) only [↓m1_n, li_n, li_0, li_1, lt_y, lt_n, le_y, le_n, eq_n, nL, nLe, nEq, nEm, mEn, nLm, mLn, nLem, mLen, nI_add, nI_mul, nI_sub, nI_m, ib_nI, nx_nI, gd_y, bnd_e, bind_y, ↓reduceIte, hI_uI_o, hI_uI_s, hI_uI_e, hL_uI, hI_uL, hL_uL_o, hL_uL_s, hL_uL_e, and1_a, and1_b, Bool.not_true, Bool.not_false, Nat.zero_add, Nat.add_zero, Nat.add_sub_cancel, eq_self, ne_b, g0_0, g0_1, g0_2, g0_3, g0_4, g0_5, g0_6, g0_7, g0_8, g0_9, n1, n2, g3_2, g3_3, g3_4, g3_5, g3_6, g3_7, g3_8, g3_9, n4, n5, n6, n7, n8, n9, g10_2, g10_3, g10_4, g10_5, n11, n12, n13, n14, g15_2, g15_3, g15_4, g15_5, n16, n17, n18, n19, g40_0, g40_1, g40_2, g44_0, g44_2, g44_3, g44_5, g44_6, g44_10, g51_3, g51_4, g51_5, g51_6, g51_7, g57_3, g57_4, g57_5, g57_6, g57_7, n120, n121, g122_0, g122_4, g122_5, g122_6, g122_7, g122_8, g122_18, g122_19, g122_20, g122_21, g122_24, g122_25, g122_28, g122_29, g122_31, g122_32, g122_33, g122_39, g122_40, g122_41, g122_45, g122_46, g122_47, g122_48, n123, n124, n125, n126, n127, n128, n129, n130, n131, n132, n133, n134, n135, n136, n137, n138, n139, n140, n141, n142, n143, n144, n145, n146, w.1, w.2.2 j (by omega), m_inkW ok w hd, m_numberW ok w hd, oI_ism hl]
      by_cases c1 : oK A (oD A j) = k
      · cases c2 : (fld A (oD A j) a b).isSome <;> simp (disch := omega) only [↓m1_n, li_n, li_0, li_1, lt_y, lt_n, le_y, le_n, eq_n, nL, nLe, nEq, nEm, mEn, nLm, mLn, nLem, mLen, nI_add, nI_mul, nI_sub, nI_m, ib_nI, nx_nI, gd_y, bnd_e, bind_y, ↓reduceIte, hI_uI_o, hI_uI_s, hI_uI_e, hL_uI, hI_uL, hL_uL_o, hL_uL_s, hL_uL_e, and1_a, and1_b, Bool.not_true, Bool.not_false, Nat.zero_add, Nat.add_zero, Nat.add_sub_cancel, eq_self, ne_b, g0_0, g0_1, g0_2, g0_3, g0_4, g0_5, g0_6, g0_7, g0_8, g0_9, n1, n2, g3_2, g3_3, g3_4, g3_5, g3_6, g3_7, g3_8, g3_9, n4, n5, n6, n7, n8, n9, g10_2, g10_3, g10_4, g10_5, n11, n12, n13, n14, g15_2, g15_3, g15_4, g15_5, n16, n17, n18, n19, g40_0, g40_1, g40_2, g44_0, g44_2, g44_3, g44_5, g44_6, g44_10, g51_3, g51_4, g51_5, g51_6, g51_7, g57_3, g57_4, g57_5, g57_6, g57_7, n120, n121, g122_0, g122_4, g122_5, g122_6, g122_7, g122_8, g122_18, g122_19, g122_20, g122_21, g122_24, g122_25, g122_28, g122_29, g122_31, g122_32, g122_33, g122_39, g122_40, g122_41, g122_45, g122_46, g122_47, g122_48, n123, n124, n125, n126, n127, n128, n129, n130, n131, n132, n133, n134, n135, n136, n137, n138, n139, n140, n141, n142, n143, n144, n145, n146, c1, c2, coP, decide_true, decide_false, Bool.and_true, Bool.and_false, Bool.true_eq_false, Bool.false_eq_true]
      · simp (disch := omega) only [↓m1_n, li_n, li_0, li_1, lt_y, lt_n, le_y, le_n, eq_n, nL, nLe, nEq, nEm, mEn, nLm, mLn, nLem, mLen, nI_add, nI_mul, nI_sub, nI_m, ib_nI, nx_nI, gd_y, bnd_e, bind_y, ↓reduceIte, hI_uI_o, hI_uI_s, hI_uI_e, hL_uI, hI_uL, hL_uL_o, hL_uL_s, hL_uL_e, and1_a, and1_b, Bool.not_true, Bool.not_false, Nat.zero_add, Nat.add_zero, Nat.add_sub_cancel, eq_self, ne_b, g0_0, g0_1, g0_2, g0_3, g0_4, g0_5, g0_6, g0_7, g0_8, g0_9, n1, n2, g3_2, g3_3, g3_4, g3_5, g3_6, g3_7, g3_8, g3_9, n4, n5, n6, n7, n8, n9, g10_2, g10_3, g10_4, g10_5, n11, n12, n13, n14, g15_2, g15_3, g15_4, g15_5, n16, n17, n18, n19, g40_0, g40_1, g40_2, g44_0, g44_2, g44_3, g44_5, g44_6, g44_10, g51_3, g51_4, g51_5, g51_6, g51_7, g57_3, g57_4, g57_5, g57_6, g57_7, n120, n121, g122_0, g122_4, g122_5, g122_6, g122_7, g122_8, g122_18, g122_19, g122_20, g122_21, g122_24, g122_25, g122_28, g122_29, g122_31, g122_32, g122_33, g122_39, g122_40, g122_41, g122_45, g122_46, g122_47, g122_48, n123, n124, n125, n126, n127, n128, n129, n130, n131, n132, n133, n134, n135, n136, n137, n138, n139, n140, n141, n142, n143, n144, n145, n146, c1, coP, decide_false, Bool.false_and, Bool.false_eq_true]
    · rw [show f + (oN A - f) = oN A by omega]
      show B_X12_nextOf_3 _ _ _ _ _ _ = _
      unfold B_X12_nextOf_3
      simp (disch := omega) only [↓m1_n, li_n, li_0, li_1, lt_y, lt_n, le_y, le_n, eq_n, nL, nLe, nEq, nEm, mEn, nLm, mLn, nLem, mLen, nI_add, nI_mul, nI_sub, nI_m, ib_nI, nx_nI, gd_y, bnd_e, bind_y, ↓reduceIte, hI_uI_o, hI_uI_s, hI_uI_e, hL_uI, hI_uL, hL_uL_o, hL_uL_s, hL_uL_e, and1_a, and1_b, Bool.not_true, Bool.not_false, Nat.zero_add, Nat.add_zero, Nat.add_sub_cancel, eq_self, ne_b, g0_0, g0_1, g0_2, g0_3, g0_4, g0_5, g0_6, g0_7, g0_8, g0_9, n1, n2, g3_2, g3_3, g3_4, g3_5, g3_6, g3_7, g3_8, g3_9, n4, n5, n6, n7, n8, n9, g10_2, g10_3, g10_4, g10_5, n11, n12, n13, n14, g15_2, g15_3, g15_4, g15_5, n16, n17, n18, n19, g40_0, g40_1, g40_2, g44_0, g44_2, g44_3, g44_5, g44_6, g44_10, g51_3, g51_4, g51_5, g51_6, g51_7, g57_3, g57_4, g57_5, g57_6, g57_7, n120, n121, g122_0, g122_4, g122_5, g122_6, g122_7, g122_8, g122_18, g122_19, g122_20, g122_21, g122_24, g122_25, g122_28, g122_29, g122_31, g122_32, g122_33, g122_39, g122_40, g122_41, g122_45, g122_46, g122_47, g122_48, n123, n124, n125, n126, n127, n128, n129, n130, n131, n132, n133, n134, n135, n136, n137, n138, n139, n140, n141, n142, n143, n144, n145, n146, w.1]
  rw [key]
  unfold nxP
  cases fst1 (coP A a b k) (oN A - f) f <;> rfl
def cSt (A : Ho) (a b k : Nat) : Nat × Nat := cst (coP A a b (nI 0)) (coP A a b (nI 1)) (coV A a b) (oN A) k
def cTt (A : Ho) (a b : Nat) : Nat := cT (coP A a b (nI 0)) (coP A a b (nI 1)) (oN A)
def cOut (A : Ho) (a b k : Nat) : Nat := out (coP A a b (nI 0)) (coP A a b (nI 1)) (coV A a b) (oN A) k
def cRs (A : Ho) (a b j : Nat) : Bool := rst (coP A a b (nI 0)) (coP A a b (nI 1)) j
def cPl (A : Ho) (a b k : Nat) : Nat := plc1 (coP A a b (nI 0)) (coP A a b (nI 1)) (coV A a b) (oN A) k
theorem cS_x {A : Ho} {a b k : Nat} (hk : k < cTt A a b) : (frs (coV A a b) (oN A) (cSt A a b k) = true ∧ (cSt A a b k).1 < oN A ∧ (cSt A a b k).2 ≤ oN A ∧ ((cSt A a b k).2 < oN A → coV A a b (cSt A a b k).1 ≤ coV A a b (cSt A a b k).2) ∧ cOut A a b k = (cSt A a b k).1 ∧ cSt A a b (k + 1) = (nxP (coP A a b (nI 0)) (oN A) ((cSt A a b k).1 + 1), (cSt A a b k).2)) ∨ (frs (coV A a b) (oN A) (cSt A a b k) = false ∧ (cSt A a b k).2 < oN A ∧ (cSt A a b k).1 ≤ oN A ∧ ((cSt A a b k).1 < oN A → coV A a b (cSt A a b k).2 < coV A a b (cSt A a b k).1) ∧ cOut A a b k = (cSt A a b k).2 ∧ cSt A a b (k + 1) = ((cSt A a b k).1, nxP (coP A a b (nI 1)) (oN A) ((cSt A a b k).2 + 1))) := by
  have l := cst_lt (coP A a b (nI 0)) (coP A a b (nI 1)) (coV A a b) (oN A) hk
  have o := cst_ok (coP A a b (nI 0)) (coP A a b (nI 1)) (coV A a b) (oN A) k (Nat.le_of_lt hk)
  cases f : frs (coV A a b) (oN A) (cSt A a b k) with
  | true =>
    refine Or.inl ⟨rfl, l.1 f, o.2.1, fun h => ?_, ?_, ?_⟩
    · have h : (cSt A a b k).2 < oN A := h
      rcases of_decide_eq_true f with e | e
      · omega
      · exact e.2
    · show (if frs (coV A a b) (oN A) (cSt A a b k) then (cSt A a b k).1 else (cSt A a b k).2) = _
      rw [if_pos f]
    · show (if frs (coV A a b) (oN A) (cSt A a b k) then _ else _) = _
      rw [if_pos f]
      rfl
  | false =>
    have f0 : ¬ frs (coV A a b) (oN A) (cSt A a b k) = true := by rw [f]; exact Bool.false_ne_true
    refine Or.inr ⟨rfl, l.2.1 f, o.1, fun h => ?_, ?_, ?_⟩
    · have h : (cSt A a b k).1 < oN A := h
      have : ¬ coV A a b (cSt A a b k).1 ≤ coV A a b (cSt A a b k).2 := fun e => f0 (decide_eq_true (Or.inr ⟨h, e⟩))
      omega
    · show (if frs (coV A a b) (oN A) (cSt A a b k) then (cSt A a b k).1 else (cSt A a b k).2) = _
      rw [if_neg f0]
    · show (if frs (coV A a b) (oN A) (cSt A a b k) then _ else _) = _
      rw [if_neg f0]
      rfl
/-- a place that collates has a number -/
theorem coP_num {A : Ho} {a b p : Nat} {k : Int32} (e : coP A a b k p = true) : oI (fld A (oD A p) a b) = nI (coV A a b p) := by
  simp only [coP, Bool.and_eq_true] at e
  obtain ⟨w, hw⟩ := Option.isSome_iff_exists.mp e.2
  unfold coV fv
  rw [hw]
  rfl
