/-! ===== parts: the serials ===== -/
def noS (A : Ho) (a b j : Nat) : Bool := (fld A (oD A j) a b).isNone
def goodS (A : Ho) (a b m : Nat) : Bool := !exB (noS A a b) m
theorem goodS_s {A : Ho} {a b m : Nat} : goodS A a b (m + 1) = (goodS A a b m && !noS A a b m) := by
  unfold goodS
  rw [exB, Bool.not_or]
theorem oI_mm {o : Option Nat} (h : ∀ w, o = some w → w < 1000000) : (oI o = mN) = (o.isNone = true) := by
  cases o with
  | none => exact propext ⟨fun _ => rfl, fun _ => rfl⟩
  | some w =>
    have := h w rfl
    refine propext ⟨fun e => ?_, fun e => absurd e Bool.false_ne_true⟩
    exact absurd e (by show ¬ nI w = mN; simp (disch := omega) only [↓m1_n, li_n, li_0, li_1, lt_y, lt_n, le_y, le_n, eq_n, nL, nLe, nEq, nEm, mEn, nLm, mLn, nLem, mLen, nI_add, nI_mul, nI_sub, nI_m, ib_nI, nx_nI, gd_y, bnd_e, bind_y, ↓reduceIte, hI_uI_o, hI_uI_s, hI_uI_e, hL_uI, hI_uL, hL_uL_o, hL_uL_s, hL_uL_e, and1_a, and1_b, Bool.not_true, Bool.not_false, Nat.zero_add, Nat.add_zero, Nat.add_sub_cancel, eq_self, ne_b, g0_0, g0_1, g0_2, g0_3, g0_4, g0_5, g0_6, g0_7, g0_8, g0_9, n1, n2, g3_2, g3_3, g3_4, g3_5, g3_6, g3_7, g3_8, g3_9, n4, n5, n6, n7, n8, n9, g10_2, g10_3, g10_4, g10_5, n11, n12, n13, n14, g15_2, g15_3, g15_4, g15_5, n16, n17, n18, n19, g40_0, g40_1, g40_2, g44_0, g44_2, g44_3, g44_5, g44_6, g44_10, g51_3, g51_4, g51_5, g51_6, g51_7, g57_3, g57_4, g57_5, g57_6, g57_7, n120, n121, g122_0, g122_4, g122_5, g122_6, g122_7, g122_8, g122_18, g122_19, g122_20, g122_21, g122_24, g122_25, g122_28, g122_29, g122_31, g122_32, g122_33, g122_39, g122_40, g122_41, g122_45, g122_46, g122_47, g122_48, n123, n124, n125, n126, n127, n128, n129, n130, n131, n132, n133, n134, n135, n136, n137, n138, n139, n140, n141, n142, n143, n144, n145, n146, not_false_eq_true])
theorem c_take {h : Hp} {A : Ho} {q a b : Nat} (ok : HoOk q A) (rc : RcH h 3 A) (hab : a ≤ b) (hb : b < 8) (h6 : b < a + 6) (nn : hI h 57 1 = nI (oN A)) : ∃ h', F_X5_takeDeck h 57 3 (nI a) (nI b) = some (h', bI (goodS A a b (oN A))) ∧ hI h' 59 0 = mN ∧ (∀ k, k < oN A → hI h' 59 (k + 1) = oI (fld A (oD A k) a b) ∧ hI h' 60 (k + 1) = oK A (oD A k)) ∧ (∀ d, d ≠ 59 → d ≠ 60 → hI h' d = hI h d) ∧ hL h' = hL h := by
  have hA := ok.1
  have key := iterW_inv (f := fun s : Hp × Int32 × Int32 => B_X5_takeDeck_13 s.1 57 3 (nI a) (nI b) s.2.1 s.2.2) (fun m s => s.2 = (bI (goodS A a b m), nI (m + 1)) ∧ hI s.1 59 0 = mN ∧ (∀ k, k < m → hI s.1 59 (k + 1) = oI (fld A (oD A k) a b) ∧ hI s.1 60 (k + 1) = oK A (oD A k)) ∧ (∀ d, d ≠ 59 → d ≠ 60 → hI s.1 d = hI h d) ∧ hL s.1 = hL h) (fun r => r.2 = bI (goodS A a b (oN A)) ∧ hI r.1 59 0 = mN ∧ (∀ k, k < oN A → hI r.1 59 (k + 1) = oI (fld A (oD A k) a b) ∧ hI r.1 60 (k + 1) = oK A (oD A k)) ∧ (∀ d, d ≠ 59 → d ≠ 60 → hI r.1 d = hI h d) ∧ hL r.1 = hL h) (oN A) (fun m s hm P => ?_) (fun s P => ?_) (s := (uI h 59 0 mN, nI 1, nI 1)) ⟨rfl, hI_uI_e, fun k hk => absurd hk (Nat.not_lt_zero k), fun d p q => hI_uI_o p, rfl⟩
  · obtain ⟨⟨h', r2⟩, k1, k2, k3⟩ := key
    have k2 : r2 = _ := k2
    subst k2
    refine ⟨h', ?_, k3⟩
    have k1 : L_X5_takeDeck_13 (uI h 59 0 mN) 57 3 (nI a) (nI b) (nI 1) (nI 1) = some (h', bI (goodS A a b (oN A))) := k1
    unfold F_X5_takeDeck
    simp (disch := omega) only [↓m1_n, li_n, li_0, li_1, lt_y, lt_n, le_y, le_n, eq_n, nL, nLe, nEq, nEm, mEn, nLm, mLn, nLem, mLen, nI_add, nI_mul, nI_sub, nI_m, ib_nI, nx_nI, gd_y, bnd_e, bind_y, ↓reduceIte, hI_uI_o, hI_uI_s, hI_uI_e, hL_uI, hI_uL, hL_uL_o, hL_uL_s, hL_uL_e, and1_a, and1_b, Bool.not_true, Bool.not_false, Nat.zero_add, Nat.add_zero, Nat.add_sub_cancel, eq_self, ne_b, g0_0, g0_1, g0_2, g0_3, g0_4, g0_5, g0_6, g0_7, g0_8, g0_9, n1, n2, g3_2, g3_3, g3_4, g3_5, g3_6, g3_7, g3_8, g3_9, n4, n5, n6, n7, n8, n9, g10_2, g10_3, g10_4, g10_5, n11, n12, n13, n14, g15_2, g15_3, g15_4, g15_5, n16, n17, n18, n19, g40_0, g40_1, g40_2, g44_0, g44_2, g44_3, g44_5, g44_6, g44_10, g51_3, g51_4, g51_5, g51_6, g51_7, g57_3, g57_4, g57_5, g57_6, g57_7, n120, n121, g122_0, g122_4, g122_5, g122_6, g122_7, g122_8, g122_18, g122_19, g122_20, g122_21, g122_24, g122_25, g122_28, g122_29, g122_31, g122_32, g122_33, g122_39, g122_40, g122_41, g122_45, g122_46, g122_47, g122_48, n123, n124, n125, n126, n127, n128, n129, n130, n131, n132, n133, n134, n135, n136, n137, n138, n139, n140, n141, n142, n143, n144, n145, n146, n59, k1]
  · obtain ⟨hx, s2⟩ := s
    obtain ⟨e2, p1, p2, p3, p4⟩ := P
    have e2 : s2 = _ := e2
    subst e2
    have p1 : hI hx 59 0 = mN := p1
    have p3 : ∀ d, d ≠ 59 → d ≠ 60 → hI hx d = hI h d := p3
    have rcx : RcH hx 3 A := RcH_congr (fun d _ _ => p3 d (by omega) (by omega)) rc
    have nx1 : hI hx 57 1 = nI (oN A) := by rw [p3 57 (by decide) (by decide), nn]
    have dx := cDe rcx hm
    have dl := (ok.2.1 m hm).2.2.2.2
    have kx := cIn rcx dl
    have fx := c_fieldOf ok rcx dl (by omega : a ≤ b + 1) hb
    have om : (oI (fld A (oD A m) a b) = mN) = (noS A a b m = true) := oI_mm (fun w e => fld_lt h6 e)
    show ∃ s', B_X5_takeDeck_13 hx 57 3 (nI a) (nI b) (bI (goodS A a b m)) (nI (m + 1)) = _ ∧ _
    refine ⟨(uI (uI hx 59 (m + 1) (oI (fld A (oD A m) a b))) 60 (m + 1) (oK A (oD A m)), bI (goodS A a b (m + 1)), nI (m + 1 + 1)), ?_, rfl, ?_, fun k hk => ?_, fun d p q => ?_, p4⟩
    · rw [goodS_s]
      unfold B_X5_takeDeck_13
      cases goodS A a b m with
      | false => simp (disch := omega) only [↓m1_n, li_n, li_0, li_1, lt_y, lt_n, le_y, le_n, eq_n, nL, nLe, nEq, nEm, mEn, nLm, mLn, nLem, mLen, nI_add, nI_mul, nI_sub, nI_m, ib_nI, nx_nI, gd_y, bnd_e, bind_y, ↓reduceIte, hI_uI_o, hI_uI_s, hI_uI_e, hL_uI, hI_uL, hL_uL_o, hL_uL_s, hL_uL_e, and1_a, and1_b, Bool.not_true, Bool.not_false, Nat.zero_add, Nat.add_zero, Nat.add_sub_cancel, eq_self, ne_b, g0_0, g0_1, g0_2, g0_3, g0_4, g0_5, g0_6, g0_7, g0_8, g0_9, n1, n2, g3_2, g3_3, g3_4, g3_5, g3_6, g3_7, g3_8, g3_9, n4, n5, n6, n7, n8, n9, g10_2, g10_3, g10_4, g10_5, n11, n12, n13, n14, g15_2, g15_3, g15_4, g15_5, n16, n17, n18, n19, g40_0, g40_1, g40_2, g44_0, g44_2, g44_3, g44_5, g44_6, g44_10, g51_3, g51_4, g51_5, g51_6, g51_7, g57_3, g57_4, g57_5, g57_6, g57_7, n120, n121, g122_0, g122_4, g122_5, g122_6, g122_7, g122_8, g122_18, g122_19, g122_20, g122_21, g122_24, g122_25, g122_28, g122_29, g122_31, g122_32, g122_33, g122_39, g122_40, g122_41, g122_45, g122_46, g122_47, g122_48, n123, n124, n125, n126, n127, n128, n129, n130, n131, n132, n133, n134, n135, n136, n137, n138, n139, n140, n141, n142, n143, n144, n145, n146, n59, n60, nx1, dx, fx, kx, bI_f, Bool.false_and]
      | true =>
        cases eN : noS A a b m with
        | false =>
          rw [eN] at om
          simp (disch := omega) only [↓m1_n, li_n, li_0, li_1, lt_y, lt_n, le_y, le_n, eq_n, nL, nLe, nEq, nEm, mEn, nLm, mLn, nLem, mLen, nI_add, nI_mul, nI_sub, nI_m, ib_nI, nx_nI, gd_y, bnd_e, bind_y, ↓reduceIte, hI_uI_o, hI_uI_s, hI_uI_e, hL_uI, hI_uL, hL_uL_o, hL_uL_s, hL_uL_e, and1_a, and1_b, Bool.not_true, Bool.not_false, Nat.zero_add, Nat.add_zero, Nat.add_sub_cancel, eq_self, ne_b, g0_0, g0_1, g0_2, g0_3, g0_4, g0_5, g0_6, g0_7, g0_8, g0_9, n1, n2, g3_2, g3_3, g3_4, g3_5, g3_6, g3_7, g3_8, g3_9, n4, n5, n6, n7, n8, n9, g10_2, g10_3, g10_4, g10_5, n11, n12, n13, n14, g15_2, g15_3, g15_4, g15_5, n16, n17, n18, n19, g40_0, g40_1, g40_2, g44_0, g44_2, g44_3, g44_5, g44_6, g44_10, g51_3, g51_4, g51_5, g51_6, g51_7, g57_3, g57_4, g57_5, g57_6, g57_7, n120, n121, g122_0, g122_4, g122_5, g122_6, g122_7, g122_8, g122_18, g122_19, g122_20, g122_21, g122_24, g122_25, g122_28, g122_29, g122_31, g122_32, g122_33, g122_39, g122_40, g122_41, g122_45, g122_46, g122_47, g122_48, n123, n124, n125, n126, n127, n128, n129, n130, n131, n132, n133, n134, n135, n136, n137, n138, n139, n140, n141, n142, n143, n144, n145, n146, n59, n60, nx1, dx, fx, kx, bI_f, bI_t, Bool.true_and, Bool.not_false, om, Bool.false_eq_true]
        | true =>
          rw [eN] at om
          simp (disch := omega) only [↓m1_n, li_n, li_0, li_1, lt_y, lt_n, le_y, le_n, eq_n, nL, nLe, nEq, nEm, mEn, nLm, mLn, nLem, mLen, nI_add, nI_mul, nI_sub, nI_m, ib_nI, nx_nI, gd_y, bnd_e, bind_y, ↓reduceIte, hI_uI_o, hI_uI_s, hI_uI_e, hL_uI, hI_uL, hL_uL_o, hL_uL_s, hL_uL_e, and1_a, and1_b, Bool.not_true, Bool.not_false, Nat.zero_add, Nat.add_zero, Nat.add_sub_cancel, eq_self, ne_b, g0_0, g0_1, g0_2, g0_3, g0_4, g0_5, g0_6, g0_7, g0_8, g0_9, n1, n2, g3_2, g3_3, g3_4, g3_5, g3_6, g3_7, g3_8, g3_9, n4, n5, n6, n7, n8, n9, g10_2, g10_3, g10_4, g10_5, n11, n12, n13, n14, g15_2, g15_3, g15_4, g15_5, n16, n17, n18, n19, g40_0, g40_1, g40_2, g44_0, g44_2, g44_3, g44_5, g44_6, g44_10, g51_3, g51_4, g51_5, g51_6, g51_7, g57_3, g57_4, g57_5, g57_6, g57_7, n120, n121, g122_0, g122_4, g122_5, g122_6, g122_7, g122_8, g122_18, g122_19, g122_20, g122_21, g122_24, g122_25, g122_28, g122_29, g122_31, g122_32, g122_33, g122_39, g122_40, g122_41, g122_45, g122_46, g122_47, g122_48, n123, n124, n125, n126, n127, n128, n129, n130, n131, n132, n133, n134, n135, n136, n137, n138, n139, n140, n141, n142, n143, n144, n145, n146, n59, n60, nx1, dx, fx, kx, bI_f, bI_t, Bool.true_and, Bool.not_true, om]
    · show hI (uI (uI hx 59 (m + 1) _) 60 (m + 1) _) 59 0 = mN
      rw [hI_uI_o (by decide), hI_uI_s (by omega)]
      exact p1
    · show hI (uI (uI hx 59 (m + 1) _) 60 (m + 1) _) 59 (k + 1) = _ ∧ hI (uI (uI hx 59 (m + 1) _) 60 (m + 1) _) 60 (k + 1) = _
      by_cases ek : k = m
      · subst ek
        rw [hI_uI_o (by decide), hI_uI_e, hI_uI_e]
        exact ⟨rfl, rfl⟩
      · rw [hI_uI_o (by decide), hI_uI_s (by omega), hI_uI_s (by omega), hI_uI_o (by decide)]
        exact p2 k (by omega)
    · show hI (uI (uI hx 59 (m + 1) _) 60 (m + 1) _) d = _
      rw [hI_uI_o q, hI_uI_o p]
      exact p3 d p q
  · obtain ⟨hx, s2⟩ := s
    obtain ⟨e2, P⟩ := P
    have e2 : s2 = _ := e2
    subst e2
    have nx1 : hI hx 57 1 = nI (oN A) := by rw [P.2.2.1 57 (by decide) (by decide), nn]
    refine ⟨(hx, bI (goodS A a b (oN A))), ?_, rfl, P⟩
    show B_X5_takeDeck_13 hx 57 3 (nI a) (nI b) (bI (goodS A a b (oN A))) (nI (oN A + 1)) = _
    unfold B_X5_takeDeck_13
    cases goodS A a b (oN A) with
    | false => simp (disch := omega) only [↓m1_n, li_n, li_0, li_1, lt_y, lt_n, le_y, le_n, eq_n, nL, nLe, nEq, nEm, mEn, nLm, mLn, nLem, mLen, nI_add, nI_mul, nI_sub, nI_m, ib_nI, nx_nI, gd_y, bnd_e, bind_y, ↓reduceIte, hI_uI_o, hI_uI_s, hI_uI_e, hL_uI, hI_uL, hL_uL_o, hL_uL_s, hL_uL_e, and1_a, and1_b, Bool.not_true, Bool.not_false, Nat.zero_add, Nat.add_zero, Nat.add_sub_cancel, eq_self, ne_b, g0_0, g0_1, g0_2, g0_3, g0_4, g0_5, g0_6, g0_7, g0_8, g0_9, n1, n2, g3_2, g3_3, g3_4, g3_5, g3_6, g3_7, g3_8, g3_9, n4, n5, n6, n7, n8, n9, g10_2, g10_3, g10_4, g10_5, n11, n12, n13, n14, g15_2, g15_3, g15_4, g15_5, n16, n17, n18, n19, g40_0, g40_1, g40_2, g44_0, g44_2, g44_3, g44_5, g44_6, g44_10, g51_3, g51_4, g51_5, g51_6, g51_7, g57_3, g57_4, g57_5, g57_6, g57_7, n120, n121, g122_0, g122_4, g122_5, g122_6, g122_7, g122_8, g122_18, g122_19, g122_20, g122_21, g122_24, g122_25, g122_28, g122_29, g122_31, g122_32, g122_33, g122_39, g122_40, g122_41, g122_45, g122_46, g122_47, g122_48, n123, n124, n125, n126, n127, n128, n129, n130, n131, n132, n133, n134, n135, n136, n137, n138, n139, n140, n141, n142, n143, n144, n145, n146, nx1, bI_f, and1_a]
    | true => simp (disch := omega) only [↓m1_n, li_n, li_0, li_1, lt_y, lt_n, le_y, le_n, eq_n, nL, nLe, nEq, nEm, mEn, nLm, mLn, nLem, mLen, nI_add, nI_mul, nI_sub, nI_m, ib_nI, nx_nI, gd_y, bnd_e, bind_y, ↓reduceIte, hI_uI_o, hI_uI_s, hI_uI_e, hL_uI, hI_uL, hL_uL_o, hL_uL_s, hL_uL_e, and1_a, and1_b, Bool.not_true, Bool.not_false, Nat.zero_add, Nat.add_zero, Nat.add_sub_cancel, eq_self, ne_b, g0_0, g0_1, g0_2, g0_3, g0_4, g0_5, g0_6, g0_7, g0_8, g0_9, n1, n2, g3_2, g3_3, g3_4, g3_5, g3_6, g3_7, g3_8, g3_9, n4, n5, n6, n7, n8, n9, g10_2, g10_3, g10_4, g10_5, n11, n12, n13, n14, g15_2, g15_3, g15_4, g15_5, n16, n17, n18, n19, g40_0, g40_1, g40_2, g44_0, g44_2, g44_3, g44_5, g44_6, g44_10, g51_3, g51_4, g51_5, g51_6, g51_7, g57_3, g57_4, g57_5, g57_6, g57_7, n120, n121, g122_0, g122_4, g122_5, g122_6, g122_7, g122_8, g122_18, g122_19, g122_20, g122_21, g122_24, g122_25, g122_28, g122_29, g122_31, g122_32, g122_33, g122_39, g122_40, g122_41, g122_45, g122_46, g122_47, g122_48, n123, n124, n125, n126, n127, n128, n129, n130, n131, n132, n133, n134, n135, n136, n137, n138, n139, n140, n141, n142, n143, n144, n145, n146, nx1, bI_t, and1_b]
theorem m_27 {h : Hp} {A : Ho} {q a b : Nat} (ok : HoOk q A) (rm : RmH h 0 A) (hab : a ≤ b) (hb : b < 8) (h6 : b < a + 6) : ∃ h', L_X12_parts_27 h 122 (nI a) (nI b) (nI (oN A)) (nI 1) (nI 1) = some (h', bI (goodS A a b (oN A))) ∧ (∀ k, k < oN A → hI h' 143 (k + 1) = oI (fld A (oD A k) a b)) ∧ (∀ d, d ≠ 143 → hI h' d = hI h d) ∧ hL h' = hL h := by
  have hA := ok.1
  have key := iterW_inv (f := fun s : Hp × Int32 × Int32 => B_X12_parts_27 s.1 122 (nI a) (nI b) (nI (oN A)) s.2.1 s.2.2) (fun m s => s.2 = (bI (goodS A a b m), nI (m + 1)) ∧ (∀ k, k < m → hI s.1 143 (k + 1) = oI (fld A (oD A k) a b)) ∧ (∀ d, d ≠ 143 → hI s.1 d = hI h d) ∧ hL s.1 = hL h) (fun r => r.2 = bI (goodS A a b (oN A)) ∧ (∀ k, k < oN A → hI r.1 143 (k + 1) = oI (fld A (oD A k) a b)) ∧ (∀ d, d ≠ 143 → hI r.1 d = hI h d) ∧ hL r.1 = hL h) (oN A) (fun m s hm P => ?_) (fun s P => ?_) (s := (h, nI 1, nI 1)) ⟨rfl, fun k hk => absurd hk (Nat.not_lt_zero k), fun d p => rfl, rfl⟩
  · obtain ⟨⟨h', r2⟩, k1, k2, k3⟩ := key
    have k2 : r2 = _ := k2
    subst k2
    exact ⟨h', k1, k3⟩
  · obtain ⟨hx, s2⟩ := s
    obtain ⟨e2, p2, p3, p4⟩ := P
    have e2 : s2 = _ := e2
    subst e2
    have p3 : ∀ d, d ≠ 143 → hI hx d = hI h d := p3
    have rmx : RmH hx 0 A := RmH_congr (p3 123 (by decide)) rm
    have dx := mDe rmx hm
    have dl := (ok.2.1 m hm).2.2.2.2
    have fx := m_numberOf ok rmx dl (by omega : a ≤ b + 1) hb
    have om : (oI (fld A (oD A m) a b) = mN) = (noS A a b m = true) := oI_mm (fun w e => fld_lt h6 e)
    show ∃ s', B_X12_parts_27 hx 122 (nI a) (nI b) (nI (oN A)) (bI (goodS A a b m)) (nI (m + 1)) = _ ∧ _
    have e338 : 338 + (m + 1) - 1 = 338 + m := by omega
    refine ⟨(uI hx 143 (m + 1) (oI (fld A (oD A m) a b)), bI (goodS A a b (m + 1)), nI (m + 1 + 1)), ?_, rfl, fun k hk => ?_, fun d p => ?_, p4⟩
    · rw [goodS_s]
      unfold B_X12_parts_27
      cases goodS A a b m with
      | false => simp (disch := omega) only [↓m1_n, li_n, li_0, li_1, lt_y, lt_n, le_y, le_n, eq_n, nL, nLe, nEq, nEm, mEn, nLm, mLn, nLem, mLen, nI_add, nI_mul, nI_sub, nI_m, ib_nI, nx_nI, gd_y, bnd_e, bind_y, ↓reduceIte, hI_uI_o, hI_uI_s, hI_uI_e, hL_uI, hI_uL, hL_uL_o, hL_uL_s, hL_uL_e, and1_a, and1_b, Bool.not_true, Bool.not_false, Nat.zero_add, Nat.add_zero, Nat.add_sub_cancel, eq_self, ne_b, g0_0, g0_1, g0_2, g0_3, g0_4, g0_5, g0_6, g0_7, g0_8, g0_9, n1, n2, g3_2, g3_3, g3_4, g3_5, g3_6, g3_7, g3_8, g3_9, n4, n5, n6, n7, n8, n9, g10_2, g10_3, g10_4, g10_5, n11, n12, n13, n14, g15_2, g15_3, g15_4, g15_5, n16, n17, n18, n19, g40_0, g40_1, g40_2, g44_0, g44_2, g44_3, g44_5, g44_6, g44_10, g51_3, g51_4, g51_5, g51_6, g51_7, g57_3, g57_4, g57_5, g57_6, g57_7, n120, n121, g122_0, g122_4, g122_5, g122_6, g122_7, g122_8, g122_18, g122_19, g122_20, g122_21, g122_24, g122_25, g122_28, g122_29, g122_31, g122_32, g122_33, g122_39, g122_40, g122_41, g122_45, g122_46, g122_47, g122_48, n123, n124, n125, n126, n127, n128, n129, n130, n131, n132, n133, n134, n135, n136, n137, n138, n139, n140, n141, n142, n143, n144, n145, n146, n143, e338, dx, fx, bI_f, Bool.false_and]
      | true =>
        cases eN : noS A a b m with
        | false =>
          rw [eN] at om
          simp (disch := omega) only [↓m1_n, li_n, li_0, li_1, lt_y, lt_n, le_y, le_n, eq_n, nL, nLe, nEq, nEm, mEn, nLm, mLn, nLem, mLen, nI_add, nI_mul, nI_sub, nI_m, ib_nI, nx_nI, gd_y, bnd_e, bind_y, ↓reduceIte, hI_uI_o, hI_uI_s, hI_uI_e, hL_uI, hI_uL, hL_uL_o, hL_uL_s, hL_uL_e, and1_a, and1_b, Bool.not_true, Bool.not_false, Nat.zero_add, Nat.add_zero, Nat.add_sub_cancel, eq_self, ne_b, g0_0, g0_1, g0_2, g0_3, g0_4, g0_5, g0_6, g0_7, g0_8, g0_9, n1, n2, g3_2, g3_3, g3_4, g3_5, g3_6, g3_7, g3_8, g3_9, n4, n5, n6, n7, n8, n9, g10_2, g10_3, g10_4, g10_5, n11, n12, n13, n14, g15_2, g15_3, g15_4, g15_5, n16, n17, n18, n19, g40_0, g40_1, g40_2, g44_0, g44_2, g44_3, g44_5, g44_6, g44_10, g51_3, g51_4, g51_5, g51_6, g51_7, g57_3, g57_4, g57_5, g57_6, g57_7, n120, n121, g122_0, g122_4, g122_5, g122_6, g122_7, g122_8, g122_18, g122_19, g122_20, g122_21, g122_24, g122_25, g122_28, g122_29, g122_31, g122_32, g122_33, g122_39, g122_40, g122_41, g122_45, g122_46, g122_47, g122_48, n123, n124, n125, n126, n127, n128, n129, n130, n131, n132, n133, n134, n135, n136, n137, n138, n139, n140, n141, n142, n143, n144, n145, n146, n143, e338, dx, fx, bI_f, bI_t, Bool.true_and, Bool.not_false, om, Bool.false_eq_true]
        | true =>
          rw [eN] at om
          simp (disch := omega) only [↓m1_n, li_n, li_0, li_1, lt_y, lt_n, le_y, le_n, eq_n, nL, nLe, nEq, nEm, mEn, nLm, mLn, nLem, mLen, nI_add, nI_mul, nI_sub, nI_m, ib_nI, nx_nI, gd_y, bnd_e, bind_y, ↓reduceIte, hI_uI_o, hI_uI_s, hI_uI_e, hL_uI, hI_uL, hL_uL_o, hL_uL_s, hL_uL_e, and1_a, and1_b, Bool.not_true, Bool.not_false, Nat.zero_add, Nat.add_zero, Nat.add_sub_cancel, eq_self, ne_b, g0_0, g0_1, g0_2, g0_3, g0_4, g0_5, g0_6, g0_7, g0_8, g0_9, n1, n2, g3_2, g3_3, g3_4, g3_5, g3_6, g3_7, g3_8, g3_9, n4, n5, n6, n7, n8, n9, g10_2, g10_3, g10_4, g10_5, n11, n12, n13, n14, g15_2, g15_3, g15_4, g15_5, n16, n17, n18, n19, g40_0, g40_1, g40_2, g44_0, g44_2, g44_3, g44_5, g44_6, g44_10, g51_3, g51_4, g51_5, g51_6, g51_7, g57_3, g57_4, g57_5, g57_6, g57_7, n120, n121, g122_0, g122_4, g122_5, g122_6, g122_7, g122_8, g122_18, g122_19, g122_20, g122_21, g122_24, g122_25, g122_28, g122_29, g122_31, g122_32, g122_33, g122_39, g122_40, g122_41, g122_45, g122_46, g122_47, g122_48, n123, n124, n125, n126, n127, n128, n129, n130, n131, n132, n133, n134, n135, n136, n137, n138, n139, n140, n141, n142, n143, n144, n145, n146, n143, e338, dx, fx, bI_f, bI_t, Bool.true_and, Bool.not_true, om]
    · show hI (uI hx 143 (m + 1) _) 143 (k + 1) = _
      by_cases ek : k = m
      · subst ek
        exact hI_uI_e
      · rw [hI_uI_s (by omega)]
        exact p2 k (by omega)
    · show hI (uI hx 143 (m + 1) _) d = _
      rw [hI_uI_o p]
      exact p3 d p
  · obtain ⟨hx, s2⟩ := s
    obtain ⟨e2, P⟩ := P
    have e2 : s2 = _ := e2
    subst e2
    refine ⟨(hx, bI (goodS A a b (oN A))), ?_, rfl, P⟩
    show B_X12_parts_27 hx 122 (nI a) (nI b) (nI (oN A)) (bI (goodS A a b (oN A))) (nI (oN A + 1)) = _
    unfold B_X12_parts_27
    simp (disch := omega) only [↓m1_n, li_n, li_0, li_1, lt_y, lt_n, le_y, le_n, eq_n, nL, nLe, nEq, nEm, mEn, nLm, mLn, nLem, mLen, nI_add, nI_mul, nI_sub, nI_m, ib_nI, nx_nI, gd_y, bnd_e, bind_y, ↓reduceIte, hI_uI_o, hI_uI_s, hI_uI_e, hL_uI, hI_uL, hL_uL_o, hL_uL_s, hL_uL_e, and1_a, and1_b, Bool.not_true, Bool.not_false, Nat.zero_add, Nat.add_zero, Nat.add_sub_cancel, eq_self, ne_b, g0_0, g0_1, g0_2, g0_3, g0_4, g0_5, g0_6, g0_7, g0_8, g0_9, n1, n2, g3_2, g3_3, g3_4, g3_5, g3_6, g3_7, g3_8, g3_9, n4, n5, n6, n7, n8, n9, g10_2, g10_3, g10_4, g10_5, n11, n12, n13, n14, g15_2, g15_3, g15_4, g15_5, n16, n17, n18, n19, g40_0, g40_1, g40_2, g44_0, g44_2, g44_3, g44_5, g44_6, g44_10, g51_3, g51_4, g51_5, g51_6, g51_7, g57_3, g57_4, g57_5, g57_6, g57_7, n120, n121, g122_0, g122_4, g122_5, g122_6, g122_7, g122_8, g122_18, g122_19, g122_20, g122_21, g122_24, g122_25, g122_28, g122_29, g122_31, g122_32, g122_33, g122_39, g122_40, g122_41, g122_45, g122_46, g122_47, g122_48, n123, n124, n125, n126, n127, n128, n129, n130, n131, n132, n133, n134, n135, n136, n137, n138, n139, n140, n141, n142, n143, n144, n145, n146]
