/-! ===== pass ===== -/
def wdm (A : Ho) (W D : Nat → Nat) (M : Int32) : Ho := (oN A, oH A, oC A, oK A, W, D, M, oB A, oS A)
theorem RcH_wdm {h h' : Hp} {A : Ho} {W D : Nat → Nat} {M : Int32} (r : RcH h 3 A) (e3 : hI h' 3 0 = hI h 3 0) (eM : hI h' 3 1 = M) (eW : ∀ i, i < oN A → hI h' 8 i = nI (W i)) (eD : ∀ i, i < oN A → hI h' 9 i = nI (D i)) (e : ∀ d, (4 ≤ d ∧ d ≤ 7) ∨ (10 ≤ d ∧ d ≤ 19) → hI h' d = hI h d) : RcH h' 3 (wdm A W D M) := by
  refine ⟨⟨e3.trans r.1.1, eM, fun i hi => ?_⟩, RcB_congr (fun d a b => e d (by omega)) r.2.1, RcS_congr (fun d a b => e d (by omega)) r.2.2⟩
  obtain ⟨s1, s2, s3, s4, s5⟩ := r.1.2.2 i hi
  rw [e 4 (by omega), e 5 (by omega), e 6 (by omega), e 7 (by omega)]
  exact ⟨s1, s2, s3, eW i hi, eD i hi⟩
theorem RmH_wdm {q : Nat} {h h' : Hp} {A : Ho} {W D : Nat → Nat} {M : Int32} (ok : HoOk q A) (r : RmH h 0 A) (eM : hI h' 123 1 = M) (eW : ∀ i, i < oN A → hI h' 123 (18 + 11 * i) = nI (W i)) (eD : ∀ i, i < oN A → hI h' 123 (338 + i) = nI (D i)) (e : ∀ k, k ≠ 1 → (∀ i, i < oN A → k ≠ 18 + 11 * i) → (k < 338 ∨ 368 ≤ k) → k < 800 → hI h' 123 k = hI h 123 k) : RmH h' 0 (wdm A W D M) := by
  have hA := ok.1
  refine ⟨⟨(e 0 (by omega) (fun i _ => by omega) (by omega) (by omega)).trans r.1.1, eM, fun i hi => ?_⟩, RmB_range ok.2.2.2.1 (fun k a => e k (by omega) (fun i hi => by omega) (by omega) (by omega)) r.2.1, RmS_range ok.2.2.2.2 (fun k a => e k (by omega) (fun i hi => by omega) (by omega) (by omega)) r.2.2⟩
  have hi' : i < oN A := hi
  obtain ⟨s1, s2, s3, s4, s5⟩ := r.1.2.2 i hi
  refine ⟨fun k hk => (e _ (by omega) (fun j hj => by omega) (by omega) (by omega)).trans (s1 k hk), (e _ (by omega) (fun j hj => by omega) (by omega) (by omega)).trans s2, (e _ (by omega) (fun j hj => by omega) (by omega) (by omega)).trans s3, ?_, ?_⟩
  · rw [Nat.zero_add]; exact eW i hi
  · rw [Nat.zero_add]; exact eD i hi
theorem m_takes {h : Hp} {A : Ho} {q : Nat} (ok : HoOk q A) (rm : RmH h 0 A) : ∃ h', F_X12_takes h 122 = some h' ∧ (∀ k, k < oN A → hI h' 134 k = nI (oD A k)) ∧ (∀ d, d ≠ 134 → hI h' d = hI h d) ∧ hL h' = hL h := by
  have hA := ok.1
  refine iterW_inv (fun j s => s.2 = nI j ∧ (∀ k, k < j → hI s.1 134 k = nI (oD A k)) ∧ (∀ d, d ≠ 134 → hI s.1 d = hI h d) ∧ hL s.1 = hL h) _ (oN A) (fun j s hj p => ?_) (fun s p => ?_) ⟨rfl, fun k hk => by omega, fun _ _ => rfl, rfl⟩
  · obtain ⟨p1, p2, p3, p4⟩ := p
    have r := RmH_congr (p3 123 (by decide)) rm
    refine ⟨(uI s.1 134 j (nI (oD A j)), nI (j + 1)), ?_, rfl, fun k hk => ?_, fun d hd => by rw [hI_uI_o hd]; exact p3 d hd, p4⟩
    · show B_X12_takes_2 _ _ _ = _
      unfold B_X12_takes_2
      rw [p1]
      simp (disch := omega) only [↓m1_n, li_n, li_0, li_1, lt_y, lt_n, le_y, le_n, eq_n, nL, nLe, nEq, nEm, mEn, nLm, mLn, nLem, mLen, nI_add, nI_mul, nI_sub, nI_m, ib_nI, nx_nI, gd_y, bnd_e, bind_y, ↓reduceIte, hI_uI_o, hI_uI_s, hI_uI_e, hL_uI, hI_uL, hL_uL_o, hL_uL_s, hL_uL_e, and1_a, and1_b, Bool.not_true, Bool.not_false, Nat.zero_add, Nat.add_zero, Nat.add_sub_cancel, eq_self, ne_b, g0_0, g0_1, g0_2, g0_3, g0_4, g0_5, g0_6, g0_7, g0_8, g0_9, n1, n2, g3_2, g3_3, g3_4, g3_5, g3_6, g3_7, g3_8, g3_9, n4, n5, n6, n7, n8, n9, g10_2, g10_3, g10_4, g10_5, n11, n12, n13, n14, g15_2, g15_3, g15_4, g15_5, n16, n17, n18, n19, g40_0, g40_1, g40_2, g44_0, g44_2, g44_3, g44_5, g44_6, g44_10, g51_3, g51_4, g51_5, g51_6, g51_7, g57_3, g57_4, g57_5, g57_6, g57_7, n120, n121, g122_0, g122_4, g122_5, g122_6, g122_7, g122_8, g122_18, g122_19, g122_20, g122_21, g122_24, g122_25, g122_28, g122_29, g122_31, g122_32, g122_33, g122_39, g122_40, g122_41, g122_45, g122_46, g122_47, g122_48, n123, n124, n125, n126, n127, n128, n129, n130, n131, n132, n133, n134, n135, n136, n137, n138, n139, n140, n141, n142, n143, n144, n145, n146, mNc r, mDe r]
    · by_cases c : k = j
      · subst c
        rw [hI_uI_e]
      · rw [hI_uI_s c]
        exact p2 k (by omega)
  · obtain ⟨p1, p2, p3, p4⟩ := p
    have r := RmH_congr (p3 123 (by decide)) rm
    refine ⟨s.1, ?_, p2, p3, p4⟩
    show B_X12_takes_2 _ _ _ = _
    unfold B_X12_takes_2
    rw [p1]
    simp (disch := omega) only [↓m1_n, li_n, li_0, li_1, lt_y, lt_n, le_y, le_n, eq_n, nL, nLe, nEq, nEm, mEn, nLm, mLn, nLem, mLen, nI_add, nI_mul, nI_sub, nI_m, ib_nI, nx_nI, gd_y, bnd_e, bind_y, ↓reduceIte, hI_uI_o, hI_uI_s, hI_uI_e, hL_uI, hI_uL, hL_uL_o, hL_uL_s, hL_uL_e, and1_a, and1_b, Bool.not_true, Bool.not_false, Nat.zero_add, Nat.add_zero, Nat.add_sub_cancel, eq_self, ne_b, g0_0, g0_1, g0_2, g0_3, g0_4, g0_5, g0_6, g0_7, g0_8, g0_9, n1, n2, g3_2, g3_3, g3_4, g3_5, g3_6, g3_7, g3_8, g3_9, n4, n5, n6, n7, n8, n9, g10_2, g10_3, g10_4, g10_5, n11, n12, n13, n14, g15_2, g15_3, g15_4, g15_5, n16, n17, n18, n19, g40_0, g40_1, g40_2, g44_0, g44_2, g44_3, g44_5, g44_6, g44_10, g51_3, g51_4, g51_5, g51_6, g51_7, g57_3, g57_4, g57_5, g57_6, g57_7, n120, n121, g122_0, g122_4, g122_5, g122_6, g122_7, g122_8, g122_18, g122_19, g122_20, g122_21, g122_24, g122_25, g122_28, g122_29, g122_31, g122_32, g122_33, g122_39, g122_40, g122_41, g122_45, g122_46, g122_47, g122_48, n123, n124, n125, n126, n127, n128, n129, n130, n131, n132, n133, n134, n135, n136, n137, n138, n139, n140, n141, n142, n143, n144, n145, n146, mNc r]
theorem m_lays {h : Hp} {n : Nat} {D : Nat → Nat} (hn : n ≤ 30) (e0 : hI h 123 0 = nI n) (hD : ∀ k, k < n → hI h 134 k = nI (D k)) : ∃ h', F_X12_lays h 122 = some h' ∧ (∀ k, k < n → hI h' 123 (338 + k) = nI (D k)) ∧ (∀ d, d ≠ 123 → hI h' d = hI h d) ∧ (∀ k, k < 338 ∨ 368 ≤ k → hI h' 123 k = hI h 123 k) ∧ hL h' = hL h := by
  refine iterW_inv (fun j s => s.2 = nI j ∧ (∀ k, k < j → hI s.1 123 (338 + k) = nI (D k)) ∧ (∀ d, d ≠ 123 → hI s.1 d = hI h d) ∧ (∀ k, k < 338 ∨ 368 ≤ k → hI s.1 123 k = hI h 123 k) ∧ hL s.1 = hL h) _ n (fun j s hj p => ?_) (fun s p => ?_) ⟨rfl, fun k hk => by omega, fun _ _ => rfl, fun _ _ => rfl, rfl⟩
  · obtain ⟨p1, p2, p3, p4, p5⟩ := p
    refine ⟨(uI s.1 123 (338 + j) (nI (D j)), nI (j + 1)), ?_, rfl, fun k hk => ?_, fun d hd => by rw [hI_uI_o hd]; exact p3 d hd, fun k hk => by rw [hI_uI_s (by omega)]; exact p4 k hk, p5⟩
    · show B_X12_lays_2 _ _ _ = _
      unfold B_X12_lays_2
      rw [p1]
      simp (disch := omega) only [↓m1_n, li_n, li_0, li_1, lt_y, lt_n, le_y, le_n, eq_n, nL, nLe, nEq, nEm, mEn, nLm, mLn, nLem, mLen, nI_add, nI_mul, nI_sub, nI_m, ib_nI, nx_nI, gd_y, bnd_e, bind_y, ↓reduceIte, hI_uI_o, hI_uI_s, hI_uI_e, hL_uI, hI_uL, hL_uL_o, hL_uL_s, hL_uL_e, and1_a, and1_b, Bool.not_true, Bool.not_false, Nat.zero_add, Nat.add_zero, Nat.add_sub_cancel, eq_self, ne_b, g0_0, g0_1, g0_2, g0_3, g0_4, g0_5, g0_6, g0_7, g0_8, g0_9, n1, n2, g3_2, g3_3, g3_4, g3_5, g3_6, g3_7, g3_8, g3_9, n4, n5, n6, n7, n8, n9, g10_2, g10_3, g10_4, g10_5, n11, n12, n13, n14, g15_2, g15_3, g15_4, g15_5, n16, n17, n18, n19, g40_0, g40_1, g40_2, g44_0, g44_2, g44_3, g44_5, g44_6, g44_10, g51_3, g51_4, g51_5, g51_6, g51_7, g57_3, g57_4, g57_5, g57_6, g57_7, n120, n121, g122_0, g122_4, g122_5, g122_6, g122_7, g122_8, g122_18, g122_19, g122_20, g122_21, g122_24, g122_25, g122_28, g122_29, g122_31, g122_32, g122_33, g122_39, g122_40, g122_41, g122_45, g122_46, g122_47, g122_48, n123, n124, n125, n126, n127, n128, n129, n130, n131, n132, n133, n134, n135, n136, n137, n138, n139, n140, n141, n142, n143, n144, n145, n146, show hI s.1 123 0 = nI n from (p4 0 (by omega)).trans e0, show hI s.1 134 j = nI (D j) from by rw [p3 134 (by decide)]; exact hD j hj]
    · by_cases c : k = j
      · subst c
        rw [hI_uI_e]
      · rw [hI_uI_s (by omega)]
        exact p2 k (by omega)
  · obtain ⟨p1, p2, p3, p4, p5⟩ := p
    refine ⟨s.1, ?_, p2, p3, p4, p5⟩
    show B_X12_lays_2 _ _ _ = _
    unfold B_X12_lays_2
    rw [p1]
    simp (disch := omega) only [↓m1_n, li_n, li_0, li_1, lt_y, lt_n, le_y, le_n, eq_n, nL, nLe, nEq, nEm, mEn, nLm, mLn, nLem, mLen, nI_add, nI_mul, nI_sub, nI_m, ib_nI, nx_nI, gd_y, bnd_e, bind_y, ↓reduceIte, hI_uI_o, hI_uI_s, hI_uI_e, hL_uI, hI_uL, hL_uL_o, hL_uL_s, hL_uL_e, and1_a, and1_b, Bool.not_true, Bool.not_false, Nat.zero_add, Nat.add_zero, Nat.add_sub_cancel, eq_self, ne_b, g0_0, g0_1, g0_2, g0_3, g0_4, g0_5, g0_6, g0_7, g0_8, g0_9, n1, n2, g3_2, g3_3, g3_4, g3_5, g3_6, g3_7, g3_8, g3_9, n4, n5, n6, n7, n8, n9, g10_2, g10_3, g10_4, g10_5, n11, n12, n13, n14, g15_2, g15_3, g15_4, g15_5, n16, n17, n18, n19, g40_0, g40_1, g40_2, g44_0, g44_2, g44_3, g44_5, g44_6, g44_10, g51_3, g51_4, g51_5, g51_6, g51_7, g57_3, g57_4, g57_5, g57_6, g57_7, n120, n121, g122_0, g122_4, g122_5, g122_6, g122_7, g122_8, g122_18, g122_19, g122_20, g122_21, g122_24, g122_25, g122_28, g122_29, g122_31, g122_32, g122_33, g122_39, g122_40, g122_41, g122_45, g122_46, g122_47, g122_48, n123, n124, n125, n126, n127, n128, n129, n130, n131, n132, n133, n134, n135, n136, n137, n138, n139, n140, n141, n142, n143, n144, n145, n146, show hI s.1 123 0 = nI n from (p4 0 (by omega)).trans e0]
def wrB (D : Nat → Nat) (c k : Nat) : Bool := decide (D k = c)
/-- wear behind a pass of the first t cards -/
def wrW (A : Ho) (D : Nat → Nat) (t c : Nat) : Nat := oW A c + if exB (wrB D c) t then 1 else 0
theorem wrW_s {A : Ho} {D : Nat → Nat} {n j c : Nat} (inj : ∀ i k, i < n → k < n → D i = D k → i = k) (hj : j < n) : wrW A D (j + 1) c = if c = D j then wrW A D j c + 1 else wrW A D j c := by
  unfold wrW
  rw [exB]
  by_cases e : c = D j
  · subst e
    have : exB (wrB D (D j)) j = false := exB_f (fun k hk => decide_eq_false (fun e => by have := inj k j (by omega) hj e; omega))
    rw [this, if_pos rfl]
    simp [wrB]
  · have : wrB D c j = false := decide_eq_false (fun x => e x.symm)
    rw [this, Bool.or_false, if_neg e]
theorem c_wear {h : Hp} {A : Ho} {q t : Nat} {x : Int32} (ok : HoOk q A) (rc : RcH h 3 A) (ht : t ≤ oN A) : ∃ h', L_X3_sendThrough_21 h 40 3 x (nI t) (nI 0) = some h' ∧ (∀ c, c < oN A → hI h' 8 c = nI (wrW A (oD A) t c)) ∧ (∀ d, d ≠ 8 → hI h' d = hI h d) ∧ hL h' = hL h := by
  have hA := ok.1
  refine iterW_inv (fun j s => s.2 = nI j ∧ (∀ c, c < oN A → hI s.1 8 c = nI (wrW A (oD A) j c)) ∧ (∀ d, d ≠ 8 → hI s.1 d = hI h d) ∧ hL s.1 = hL h) _ t (fun j s hj p => ?_) (fun s p => ?_) ⟨rfl, fun c hc => ?_, fun _ _ => rfl, rfl⟩
  · obtain ⟨p1, p2, p3, p4⟩ := p
    have hd := (ok.2.1 j (by omega)).2.2.2.2
    have e9 : hI s.1 9 j = nI (oD A j) := by rw [p3 9 (by decide)]; exact cDe rc (by omega)
    refine ⟨(uI s.1 8 (oD A j) (nI (wrW A (oD A) j (oD A j) + 1)), nI (j + 1)), ?_, rfl, fun c hc => ?_, fun d hd => by rw [hI_uI_o hd]; exact p3 d hd, p4⟩
    · show B_X3_sendThrough_21 _ _ _ _ _ _ = _
      unfold B_X3_sendThrough_21
      rw [p1]
      simp (disch := omega) only [↓m1_n, li_n, li_0, li_1, lt_y, lt_n, le_y, le_n, eq_n, nL, nLe, nEq, nEm, mEn, nLm, mLn, nLem, mLen, nI_add, nI_mul, nI_sub, nI_m, ib_nI, nx_nI, gd_y, bnd_e, bind_y, ↓reduceIte, hI_uI_o, hI_uI_s, hI_uI_e, hL_uI, hI_uL, hL_uL_o, hL_uL_s, hL_uL_e, and1_a, and1_b, Bool.not_true, Bool.not_false, Nat.zero_add, Nat.add_zero, Nat.add_sub_cancel, eq_self, ne_b, g0_0, g0_1, g0_2, g0_3, g0_4, g0_5, g0_6, g0_7, g0_8, g0_9, n1, n2, g3_2, g3_3, g3_4, g3_5, g3_6, g3_7, g3_8, g3_9, n4, n5, n6, n7, n8, n9, g10_2, g10_3, g10_4, g10_5, n11, n12, n13, n14, g15_2, g15_3, g15_4, g15_5, n16, n17, n18, n19, g40_0, g40_1, g40_2, g44_0, g44_2, g44_3, g44_5, g44_6, g44_10, g51_3, g51_4, g51_5, g51_6, g51_7, g57_3, g57_4, g57_5, g57_6, g57_7, n120, n121, g122_0, g122_4, g122_5, g122_6, g122_7, g122_8, g122_18, g122_19, g122_20, g122_21, g122_24, g122_25, g122_28, g122_29, g122_31, g122_32, g122_33, g122_39, g122_40, g122_41, g122_45, g122_46, g122_47, g122_48, n123, n124, n125, n126, n127, n128, n129, n130, n131, n132, n133, n134, n135, n136, n137, n138, n139, n140, n141, n142, n143, n144, n145, n146, e9, p2 _ hd]
    · rw [wrW_s ok.2.2.1 (by omega)]
      by_cases e : c = oD A j
      · subst e
        rw [hI_uI_e, if_pos rfl]
      · rw [hI_uI_s e, if_neg e]
        exact p2 c hc
  · obtain ⟨p1, p2⟩ := p
    refine ⟨s.1, ?_, p2⟩
    show B_X3_sendThrough_21 _ _ _ _ _ _ = _
    unfold B_X3_sendThrough_21
    rw [p1]
    simp (disch := omega) only [↓m1_n, li_n, li_0, li_1, lt_y, lt_n, le_y, le_n, eq_n, nL, nLe, nEq, nEm, mEn, nLm, mLn, nLem, mLen, nI_add, nI_mul, nI_sub, nI_m, ib_nI, nx_nI, gd_y, bnd_e, bind_y, ↓reduceIte, hI_uI_o, hI_uI_s, hI_uI_e, hL_uI, hI_uL, hL_uL_o, hL_uL_s, hL_uL_e, and1_a, and1_b, Bool.not_true, Bool.not_false, Nat.zero_add, Nat.add_zero, Nat.add_sub_cancel, eq_self, ne_b, g0_0, g0_1, g0_2, g0_3, g0_4, g0_5, g0_6, g0_7, g0_8, g0_9, n1, n2, g3_2, g3_3, g3_4, g3_5, g3_6, g3_7, g3_8, g3_9, n4, n5, n6, n7, n8, n9, g10_2, g10_3, g10_4, g10_5, n11, n12, n13, n14, g15_2, g15_3, g15_4, g15_5, n16, n17, n18, n19, g40_0, g40_1, g40_2, g44_0, g44_2, g44_3, g44_5, g44_6, g44_10, g51_3, g51_4, g51_5, g51_6, g51_7, g57_3, g57_4, g57_5, g57_6, g57_7, n120, n121, g122_0, g122_4, g122_5, g122_6, g122_7, g122_8, g122_18, g122_19, g122_20, g122_21, g122_24, g122_25, g122_28, g122_29, g122_31, g122_32, g122_33, g122_39, g122_40, g122_41, g122_45, g122_46, g122_47, g122_48, n123, n124, n125, n126, n127, n128, n129, n130, n131, n132, n133, n134, n135, n136, n137, n138, n139, n140, n141, n142, n143, n144, n145, n146]
  · rw [cWe rc hc]
    rfl
theorem m_wear {h : Hp} {A : Ho} {q t : Nat} {D : Nat → Nat} (ok : HoOk q A) (ht : t ≤ oN A) (inj : ∀ i k, i < oN A → k < oN A → D i = D k → i = k) (hD : ∀ k, k < oN A → hI h 134 k = nI (D k) ∧ D k < oN A) (e0 : hI h 122 26 = nI t) (hW : ∀ c, c < oN A → hI h 123 (18 + 11 * c) = nI (oW A c)) : ∃ h', L_X12_passesDeck_16 h 122 (nI 0) = some h' ∧ (∀ c, c < oN A → hI h' 123 (18 + 11 * c) = nI (wrW A D t c)) ∧ (∀ d, d ≠ 123 → hI h' d = hI h d) ∧ (∀ k, (∀ c, c < oN A → k ≠ 18 + 11 * c) → hI h' 123 k = hI h 123 k) ∧ hL h' = hL h := by
  have hA := ok.1
  refine iterW_inv (fun j s => s.2 = nI j ∧ (∀ c, c < oN A → hI s.1 123 (18 + 11 * c) = nI (wrW A D j c)) ∧ (∀ d, d ≠ 123 → hI s.1 d = hI h d) ∧ (∀ k, (∀ c, c < oN A → k ≠ 18 + 11 * c) → hI s.1 123 k = hI h 123 k) ∧ hL s.1 = hL h) _ t (fun j s hj p => ?_) (fun s p => ?_) ⟨rfl, fun c hc => ?_, fun _ _ => rfl, fun _ _ => rfl, rfl⟩
  · obtain ⟨p1, p2, p3, p4, p5⟩ := p
    have hd := (hD j (by omega)).2
    have e9 : hI s.1 134 j = nI (D j) := by rw [p3 134 (by decide)]; exact (hD j (by omega)).1
    have e26 : hI s.1 122 26 = nI t := by rw [p3 122 (by decide)]; exact e0
    have ew := p2 (D j) hd
    rw [show 18 + 11 * D j = 8 + 11 * D j + 10 by omega] at ew
    refine ⟨(uI s.1 123 (8 + 11 * D j + 10) (nI (wrW A D j (D j) + 1)), nI (j + 1)), ?_, rfl, fun c hc => ?_, fun d hd => by rw [hI_uI_o hd]; exact p3 d hd, fun k hk => ?_, p5⟩
    · show B_X12_passesDeck_16 _ _ _ = _
      unfold B_X12_passesDeck_16
      rw [p1]
      simp (disch := omega) only [↓m1_n, li_n, li_0, li_1, lt_y, lt_n, le_y, le_n, eq_n, nL, nLe, nEq, nEm, mEn, nLm, mLn, nLem, mLen, nI_add, nI_mul, nI_sub, nI_m, ib_nI, nx_nI, gd_y, bnd_e, bind_y, ↓reduceIte, hI_uI_o, hI_uI_s, hI_uI_e, hL_uI, hI_uL, hL_uL_o, hL_uL_s, hL_uL_e, and1_a, and1_b, Bool.not_true, Bool.not_false, Nat.zero_add, Nat.add_zero, Nat.add_sub_cancel, eq_self, ne_b, g0_0, g0_1, g0_2, g0_3, g0_4, g0_5, g0_6, g0_7, g0_8, g0_9, n1, n2, g3_2, g3_3, g3_4, g3_5, g3_6, g3_7, g3_8, g3_9, n4, n5, n6, n7, n8, n9, g10_2, g10_3, g10_4, g10_5, n11, n12, n13, n14, g15_2, g15_3, g15_4, g15_5, n16, n17, n18, n19, g40_0, g40_1, g40_2, g44_0, g44_2, g44_3, g44_5, g44_6, g44_10, g51_3, g51_4, g51_5, g51_6, g51_7, g57_3, g57_4, g57_5, g57_6, g57_7, n120, n121, g122_0, g122_4, g122_5, g122_6, g122_7, g122_8, g122_18, g122_19, g122_20, g122_21, g122_24, g122_25, g122_28, g122_29, g122_31, g122_32, g122_33, g122_39, g122_40, g122_41, g122_45, g122_46, g122_47, g122_48, n123, n124, n125, n126, n127, n128, n129, n130, n131, n132, n133, n134, n135, n136, n137, n138, n139, n140, n141, n142, n143, n144, n145, n146, e9, e26, ew]
    · rw [wrW_s inj (by omega)]
      by_cases e : c = D j
      · subst e
        rw [show 18 + 11 * D j = 8 + 11 * D j + 10 by omega, hI_uI_e, if_pos rfl]
      · rw [hI_uI_s (by omega), if_neg e]
        exact p2 c hc
    · rw [hI_uI_s (by have := hk (D j) hd; omega)]
      exact p4 k hk
  · obtain ⟨p1, p2, p3, p4⟩ := p
    have e26 : hI s.1 122 26 = nI t := by rw [p3 122 (by decide)]; exact e0
    refine ⟨s.1, ?_, p2, p3, p4⟩
    show B_X12_passesDeck_16 _ _ _ = _
    unfold B_X12_passesDeck_16
    rw [p1]
    simp (disch := omega) only [↓m1_n, li_n, li_0, li_1, lt_y, lt_n, le_y, le_n, eq_n, nL, nLe, nEq, nEm, mEn, nLm, mLn, nLem, mLen, nI_add, nI_mul, nI_sub, nI_m, ib_nI, nx_nI, gd_y, bnd_e, bind_y, ↓reduceIte, hI_uI_o, hI_uI_s, hI_uI_e, hL_uI, hI_uL, hL_uL_o, hL_uL_s, hL_uL_e, and1_a, and1_b, Bool.not_true, Bool.not_false, Nat.zero_add, Nat.add_zero, Nat.add_sub_cancel, eq_self, ne_b, g0_0, g0_1, g0_2, g0_3, g0_4, g0_5, g0_6, g0_7, g0_8, g0_9, n1, n2, g3_2, g3_3, g3_4, g3_5, g3_6, g3_7, g3_8, g3_9, n4, n5, n6, n7, n8, n9, g10_2, g10_3, g10_4, g10_5, n11, n12, n13, n14, g15_2, g15_3, g15_4, g15_5, n16, n17, n18, n19, g40_0, g40_1, g40_2, g44_0, g44_2, g44_3, g44_5, g44_6, g44_10, g51_3, g51_4, g51_5, g51_6, g51_7, g57_3, g57_4, g57_5, g57_6, g57_7, n120, n121, g122_0, g122_4, g122_5, g122_6, g122_7, g122_8, g122_18, g122_19, g122_20, g122_21, g122_24, g122_25, g122_28, g122_29, g122_31, g122_32, g122_33, g122_39, g122_40, g122_41, g122_45, g122_46, g122_47, g122_48, n123, n124, n125, n126, n127, n128, n129, n130, n131, n132, n133, n134, n135, n136, n137, n138, n139, n140, n141, n142, n143, n144, n145, n146, e26]
  · rw [hW c hc]
    rfl
def rdD (A : Ho) (col : Nat) : Nat → Nat := fun k => rdN (oH A (oD A k) col)
def pT (A : Ho) (col : Nat) (b : Bool) : Nat := thr (rdD A col) (oN A) b
def pH (A : Ho) (col : Nat) (b : Bool) : Nat := (if pT A col b < oN A then 1 else 0) + fil (rdD A col) (pT A col b) 12
def passA (A : Ho) (col : Nat) (b : Bool) : Ho := wdm A (wrW A (oD A) (pT A col b)) (srt (rdD A col) (oD A) (pT A col b)) (oM A + nI (pT A col b + 5 * pH A col b))
theorem c_ahead {h : Hp} {A : Ho} {q col : Nat} (ok : HoOk q A) (rc : RcH h 3 A) (hc : col < 8) : F_X3_aheadOfBlank h 3 (nI col) = some (nI (pT A col true)) := by
  have hA := ok.1
  have key : F_X3_aheadOfBlank h 3 (nI col) = some ((fst1 (fun k => decide (rdD A col k = 10)) (oN A) 0).elim (nI (oN A)) nI) := by
    refine iterW_fst (fun j => nI j) _ nI (nI (oN A)) (oN A) 0 (fun j _ hj => ?_) ?_
    · show B_X3_aheadOfBlank_2 _ _ _ _ = _
      unfold B_X3_aheadOfBlank_2
      have hd := (ok.2.1 j (by omega)).2.2.2.2
      have hr := rdN_le (oH A (oD A j) col)
      simp (disch := omega) only [↓m1_n, li_n, li_0, li_1, lt_y, lt_n, le_y, le_n, eq_n, nL, nLe, nEq, nEm, mEn, nLm, mLn, nLem, mLen, nI_add, nI_mul, nI_sub, nI_m, ib_nI, nx_nI, gd_y, bnd_e, bind_y, ↓reduceIte, hI_uI_o, hI_uI_s, hI_uI_e, hL_uI, hI_uL, hL_uL_o, hL_uL_s, hL_uL_e, and1_a, and1_b, Bool.not_true, Bool.not_false, Nat.zero_add, Nat.add_zero, Nat.add_sub_cancel, eq_self, ne_b, g0_0, g0_1, g0_2, g0_3, g0_4, g0_5, g0_6, g0_7, g0_8, g0_9, n1, n2, g3_2, g3_3, g3_4, g3_5, g3_6, g3_7, g3_8, g3_9, n4, n5, n6, n7, n8, n9, g10_2, g10_3, g10_4, g10_5, n11, n12, n13, n14, g15_2, g15_3, g15_4, g15_5, n16, n17, n18, n19, g40_0, g40_1, g40_2, g44_0, g44_2, g44_3, g44_5, g44_6, g44_10, g51_3, g51_4, g51_5, g51_6, g51_7, g57_3, g57_4, g57_5, g57_6, g57_7, n120, n121, g122_0, g122_4, g122_5, g122_6, g122_7, g122_8, g122_18, g122_19, g122_20, g122_21, g122_24, g122_25, g122_28, g122_29, g122_31, g122_32, g122_33, g122_39, g122_40, g122_41, g122_45, g122_46, g122_47, g122_48, n123, n124, n125, n126, n127, n128, n129, n130, n131, n132, n133, n134, n135, n136, n137, n138, n139, n140, n141, n142, n143, n144, n145, n146, cNn rc, cDe rc, c_reading ok rc]
      by_cases c : rdN (oH A (oD A j) col) = 10 <;> simp [rdD, c]
    · show B_X3_aheadOfBlank_2 _ _ _ _ = _
      unfold B_X3_aheadOfBlank_2
      simp (disch := omega) only [↓m1_n, li_n, li_0, li_1, lt_y, lt_n, le_y, le_n, eq_n, nL, nLe, nEq, nEm, mEn, nLm, mLn, nLem, mLen, nI_add, nI_mul, nI_sub, nI_m, ib_nI, nx_nI, gd_y, bnd_e, bind_y, ↓reduceIte, hI_uI_o, hI_uI_s, hI_uI_e, hL_uI, hI_uL, hL_uL_o, hL_uL_s, hL_uL_e, and1_a, and1_b, Bool.not_true, Bool.not_false, Nat.zero_add, Nat.add_zero, Nat.add_sub_cancel, eq_self, ne_b, g0_0, g0_1, g0_2, g0_3, g0_4, g0_5, g0_6, g0_7, g0_8, g0_9, n1, n2, g3_2, g3_3, g3_4, g3_5, g3_6, g3_7, g3_8, g3_9, n4, n5, n6, n7, n8, n9, g10_2, g10_3, g10_4, g10_5, n11, n12, n13, n14, g15_2, g15_3, g15_4, g15_5, n16, n17, n18, n19, g40_0, g40_1, g40_2, g44_0, g44_2, g44_3, g44_5, g44_6, g44_10, g51_3, g51_4, g51_5, g51_6, g51_7, g57_3, g57_4, g57_5, g57_6, g57_7, n120, n121, g122_0, g122_4, g122_5, g122_6, g122_7, g122_8, g122_18, g122_19, g122_20, g122_21, g122_24, g122_25, g122_28, g122_29, g122_31, g122_32, g122_33, g122_39, g122_40, g122_41, g122_45, g122_46, g122_47, g122_48, n123, n124, n125, n126, n127, n128, n129, n130, n131, n132, n133, n134, n135, n136, n137, n138, n139, n140, n141, n142, n143, n144, n145, n146, cNn rc]
  rw [key]
  unfold pT thr
  rw [if_pos rfl]
  cases fst1 (fun k => decide (rdD A col k = 10)) (oN A) 0 <;> rfl
theorem c_send {h : Hp} {A : Ho} {q col : Nat} {b : Bool} (ok : HoOk q A) (rc : RcH h 3 A) (hc : col < 8) : ∃ h', F_X3_sendThrough h 40 3 (nI col) (bI b) = some (h', nI (pH A col b)) ∧ RcH h' 3 (passA A col b) ∧ (∀ d, d ≠ 3 → d ≠ 8 → d ≠ 9 → d ≠ 41 → d ≠ 42 → hI h' d = hI h d) ∧ hL h' = hL h := by
  have hA := ok.1
  have ht : pT A col b ≤ oN A := thr_le
  obtain ⟨h1, a1, a2, a3, a4⟩ := c_wear (x := nI col) ok rc ht
  have rc1 : RcH h1 3 (wdm A (wrW A (oD A) (pT A col b)) (oD A) (oM A)) := RcH_wdm rc (by rw [a3 3 (by decide)]) (by rw [a3 3 (by decide)]; exact rc.1.2.1) a2 (fun i hi => by rw [a3 9 (by decide)]; exact cDe rc hi) (fun d hd => a3 d (by omega))
  have ok1 : HoOk (q + 1) (wdm A (wrW A (oD A) (pT A col b)) (oD A) (oM A)) := by
    obtain ⟨o1, o2, o3, o4, o5⟩ := ok.mono
    refine ⟨o1, fun i hi => ?_, o3, o4, o5⟩
    obtain ⟨y1, y2, y3, y4, y5⟩ := o2 i hi
    refine ⟨y1, y2, y3, ?_, y5⟩
    have y := (ok.2.1 i hi).2.2.2.1
    show oW A i + (if exB (wrB (oD A) i) (pT A col b) then 1 else 0) ≤ _
    by_cases e : exB (wrB (oD A) i) (pT A col b) = true
    · rw [if_pos e]; omega
    · rw [if_neg e]; omega
  obtain ⟨h2, b1, b2, b3, b4, b5⟩ := c_sort (x := 9) (n := pT A col b) (col := col) (D := oD A) ok1 rc1 (Or.inl rfl) (by omega) hc (fun k hk => ⟨by rw [a3 9 (by decide)]; exact cDe rc (by omega), (ok.2.1 k (by omega)).2.2.2.2⟩)
  have n2 : hI h2 3 0 = nI (oN A) := by rw [b4 3 (by decide) (by decide) (by decide), a3 3 (by decide)]; exact cNn rc
  have m2 : hI h2 3 1 = oM A := by rw [b4 3 (by decide) (by decide) (by decide), a3 3 (by decide)]; exact rc.1.2.1
  have fl : fil (rdD A col) (pT A col b) 12 ≤ 12 := cnt_le _ _
  refine ⟨uI h2 3 1 (oM A + nI (pT A col b + 5 * pH A col b)), ?_, ?_, fun d d1 d2 d3 d4 d5 => by rw [hI_uI_o d1, b4 d d4 d5 d3, a3 d d2], ?_⟩
  · unfold F_X3_sendThrough J_X3_sendThrough_76
    have b1' : F_X3_sortRow h1 40 3 9 (nI (pT A col b)) (nI col) = some (h2, nI (fil (rdD A col) (pT A col b) 12)) := b1
    have fin : ∀ c, c = (if pT A col b < oN A then 1 else 0) → fil (rdD A col) (pT A col b) 12 + c = pH A col b := fun c e => by unfold pH; rw [e]; omega
    cases b with
    | false =>
      have e : pT A col false = oN A := rfl
      have f0 := fin 0 (by rw [e, if_neg (by omega)])
      rw [e] at a1 b1'
      rw [e, Nat.add_zero] at f0
      simp (disch := omega) only [↓m1_n, li_n, li_0, li_1, lt_y, lt_n, le_y, le_n, eq_n, nL, nLe, nEq, nEm, mEn, nLm, mLn, nLem, mLen, nI_add, nI_mul, nI_sub, nI_m, ib_nI, nx_nI, gd_y, bnd_e, bind_y, ↓reduceIte, hI_uI_o, hI_uI_s, hI_uI_e, hL_uI, hI_uL, hL_uL_o, hL_uL_s, hL_uL_e, and1_a, and1_b, Bool.not_true, Bool.not_false, Nat.zero_add, Nat.add_zero, Nat.add_sub_cancel, eq_self, ne_b, g0_0, g0_1, g0_2, g0_3, g0_4, g0_5, g0_6, g0_7, g0_8, g0_9, n1, n2, g3_2, g3_3, g3_4, g3_5, g3_6, g3_7, g3_8, g3_9, n4, n5, n6, n7, n8, n9, g10_2, g10_3, g10_4, g10_5, n11, n12, n13, n14, g15_2, g15_3, g15_4, g15_5, n16, n17, n18, n19, g40_0, g40_1, g40_2, g44_0, g44_2, g44_3, g44_5, g44_6, g44_10, g51_3, g51_4, g51_5, g51_6, g51_7, g57_3, g57_4, g57_5, g57_6, g57_7, n120, n121, g122_0, g122_4, g122_5, g122_6, g122_7, g122_8, g122_18, g122_19, g122_20, g122_21, g122_24, g122_25, g122_28, g122_29, g122_31, g122_32, g122_33, g122_39, g122_40, g122_41, g122_45, g122_46, g122_47, g122_48, n123, n124, n125, n126, n127, n128, n129, n130, n131, n132, n133, n134, n135, n136, n137, n138, n139, n140, n141, n142, n143, n144, n145, n146, bI, Bool.false_eq_true, cNn rc, a1, b1', n2, m2]
      rw [e, f0]
    | true =>
      by_cases l : pT A col true < oN A
      · have f0 := fin 1 (by rw [if_pos l])
        simp (disch := omega) only [↓m1_n, li_n, li_0, li_1, lt_y, lt_n, le_y, le_n, eq_n, nL, nLe, nEq, nEm, mEn, nLm, mLn, nLem, mLen, nI_add, nI_mul, nI_sub, nI_m, ib_nI, nx_nI, gd_y, bnd_e, bind_y, ↓reduceIte, hI_uI_o, hI_uI_s, hI_uI_e, hL_uI, hI_uL, hL_uL_o, hL_uL_s, hL_uL_e, and1_a, and1_b, Bool.not_true, Bool.not_false, Nat.zero_add, Nat.add_zero, Nat.add_sub_cancel, eq_self, ne_b, g0_0, g0_1, g0_2, g0_3, g0_4, g0_5, g0_6, g0_7, g0_8, g0_9, n1, n2, g3_2, g3_3, g3_4, g3_5, g3_6, g3_7, g3_8, g3_9, n4, n5, n6, n7, n8, n9, g10_2, g10_3, g10_4, g10_5, n11, n12, n13, n14, g15_2, g15_3, g15_4, g15_5, n16, n17, n18, n19, g40_0, g40_1, g40_2, g44_0, g44_2, g44_3, g44_5, g44_6, g44_10, g51_3, g51_4, g51_5, g51_6, g51_7, g57_3, g57_4, g57_5, g57_6, g57_7, n120, n121, g122_0, g122_4, g122_5, g122_6, g122_7, g122_8, g122_18, g122_19, g122_20, g122_21, g122_24, g122_25, g122_28, g122_29, g122_31, g122_32, g122_33, g122_39, g122_40, g122_41, g122_45, g122_46, g122_47, g122_48, n123, n124, n125, n126, n127, n128, n129, n130, n131, n132, n133, n134, n135, n136, n137, n138, n139, n140, n141, n142, n143, n144, n145, n146, bI, cNn rc, c_ahead ok rc, a1, b1', n2, m2, l]
        rw [f0]
      · have f0 := fin 0 (by rw [if_neg l])
        rw [Nat.add_zero] at f0
        simp (disch := omega) only [↓m1_n, li_n, li_0, li_1, lt_y, lt_n, le_y, le_n, eq_n, nL, nLe, nEq, nEm, mEn, nLm, mLn, nLem, mLen, nI_add, nI_mul, nI_sub, nI_m, ib_nI, nx_nI, gd_y, bnd_e, bind_y, ↓reduceIte, hI_uI_o, hI_uI_s, hI_uI_e, hL_uI, hI_uL, hL_uL_o, hL_uL_s, hL_uL_e, and1_a, and1_b, Bool.not_true, Bool.not_false, Nat.zero_add, Nat.add_zero, Nat.add_sub_cancel, eq_self, ne_b, g0_0, g0_1, g0_2, g0_3, g0_4, g0_5, g0_6, g0_7, g0_8, g0_9, n1, n2, g3_2, g3_3, g3_4, g3_5, g3_6, g3_7, g3_8, g3_9, n4, n5, n6, n7, n8, n9, g10_2, g10_3, g10_4, g10_5, n11, n12, n13, n14, g15_2, g15_3, g15_4, g15_5, n16, n17, n18, n19, g40_0, g40_1, g40_2, g44_0, g44_2, g44_3, g44_5, g44_6, g44_10, g51_3, g51_4, g51_5, g51_6, g51_7, g57_3, g57_4, g57_5, g57_6, g57_7, n120, n121, g122_0, g122_4, g122_5, g122_6, g122_7, g122_8, g122_18, g122_19, g122_20, g122_21, g122_24, g122_25, g122_28, g122_29, g122_31, g122_32, g122_33, g122_39, g122_40, g122_41, g122_45, g122_46, g122_47, g122_48, n123, n124, n125, n126, n127, n128, n129, n130, n131, n132, n133, n134, n135, n136, n137, n138, n139, n140, n141, n142, n143, n144, n145, n146, bI, cNn rc, c_ahead ok rc, a1, b1', n2, m2, l]
        rw [f0]
  · refine RcH_wdm rc ?_ hI_uI_e (fun i hi => ?_) (fun i hi => ?_) (fun d hd => ?_)
    · rw [hI_uI_s (by decide), n2, cNn rc]
    · rw [hI_uI_o (by decide), b4 8 (by decide) (by decide) (by decide)]
      exact a2 i hi
    · rw [hI_uI_o (by decide)]
      by_cases l : i < pT A col b
      · exact b2 i l
      · rw [b3 i (by omega), a3 9 (by decide), cDe rc hi, srt, if_neg l]
    · rw [hI_uI_o (by omega), b4 d (by omega) (by omega) (by omega), a3 d (by omega)]
  · rw [hL_uI, b5, a4]
