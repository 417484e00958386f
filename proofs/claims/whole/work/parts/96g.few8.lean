/-! ===== fewest: the counts, and the whole ===== -/
theorem bcN_bd {A : Ho} {col : Nat} : ∀ m k, 0 ≤ bcN A col m k ∧ bcN A col m k ≤ 10 * m := by
  intro m
  induction m with
  | zero => intro k; exact ⟨Int.le_refl 0, Int.le_refl 0⟩
  | succ m ih =>
    intro k
    have := ih k
    have := wgt_b (rdc A col m) k
    rw [bcN]
    unfold tlc
    omega
theorem m_71 {h : Hp} {x1 x2 x3 : Int32} (e : hI h 122 44 = nI 0) : ∃ h', L_X12_fewest_71 h 122 x1 x2 x3 (nI 0) = some h' ∧ MG h' (fun _ => 0) ∧ (∀ d, d ≠ 140 → hI h' d = hI h d) ∧ hL h' = hL h := by
  have key := iterW_inv (f := fun s : Hp × Int32 => B_X12_fewest_71 s.1 122 x1 x2 x3 s.2) (fun m s => s.2 = nI m ∧ (∀ k, k < m → hI s.1 140 k = nI 0) ∧ (∀ d, d ≠ 140 → hI s.1 d = hI h d) ∧ hL s.1 = hL h) (fun r => (∀ k, k < 12 → hI r 140 k = nI 0) ∧ (∀ d, d ≠ 140 → hI r d = hI h d) ∧ hL r = hL h) 12 (fun m s hm P => ?_) (fun s P => ?_) (s := (h, nI 0)) ⟨rfl, fun k hk => absurd hk (Nat.not_lt_zero k), fun _ _ => rfl, rfl⟩
  · obtain ⟨h', k1, k2, k3, k4⟩ := key
    exact ⟨h', k1, ⟨k2, by rw [k3 122 (by decide), e]; rfl⟩, k3, k4⟩
  · obtain ⟨hx, x5⟩ := s
    obtain ⟨e5, p1, p2, p3⟩ := P
    have e5 : x5 = nI m := e5
    subst e5
    refine ⟨(uI hx 140 m (nI 0), nI (m + 1)), ?_, rfl, fun k hk => ?_, fun d hd => ?_, p3⟩
    · show B_X12_fewest_71 _ _ _ _ _ _ = _
      unfold B_X12_fewest_71
      simp (disch := omega) only [↓m1_n, li_n, li_0, li_1, lt_y, lt_n, le_y, le_n, eq_n, nL, nLe, nEq, nEm, mEn, nLm, mLn, nLem, mLen, nI_add, nI_mul, nI_sub, nI_m, ib_nI, nx_nI, gd_y, bnd_e, bind_y, ↓reduceIte, hI_uI_o, hI_uI_s, hI_uI_e, hL_uI, hI_uL, hL_uL_o, hL_uL_s, hL_uL_e, and1_a, and1_b, Bool.not_true, Bool.not_false, Nat.zero_add, Nat.add_zero, Nat.add_sub_cancel, eq_self, ne_b, g0_0, g0_1, g0_2, g0_3, g0_4, g0_5, g0_6, g0_7, g0_8, g0_9, n1, n2, g3_2, g3_3, g3_4, g3_5, g3_6, g3_7, g3_8, g3_9, n4, n5, n6, n7, n8, n9, g10_2, g10_3, g10_4, g10_5, n11, n12, n13, n14, g15_2, g15_3, g15_4, g15_5, n16, n17, n18, n19, g40_0, g40_1, g40_2, g44_0, g44_2, g44_3, g44_5, g44_6, g44_10, g51_3, g51_4, g51_5, g51_6, g51_7, g57_3, g57_4, g57_5, g57_6, g57_7, n120, n121, g122_0, g122_4, g122_5, g122_6, g122_7, g122_8, g122_18, g122_19, g122_20, g122_21, g122_24, g122_25, g122_28, g122_29, g122_31, g122_32, g122_33, g122_39, g122_40, g122_41, g122_45, g122_46, g122_47, g122_48, n123, n124, n125, n126, n127, n128, n129, n130, n131, n132, n133, n134, n135, n136, n137, n138, n139, n140, n141, n142, n143, n144, n145, n146]
    · show hI (uI hx 140 m (nI 0)) 140 k = nI 0
      by_cases ek : k = m
      · rw [ek, hI_uI_e]
      · rw [hI_uI_s ek]
        exact p1 k (by omega)
    · show hI (uI hx 140 m (nI 0)) d = _
      rw [hI_uI_o hd]
      exact p2 d hd
  · obtain ⟨hx, x5⟩ := s
    obtain ⟨e5, P⟩ := P
    have e5 : x5 = nI 12 := e5
    subst e5
    refine ⟨hx, ?_, P⟩
    show B_X12_fewest_71 _ _ _ _ _ _ = _
    unfold B_X12_fewest_71
    simp (disch := omega) only [↓m1_n, li_n, li_0, li_1, lt_y, lt_n, le_y, le_n, eq_n, nL, nLe, nEq, nEm, mEn, nLm, mLn, nLem, mLen, nI_add, nI_mul, nI_sub, nI_m, ib_nI, nx_nI, gd_y, bnd_e, bind_y, ↓reduceIte, hI_uI_o, hI_uI_s, hI_uI_e, hL_uI, hI_uL, hL_uL_o, hL_uL_s, hL_uL_e, and1_a, and1_b, Bool.not_true, Bool.not_false, Nat.zero_add, Nat.add_zero, Nat.add_sub_cancel, eq_self, ne_b, g0_0, g0_1, g0_2, g0_3, g0_4, g0_5, g0_6, g0_7, g0_8, g0_9, n1, n2, g3_2, g3_3, g3_4, g3_5, g3_6, g3_7, g3_8, g3_9, n4, n5, n6, n7, n8, n9, g10_2, g10_3, g10_4, g10_5, n11, n12, n13, n14, g15_2, g15_3, g15_4, g15_5, n16, n17, n18, n19, g40_0, g40_1, g40_2, g44_0, g44_2, g44_3, g44_5, g44_6, g44_10, g51_3, g51_4, g51_5, g51_6, g51_7, g57_3, g57_4, g57_5, g57_6, g57_7, n120, n121, g122_0, g122_4, g122_5, g122_6, g122_7, g122_8, g122_18, g122_19, g122_20, g122_21, g122_24, g122_25, g122_28, g122_29, g122_31, g122_32, g122_33, g122_39, g122_40, g122_41, g122_45, g122_46, g122_47, g122_48, n123, n124, n125, n126, n127, n128, n129, n130, n131, n132, n133, n134, n135, n136, n137, n138, n139, n140, n141, n142, n143, n144, n145, n146]
theorem m_95 {h : Hp} {A : Ho} {q col : Nat} {x2 x3 : Int32} (ok : HoOk q A) (w : RmH h 0 A) (hc : col < 8) (g : MG h (fun _ => 0)) : ∃ h', L_X12_fewest_95 h 122 (nI col) x2 x3 (nI 0) = some h' ∧ MG h' (bcN A col (oN A)) ∧ FwC h h' := by
  have hA := ok.1
  have key := iterW_inv (f := fun s : Hp × Int32 => B_X12_fewest_95 s.1 122 (nI col) x2 x3 s.2) (fun m s => s.2 = nI m ∧ MG s.1 (bcN A col m) ∧ FwC h s.1) (fun r => MG r (bcN A col (oN A)) ∧ FwC h r) (oN A) (fun m s hm P => ?_) (fun s P => ?_) (s := (h, nI 0)) ⟨rfl, g, fun _ _ _ => rfl, fun _ _ => rfl, rfl⟩
  · exact key
  · obtain ⟨hx, x5⟩ := s
    obtain ⟨e5, p1, p2⟩ := P
    have e5 : x5 = nI m := e5
    have p1 : MG hx (bcN A col m) := p1
    have p2 : FwC h hx := p2
    subst e5
    have w1 := p2.fm.rm w
    have n0 : hI hx 123 0 = nI (oN A) := w1.1.1
    have r1 := m_reads ok w1 hm hc
    obtain ⟨h2, a1, a2, a3, a4, a5⟩ := m_counts (y := nI (rdN (oH A m col))) (x := nI 1) (b := 1) (v := rdc A col m) p1 (by have := rdN_le (oH A m col); unfold rdc; omega) (by unfold rdc; rw [rvV_rd (rdN_le _)]) (by decide)
    refine ⟨(h2, nI (m + 1)), ?_, rfl, a2, p2.trans ⟨fun d p q => a3 d q p, a4, a5⟩⟩
    show B_X12_fewest_95 _ _ _ _ _ _ = _
    unfold B_X12_fewest_95
    simp (disch := omega) only [↓m1_n, li_n, li_0, li_1, lt_y, lt_n, le_y, le_n, eq_n, nL, nLe, nEq, nEm, mEn, nLm, mLn, nLem, mLen, nI_add, nI_mul, nI_sub, nI_m, ib_nI, nx_nI, gd_y, bnd_e, bind_y, ↓reduceIte, hI_uI_o, hI_uI_s, hI_uI_e, hL_uI, hI_uL, hL_uL_o, hL_uL_s, hL_uL_e, and1_a, and1_b, Bool.not_true, Bool.not_false, Nat.zero_add, Nat.add_zero, Nat.add_sub_cancel, eq_self, ne_b, g0_0, g0_1, g0_2, g0_3, g0_4, g0_5, g0_6, g0_7, g0_8, g0_9, n1, n2, g3_2, g3_3, g3_4, g3_5, g3_6, g3_7, g3_8, g3_9, n4, n5, n6, n7, n8, n9, g10_2, g10_3, g10_4, g10_5, n11, n12, n13, n14, g15_2, g15_3, g15_4, g15_5, n16, n17, n18, n19, g40_0, g40_1, g40_2, g44_0, g44_2, g44_3, g44_5, g44_6, g44_10, g51_3, g51_4, g51_5, g51_6, g51_7, g57_3, g57_4, g57_5, g57_6, g57_7, n120, n121, g122_0, g122_4, g122_5, g122_6, g122_7, g122_8, g122_18, g122_19, g122_20, g122_21, g122_24, g122_25, g122_28, g122_29, g122_31, g122_32, g122_33, g122_39, g122_40, g122_41, g122_45, g122_46, g122_47, g122_48, n123, n124, n125, n126, n127, n128, n129, n130, n131, n132, n133, n134, n135, n136, n137, n138, n139, n140, n141, n142, n143, n144, n145, n146, n0, r1, a1]
  · obtain ⟨hx, x5⟩ := s
    obtain ⟨e5, P⟩ := P
    have e5 : x5 = nI (oN A) := e5
    subst e5
    refine ⟨hx, ?_, P⟩
    have n0 : hI hx 123 0 = nI (oN A) := (P.2.fm.rm w).1.1
    show B_X12_fewest_95 _ _ _ _ _ _ = _
    unfold B_X12_fewest_95
    simp (disch := omega) only [↓m1_n, li_n, li_0, li_1, lt_y, lt_n, le_y, le_n, eq_n, nL, nLe, nEq, nEm, mEn, nLm, mLn, nLem, mLen, nI_add, nI_mul, nI_sub, nI_m, ib_nI, nx_nI, gd_y, bnd_e, bind_y, ↓reduceIte, hI_uI_o, hI_uI_s, hI_uI_e, hL_uI, hI_uL, hL_uL_o, hL_uL_s, hL_uL_e, and1_a, and1_b, Bool.not_true, Bool.not_false, Nat.zero_add, Nat.add_zero, Nat.add_sub_cancel, eq_self, ne_b, g0_0, g0_1, g0_2, g0_3, g0_4, g0_5, g0_6, g0_7, g0_8, g0_9, n1, n2, g3_2, g3_3, g3_4, g3_5, g3_6, g3_7, g3_8, g3_9, n4, n5, n6, n7, n8, n9, g10_2, g10_3, g10_4, g10_5, n11, n12, n13, n14, g15_2, g15_3, g15_4, g15_5, n16, n17, n18, n19, g40_0, g40_1, g40_2, g44_0, g44_2, g44_3, g44_5, g44_6, g44_10, g51_3, g51_4, g51_5, g51_6, g51_7, g57_3, g57_4, g57_5, g57_6, g57_7, n120, n121, g122_0, g122_4, g122_5, g122_6, g122_7, g122_8, g122_18, g122_19, g122_20, g122_21, g122_24, g122_25, g122_28, g122_29, g122_31, g122_32, g122_33, g122_39, g122_40, g122_41, g122_45, g122_46, g122_47, g122_48, n123, n124, n125, n126, n127, n128, n129, n130, n131, n132, n133, n134, n135, n136, n137, n138, n139, n140, n141, n142, n143, n144, n145, n146, n0]
/-- the reference's search, after the counts -/
theorem m_srch {h : Hp} {A : Ho} {q col j : Nat} {x3 : Int32} {c : Nat → Int} {t : Nat → Int64} (ok : HoOk q A) (w : RmH h 0 A) (hc : col < 8) (hj : j < 4) (ht : t = fun k => hL h 126 (60 * j + k)) (g : MG h c) (bd : Bd 1000 c) (e43 : hI h 122 43 = nI 0) : ∃ h1 h2 l, F_X12_goesThrough h 122 (nI col) (nI j) (nI 0) = some h1 ∧ L_X12_fewest_134 h1 122 (nI col) (nI j) x3 (nI 0) = some (h2, nI l) ∧ FwM h h2 ∧ (resF A col t c = none → hI h2 122 43 = nI 0 ∧ hI h2 141 = hI h 141 ∧ hI h2 142 = hI h 142) ∧ ∀ l' s, resF A col t c = some (l', s) → l' = l ∧ l ≤ 2 ∧ 0 < s ∧ s < 1000000 ∧ hI h2 122 43 = nI s ∧ (l = 1 → TR (vw h2) 0 (hit1 A col t c) 0 (3 * oN A)) ∧ (l = 2 → TT A col t c (vw h2) (3 * oN A)) := by
  have hA := ok.1
  obtain ⟨h1, a1, a2, a3, a4, a5⟩ := m_g0 (col := col) ok w hj ht g bd e43
  cases o : okB t c with
  | true =>
    rw [o, if_pos rfl] at a4
    refine ⟨h1, h1, 0, a1, iterW_end ?_, a2, ?_, ?_⟩
    · show B_X12_fewest_134 _ _ _ _ _ _ = _
      unfold B_X12_fewest_134
      simp (disch := omega) only [↓m1_n, li_n, li_0, li_1, lt_y, lt_n, le_y, le_n, eq_n, nL, nLe, nEq, nEm, mEn, nLm, mLn, nLem, mLen, nI_add, nI_mul, nI_sub, nI_m, ib_nI, nx_nI, gd_y, bnd_e, bind_y, ↓reduceIte, hI_uI_o, hI_uI_s, hI_uI_e, hL_uI, hI_uL, hL_uL_o, hL_uL_s, hL_uL_e, and1_a, and1_b, Bool.not_true, Bool.not_false, Nat.zero_add, Nat.add_zero, Nat.add_sub_cancel, eq_self, ne_b, g0_0, g0_1, g0_2, g0_3, g0_4, g0_5, g0_6, g0_7, g0_8, g0_9, n1, n2, g3_2, g3_3, g3_4, g3_5, g3_6, g3_7, g3_8, g3_9, n4, n5, n6, n7, n8, n9, g10_2, g10_3, g10_4, g10_5, n11, n12, n13, n14, g15_2, g15_3, g15_4, g15_5, n16, n17, n18, n19, g40_0, g40_1, g40_2, g44_0, g44_2, g44_3, g44_5, g44_6, g44_10, g51_3, g51_4, g51_5, g51_6, g51_7, g57_3, g57_4, g57_5, g57_6, g57_7, n120, n121, g122_0, g122_4, g122_5, g122_6, g122_7, g122_8, g122_18, g122_19, g122_20, g122_21, g122_24, g122_25, g122_28, g122_29, g122_31, g122_32, g122_33, g122_39, g122_40, g122_41, g122_45, g122_46, g122_47, g122_48, n123, n124, n125, n126, n127, n128, n129, n130, n131, n132, n133, n134, n135, n136, n137, n138, n139, n140, n141, n142, n143, n144, n145, n146, a4]
    · unfold resF; rw [o, if_pos rfl]; intro e; cases e
    · unfold resF; rw [o, if_pos rfl]; intro l' s e; cases e
      exact ⟨rfl, by omega, by omega, by omega, a4, fun e => absurd e (by decide), fun e => absurd e (by decide)⟩
  | false =>
    rw [o, if_neg Bool.false_ne_true] at a4
    have a5 := a5 o
    have r0 : ¬ okB t c = true := by rw [o]; exact Bool.false_ne_true
    obtain ⟨h2, b1, b2, b3, b4, b5, b6⟩ := m_g1 (t := t) ok (a2.rm w) hc hj (by rw [ht, a2.2.2]) a3 bd a4
    have cl := cnt_le (hit1 A col t c) (3 * oN A)
    have g1 : B_X12_fewest_134 h1 122 (nI col) (nI j) x3 (nI 0) = some (.inl (h2, nI 1)) := by
      unfold B_X12_fewest_134
      simp (disch := omega) only [↓m1_n, li_n, li_0, li_1, lt_y, lt_n, le_y, le_n, eq_n, nL, nLe, nEq, nEm, mEn, nLm, mLn, nLem, mLen, nI_add, nI_mul, nI_sub, nI_m, ib_nI, nx_nI, gd_y, bnd_e, bind_y, ↓reduceIte, hI_uI_o, hI_uI_s, hI_uI_e, hL_uI, hI_uL, hL_uL_o, hL_uL_s, hL_uL_e, and1_a, and1_b, Bool.not_true, Bool.not_false, Nat.zero_add, Nat.add_zero, Nat.add_sub_cancel, eq_self, ne_b, g0_0, g0_1, g0_2, g0_3, g0_4, g0_5, g0_6, g0_7, g0_8, g0_9, n1, n2, g3_2, g3_3, g3_4, g3_5, g3_6, g3_7, g3_8, g3_9, n4, n5, n6, n7, n8, n9, g10_2, g10_3, g10_4, g10_5, n11, n12, n13, n14, g15_2, g15_3, g15_4, g15_5, n16, n17, n18, n19, g40_0, g40_1, g40_2, g44_0, g44_2, g44_3, g44_5, g44_6, g44_10, g51_3, g51_4, g51_5, g51_6, g51_7, g57_3, g57_4, g57_5, g57_6, g57_7, n120, n121, g122_0, g122_4, g122_5, g122_6, g122_7, g122_8, g122_18, g122_19, g122_20, g122_21, g122_24, g122_25, g122_28, g122_29, g122_31, g122_32, g122_33, g122_39, g122_40, g122_41, g122_45, g122_46, g122_47, g122_48, n123, n124, n125, n126, n127, n128, n129, n130, n131, n132, n133, n134, n135, n136, n137, n138, n139, n140, n141, n142, n143, n144, n145, n146, a4, b1]
    by_cases z1 : 0 < cnt (hit1 A col t c) (3 * oN A)
    · refine ⟨h1, h2, 1, a1, (iterW_go g1).trans (iterW_end ?_), a2.trans b2, ?_, ?_⟩
      · show B_X12_fewest_134 _ _ _ _ _ _ = _
        unfold B_X12_fewest_134
        simp (disch := omega) only [↓m1_n, li_n, li_0, li_1, lt_y, lt_n, le_y, le_n, eq_n, nL, nLe, nEq, nEm, mEn, nLm, mLn, nLem, mLen, nI_add, nI_mul, nI_sub, nI_m, ib_nI, nx_nI, gd_y, bnd_e, bind_y, ↓reduceIte, hI_uI_o, hI_uI_s, hI_uI_e, hL_uI, hI_uL, hL_uL_o, hL_uL_s, hL_uL_e, and1_a, and1_b, Bool.not_true, Bool.not_false, Nat.zero_add, Nat.add_zero, Nat.add_sub_cancel, eq_self, ne_b, g0_0, g0_1, g0_2, g0_3, g0_4, g0_5, g0_6, g0_7, g0_8, g0_9, n1, n2, g3_2, g3_3, g3_4, g3_5, g3_6, g3_7, g3_8, g3_9, n4, n5, n6, n7, n8, n9, g10_2, g10_3, g10_4, g10_5, n11, n12, n13, n14, g15_2, g15_3, g15_4, g15_5, n16, n17, n18, n19, g40_0, g40_1, g40_2, g44_0, g44_2, g44_3, g44_5, g44_6, g44_10, g51_3, g51_4, g51_5, g51_6, g51_7, g57_3, g57_4, g57_5, g57_6, g57_7, n120, n121, g122_0, g122_4, g122_5, g122_6, g122_7, g122_8, g122_18, g122_19, g122_20, g122_21, g122_24, g122_25, g122_28, g122_29, g122_31, g122_32, g122_33, g122_39, g122_40, g122_41, g122_45, g122_46, g122_47, g122_48, n123, n124, n125, n126, n127, n128, n129, n130, n131, n132, n133, n134, n135, n136, n137, n138, n139, n140, n141, n142, n143, n144, n145, n146, b4]
      · unfold resF; rw [if_neg r0, if_pos z1]; intro e; cases e
      · unfold resF; rw [if_neg r0, if_pos z1]; intro l' s e; cases e
        exact ⟨rfl, by omega, z1, by omega, b4, fun _ => b5, fun e => absurd e (by decide)⟩
    · have z0 : cnt (hit1 A col t c) (3 * oN A) = 0 := by omega
      rw [z0] at b4
      have b6 := b6 z0
      have f2 := a2.trans b2
      obtain ⟨h3, d1, d2, d3, d4, d5, d6⟩ := m_g2 (t := t) ok (f2.rm w) hc hj (by rw [ht, f2.2.2]) b3 bd b4
      have tl := tot2_le A col t c hA (3 * oN A)
      have g2 : B_X12_fewest_134 h2 122 (nI col) (nI j) x3 (nI 1) = some (.inl (h3, nI 2)) := by
        unfold B_X12_fewest_134
        simp (disch := omega) only [↓m1_n, li_n, li_0, li_1, lt_y, lt_n, le_y, le_n, eq_n, nL, nLe, nEq, nEm, mEn, nLm, mLn, nLem, mLen, nI_add, nI_mul, nI_sub, nI_m, ib_nI, nx_nI, gd_y, bnd_e, bind_y, ↓reduceIte, hI_uI_o, hI_uI_s, hI_uI_e, hL_uI, hI_uL, hL_uL_o, hL_uL_s, hL_uL_e, and1_a, and1_b, Bool.not_true, Bool.not_false, Nat.zero_add, Nat.add_zero, Nat.add_sub_cancel, eq_self, ne_b, g0_0, g0_1, g0_2, g0_3, g0_4, g0_5, g0_6, g0_7, g0_8, g0_9, n1, n2, g3_2, g3_3, g3_4, g3_5, g3_6, g3_7, g3_8, g3_9, n4, n5, n6, n7, n8, n9, g10_2, g10_3, g10_4, g10_5, n11, n12, n13, n14, g15_2, g15_3, g15_4, g15_5, n16, n17, n18, n19, g40_0, g40_1, g40_2, g44_0, g44_2, g44_3, g44_5, g44_6, g44_10, g51_3, g51_4, g51_5, g51_6, g51_7, g57_3, g57_4, g57_5, g57_6, g57_7, n120, n121, g122_0, g122_4, g122_5, g122_6, g122_7, g122_8, g122_18, g122_19, g122_20, g122_21, g122_24, g122_25, g122_28, g122_29, g122_31, g122_32, g122_33, g122_39, g122_40, g122_41, g122_45, g122_46, g122_47, g122_48, n123, n124, n125, n126, n127, n128, n129, n130, n131, n132, n133, n134, n135, n136, n137, n138, n139, n140, n141, n142, n143, n144, n145, n146, b4, d1]
      refine ⟨h1, h3, 2, a1, (iterW_go g1).trans ((iterW_go g2).trans (iterW_end ?_)), f2.trans d2, ?_, ?_⟩
      · show B_X12_fewest_134 _ _ _ _ _ _ = _
        unfold B_X12_fewest_134
        by_cases z2 : 0 < tot2 A col t c (3 * oN A)
        · simp (disch := omega) only [↓m1_n, li_n, li_0, li_1, lt_y, lt_n, le_y, le_n, eq_n, nL, nLe, nEq, nEm, mEn, nLm, mLn, nLem, mLen, nI_add, nI_mul, nI_sub, nI_m, ib_nI, nx_nI, gd_y, bnd_e, bind_y, ↓reduceIte, hI_uI_o, hI_uI_s, hI_uI_e, hL_uI, hI_uL, hL_uL_o, hL_uL_s, hL_uL_e, and1_a, and1_b, Bool.not_true, Bool.not_false, Nat.zero_add, Nat.add_zero, Nat.add_sub_cancel, eq_self, ne_b, g0_0, g0_1, g0_2, g0_3, g0_4, g0_5, g0_6, g0_7, g0_8, g0_9, n1, n2, g3_2, g3_3, g3_4, g3_5, g3_6, g3_7, g3_8, g3_9, n4, n5, n6, n7, n8, n9, g10_2, g10_3, g10_4, g10_5, n11, n12, n13, n14, g15_2, g15_3, g15_4, g15_5, n16, n17, n18, n19, g40_0, g40_1, g40_2, g44_0, g44_2, g44_3, g44_5, g44_6, g44_10, g51_3, g51_4, g51_5, g51_6, g51_7, g57_3, g57_4, g57_5, g57_6, g57_7, n120, n121, g122_0, g122_4, g122_5, g122_6, g122_7, g122_8, g122_18, g122_19, g122_20, g122_21, g122_24, g122_25, g122_28, g122_29, g122_31, g122_32, g122_33, g122_39, g122_40, g122_41, g122_45, g122_46, g122_47, g122_48, n123, n124, n125, n126, n127, n128, n129, n130, n131, n132, n133, n134, n135, n136, n137, n138, n139, n140, n141, n142, n143, n144, n145, n146, d4]
        · have z3 : tot2 A col t c (3 * oN A) = 0 := by omega
          rw [z3] at d4
          simp (disch := omega) only [↓m1_n, li_n, li_0, li_1, lt_y, lt_n, le_y, le_n, eq_n, nL, nLe, nEq, nEm, mEn, nLm, mLn, nLem, mLen, nI_add, nI_mul, nI_sub, nI_m, ib_nI, nx_nI, gd_y, bnd_e, bind_y, ↓reduceIte, hI_uI_o, hI_uI_s, hI_uI_e, hL_uI, hI_uL, hL_uL_o, hL_uL_s, hL_uL_e, and1_a, and1_b, Bool.not_true, Bool.not_false, Nat.zero_add, Nat.add_zero, Nat.add_sub_cancel, eq_self, ne_b, g0_0, g0_1, g0_2, g0_3, g0_4, g0_5, g0_6, g0_7, g0_8, g0_9, n1, n2, g3_2, g3_3, g3_4, g3_5, g3_6, g3_7, g3_8, g3_9, n4, n5, n6, n7, n8, n9, g10_2, g10_3, g10_4, g10_5, n11, n12, n13, n14, g15_2, g15_3, g15_4, g15_5, n16, n17, n18, n19, g40_0, g40_1, g40_2, g44_0, g44_2, g44_3, g44_5, g44_6, g44_10, g51_3, g51_4, g51_5, g51_6, g51_7, g57_3, g57_4, g57_5, g57_6, g57_7, n120, n121, g122_0, g122_4, g122_5, g122_6, g122_7, g122_8, g122_18, g122_19, g122_20, g122_21, g122_24, g122_25, g122_28, g122_29, g122_31, g122_32, g122_33, g122_39, g122_40, g122_41, g122_45, g122_46, g122_47, g122_48, n123, n124, n125, n126, n127, n128, n129, n130, n131, n132, n133, n134, n135, n136, n137, n138, n139, n140, n141, n142, n143, n144, n145, n146, d4]
      · unfold resF; rw [if_neg r0, if_neg z1]
        by_cases z2 : 0 < tot2 A col t c (3 * oN A)
        · rw [if_pos z2]; intro e; cases e
        · have z3 : tot2 A col t c (3 * oN A) = 0 := by omega
          have d6 := d6 z3
          intro _
          refine ⟨by rw [d4, z3], ?_, ?_⟩
          · rw [d6.1, b6.1, a5.1]
          · rw [d6.2, b6.2, a5.2]
      · unfold resF; rw [if_neg r0, if_neg z1]
        by_cases z2 : 0 < tot2 A col t c (3 * oN A)
        · rw [if_pos z2]; intro l' s e; cases e
          exact ⟨rfl, by omega, z2, by omega, d4, fun e => absurd e (by decide), fun _ => d5⟩
        · rw [if_neg z2]; intro l' s e; cases e
