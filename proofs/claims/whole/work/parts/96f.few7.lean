/-! ===== fewest: the reference's ways, one and two ===== -/
theorem m_112one {h : Hp} {A : Ho} {x1 x2 x4 : Int32} {p : Nat} (w : RmH h 0 A) (hp : p < 1000000) (hA : oN A ≤ 30) : L_X12_goesThrough_112 h 122 x1 x2 (nI 1) x4 (nI p) = some h := by
  refine iterW_end ?_
  show B_X12_goesThrough_112 _ _ _ _ _ _ _ = _
  have n0 : hI h 123 0 = nI (oN A) := w.1.1
  unfold B_X12_goesThrough_112
  by_cases l : 3 * oN A ≤ p
  · simp (disch := omega) only [↓m1_n, li_n, li_0, li_1, lt_y, lt_n, le_y, le_n, eq_n, nL, nLe, nEq, nEm, mEn, nLm, mLn, nLem, mLen, nI_add, nI_mul, nI_sub, nI_m, ib_nI, nx_nI, gd_y, bnd_e, bind_y, ↓reduceIte, hI_uI_o, hI_uI_s, hI_uI_e, hL_uI, hI_uL, hL_uL_o, hL_uL_s, hL_uL_e, and1_a, and1_b, Bool.not_true, Bool.not_false, Nat.zero_add, Nat.add_zero, Nat.add_sub_cancel, eq_self, ne_b, g0_0, g0_1, g0_2, g0_3, g0_4, g0_5, g0_6, g0_7, g0_8, g0_9, n1, n2, g3_2, g3_3, g3_4, g3_5, g3_6, g3_7, g3_8, g3_9, n4, n5, n6, n7, n8, n9, g10_2, g10_3, g10_4, g10_5, n11, n12, n13, n14, g15_2, g15_3, g15_4, g15_5, n16, n17, n18, n19, g40_0, g40_1, g40_2, g44_0, g44_2, g44_3, g44_5, g44_6, g44_10, g51_3, g51_4, g51_5, g51_6, g51_7, g57_3, g57_4, g57_5, g57_6, g57_7, n120, n121, g122_0, g122_4, g122_5, g122_6, g122_7, g122_8, g122_18, g122_19, g122_20, g122_21, g122_24, g122_25, g122_28, g122_29, g122_31, g122_32, g122_33, g122_39, g122_40, g122_41, g122_45, g122_46, g122_47, g122_48, n123, n124, n125, n126, n127, n128, n129, n130, n131, n132, n133, n134, n135, n136, n137, n138, n139, n140, n141, n142, n143, n144, n145, n146, n0, l]
  · simp (disch := omega) only [↓m1_n, li_n, li_0, li_1, lt_y, lt_n, le_y, le_n, eq_n, nL, nLe, nEq, nEm, mEn, nLm, mLn, nLem, mLen, nI_add, nI_mul, nI_sub, nI_m, ib_nI, nx_nI, gd_y, bnd_e, bind_y, ↓reduceIte, hI_uI_o, hI_uI_s, hI_uI_e, hL_uI, hI_uL, hL_uL_o, hL_uL_s, hL_uL_e, and1_a, and1_b, Bool.not_true, Bool.not_false, Nat.zero_add, Nat.add_zero, Nat.add_sub_cancel, eq_self, ne_b, g0_0, g0_1, g0_2, g0_3, g0_4, g0_5, g0_6, g0_7, g0_8, g0_9, n1, n2, g3_2, g3_3, g3_4, g3_5, g3_6, g3_7, g3_8, g3_9, n4, n5, n6, n7, n8, n9, g10_2, g10_3, g10_4, g10_5, n11, n12, n13, n14, g15_2, g15_3, g15_4, g15_5, n16, n17, n18, n19, g40_0, g40_1, g40_2, g44_0, g44_2, g44_3, g44_5, g44_6, g44_10, g51_3, g51_4, g51_5, g51_6, g51_7, g57_3, g57_4, g57_5, g57_6, g57_7, n120, n121, g122_0, g122_4, g122_5, g122_6, g122_7, g122_8, g122_18, g122_19, g122_20, g122_21, g122_24, g122_25, g122_28, g122_29, g122_31, g122_32, g122_33, g122_39, g122_40, g122_41, g122_45, g122_46, g122_47, g122_48, n123, n124, n125, n126, n127, n128, n129, n130, n131, n132, n133, n134, n135, n136, n137, n138, n139, n140, n141, n142, n143, n144, n145, n146, n0, l]
def O1 (A : Ho) (col : Nat) (t : Nat → Int64) (c : Nat → Int) (h0 h : Hp) (m : Nat) : Prop := FwM h0 h ∧ MG h c ∧ hI h 122 43 = nI (cnt (hit1 A col t c) m) ∧ TR (vw h) 0 (hit1 A col t c) 0 m ∧ (cnt (hit1 A col t c) m = 0 → hI h 141 = hI h0 141 ∧ hI h 142 = hI h0 142)
theorem m_g1 {h : Hp} {A : Ho} {q col j : Nat} {c : Nat → Int} {t : Nat → Int64} (ok : HoOk q A) (w : RmH h 0 A) (hc : col < 8) (hj : j < 4) (ht : t = fun k => hL h 126 (60 * j + k)) (g : MG h c) (bd : Bd 1000 c) (e43 : hI h 122 43 = nI 0) : ∃ h', F_X12_goesThrough h 122 (nI col) (nI j) (nI 1) = some h' ∧ O1 A col t c h h' (3 * oN A) := by
  have hA := ok.1
  have key := iterW_inv (f := fun s : Hp × Int32 => B_X12_goesThrough_23 s.1 122 (nI col) (nI j) (nI 1) s.2) (fun m s => s.2 = nI m ∧ O1 A col t c h s.1 m) (fun r => O1 A col t c h r (3 * oN A)) (3 * oN A) (fun m s hm P => ?_) (fun s P => ?_) (s := (h, nI 0)) ⟨rfl, FwM.rf, g, e43, fun i hi => (by cases hi), fun _ => ⟨rfl, rfl⟩⟩
  · obtain ⟨h', k1, k2⟩ := key
    refine ⟨h', ?_, k2⟩
    have k1 : L_X12_goesThrough_23 h 122 (nI col) (nI j) (nI 1) (nI 0) = some h' := k1
    unfold F_X12_goesThrough
    simp (disch := omega) only [↓m1_n, li_n, li_0, li_1, lt_y, lt_n, le_y, le_n, eq_n, nL, nLe, nEq, nEm, mEn, nLm, mLn, nLem, mLen, nI_add, nI_mul, nI_sub, nI_m, ib_nI, nx_nI, gd_y, bnd_e, bind_y, ↓reduceIte, hI_uI_o, hI_uI_s, hI_uI_e, hL_uI, hI_uL, hL_uL_o, hL_uL_s, hL_uL_e, and1_a, and1_b, Bool.not_true, Bool.not_false, Nat.zero_add, Nat.add_zero, Nat.add_sub_cancel, eq_self, ne_b, g0_0, g0_1, g0_2, g0_3, g0_4, g0_5, g0_6, g0_7, g0_8, g0_9, n1, n2, g3_2, g3_3, g3_4, g3_5, g3_6, g3_7, g3_8, g3_9, n4, n5, n6, n7, n8, n9, g10_2, g10_3, g10_4, g10_5, n11, n12, n13, n14, g15_2, g15_3, g15_4, g15_5, n16, n17, n18, n19, g40_0, g40_1, g40_2, g44_0, g44_2, g44_3, g44_5, g44_6, g44_10, g51_3, g51_4, g51_5, g51_6, g51_7, g57_3, g57_4, g57_5, g57_6, g57_7, n120, n121, g122_0, g122_4, g122_5, g122_6, g122_7, g122_8, g122_18, g122_19, g122_20, g122_21, g122_24, g122_25, g122_28, g122_29, g122_31, g122_32, g122_33, g122_39, g122_40, g122_41, g122_45, g122_46, g122_47, g122_48, n123, n124, n125, n126, n127, n128, n129, n130, n131, n132, n133, n134, n135, n136, n137, n138, n139, n140, n141, n142, n143, n144, n145, n146, k1]
  · obtain ⟨hx, x5⟩ := s
    obtain ⟨e5, P⟩ := P
    have e5 : x5 = nI m := e5
    have P : O1 A col t c h hx m := P
    subst e5
    obtain ⟨f, g1, e1, u1, u4⟩ := P
    have cl := cnt_le (hit1 A col t c) m
    show ∃ s', B_X12_goesThrough_23 hx 122 (nI col) (nI j) (nI 1) (nI m) = _ ∧ _
    have sn : nI m + nI 1 = nI (m + 1) := nI_add _ _
    have w1 := f.rm w
    have n0 : hI hx 123 0 = nI (oN A) := w1.1.1
    have dP : nI m / nI 3 = nI (m / 3) := pdv (by omega) (by decide) (by decide)
    have rP : m - m / 3 * 3 = m % 3 := by omega
    have q1 := (m_readsBy ok w1 hc hm).1
    by_cases n13 : misV A col m = 13
    · have ef : hit1 A col t c m = false := by
        unfold hit1
        simp [n13]
      refine ⟨(hx, nI (m + 1)), ?_, rfl, f, g1, ?_, TR_n u1 ef, ?_⟩
      · unfold B_X12_goesThrough_23
        rw [n13] at q1
        have q2 : rvV 13 = -nI 2 := rfl
        simp (disch := omega) only [↓m1_n, li_n, li_0, li_1, lt_y, lt_n, le_y, le_n, eq_n, nL, nLe, nEq, nEm, mEn, nLm, mLn, nLem, mLen, nI_add, nI_mul, nI_sub, nI_m, ib_nI, nx_nI, gd_y, bnd_e, bind_y, ↓reduceIte, hI_uI_o, hI_uI_s, hI_uI_e, hL_uI, hI_uL, hL_uL_o, hL_uL_s, hL_uL_e, and1_a, and1_b, Bool.not_true, Bool.not_false, Nat.zero_add, Nat.add_zero, Nat.add_sub_cancel, eq_self, ne_b, g0_0, g0_1, g0_2, g0_3, g0_4, g0_5, g0_6, g0_7, g0_8, g0_9, n1, n2, g3_2, g3_3, g3_4, g3_5, g3_6, g3_7, g3_8, g3_9, n4, n5, n6, n7, n8, n9, g10_2, g10_3, g10_4, g10_5, n11, n12, n13, n14, g15_2, g15_3, g15_4, g15_5, n16, n17, n18, n19, g40_0, g40_1, g40_2, g44_0, g44_2, g44_3, g44_5, g44_6, g44_10, g51_3, g51_4, g51_5, g51_6, g51_7, g57_3, g57_4, g57_5, g57_6, g57_7, n120, n121, g122_0, g122_4, g122_5, g122_6, g122_7, g122_8, g122_18, g122_19, g122_20, g122_21, g122_24, g122_25, g122_28, g122_29, g122_31, g122_32, g122_33, g122_39, g122_40, g122_41, g122_45, g122_46, g122_47, g122_48, n123, n124, n125, n126, n127, n128, n129, n130, n131, n132, n133, n134, n135, n136, n137, n138, n139, n140, n141, n142, n143, n144, n145, n146, n0, dP, rP, q1, q2, sn]
      · rw [cnt, ef]; exact e1
      · rw [cnt, ef]; exact u4
    · have bd1 : Bd 5000 c := fun k => by have := bd k; omega
      obtain ⟨h1, a1, a2, a3, a4⟩ := m_try (t := t) ok w1 hc hj (by rw [ht, f.2.2]) hm n13 g1 bd1
      have q2 : ¬ rvV (misV A col m) = -nI 2 := fun e => n13 ((rvV_m2 misV_le).mp e)
      have w2 := a3.fm.rm w1
      have e41 := a3.1 141 (by decide) (by decide)
      have e42 := a3.1 142 (by decide) (by decide)
      cases o : okB t (chI A col c m) with
      | false =>
        have ef : hit1 A col t c m = false := by
          unfold hit1
          unfold chI at o
          rw [o, Bool.and_false]
        rw [o, if_neg Bool.false_ne_true] at a4
        obtain ⟨h2, b1, b2, b3⟩ := m_bk ok w2 hc hm n13 a2
        have b4 := a3.trans b3
        have i1 := m_112one (x1 := nI col) (x2 := nI j) (x4 := nI m) (p := 3 * (m / 3) + 3) w2 (by omega) hA
        have e41 := b4.1 141 (by decide) (by decide)
        have e42 := b4.1 142 (by decide) (by decide)
        refine ⟨(h2, nI (m + 1)), ?_, rfl, f.trans b4.fm, b2, ?_, TR_vw (Or.inl rfl) e41 e42 (TR_n u1 ef), ?_⟩
        · unfold B_X12_goesThrough_23 J_X12_goesThrough_213
          simp (disch := omega) only [↓m1_n, li_n, li_0, li_1, lt_y, lt_n, le_y, le_n, eq_n, nL, nLe, nEq, nEm, mEn, nLm, mLn, nLem, mLen, nI_add, nI_mul, nI_sub, nI_m, ib_nI, nx_nI, gd_y, bnd_e, bind_y, ↓reduceIte, hI_uI_o, hI_uI_s, hI_uI_e, hL_uI, hI_uL, hL_uL_o, hL_uL_s, hL_uL_e, and1_a, and1_b, Bool.not_true, Bool.not_false, Nat.zero_add, Nat.add_zero, Nat.add_sub_cancel, eq_self, ne_b, g0_0, g0_1, g0_2, g0_3, g0_4, g0_5, g0_6, g0_7, g0_8, g0_9, n1, n2, g3_2, g3_3, g3_4, g3_5, g3_6, g3_7, g3_8, g3_9, n4, n5, n6, n7, n8, n9, g10_2, g10_3, g10_4, g10_5, n11, n12, n13, n14, g15_2, g15_3, g15_4, g15_5, n16, n17, n18, n19, g40_0, g40_1, g40_2, g44_0, g44_2, g44_3, g44_5, g44_6, g44_10, g51_3, g51_4, g51_5, g51_6, g51_7, g57_3, g57_4, g57_5, g57_6, g57_7, n120, n121, g122_0, g122_4, g122_5, g122_6, g122_7, g122_8, g122_18, g122_19, g122_20, g122_21, g122_24, g122_25, g122_28, g122_29, g122_31, g122_32, g122_33, g122_39, g122_40, g122_41, g122_45, g122_46, g122_47, g122_48, n123, n124, n125, n126, n127, n128, n129, n130, n131, n132, n133, n134, n135, n136, n137, n138, n139, n140, n141, n142, n143, n144, n145, n146, n0, dP, rP, q1, q2, a1, a4, i1, b1, sn]
        · rw [cnt, ef, b4.2.1 43 (by decide)]; exact e1
        · rw [cnt, ef, e41, e42]; exact u4
      | true =>
        have et : hit1 A col t c m = true := by
          unfold hit1
          unfold chI at o
          rw [o, Bool.and_true]
          exact decide_eq_true n13
        rw [o, if_pos rfl] at a4
        obtain ⟨h2, k1, k2, k3, k4, k5, k6, k7⟩ := m_keeps (h := h1) (n := cnt (hit1 A col t c) m) (a := nI (m / 3)) (b := nI (m % 3)) (c := mN) (d := mN) (by omega) (by rw [a3.2.1 43 (by decide)]; exact e1)
        have f2 : FwM hx h2 := a3.fm.trans ⟨fun d p q r s => k5 d p r s, fun k p q => k6 k p, k7⟩
        have w3 := f2.rm w1
        have i1 := m_112one (x1 := nI col) (x2 := nI j) (x4 := nI m) (p := 3 * (m / 3) + 3) w3 (by omega) hA
        obtain ⟨h3, b1, b2, b3⟩ := m_bk ok w3 hc hm n13 (MG_c (k5 140 (by decide) (by decide) (by decide)) (k6 44 (by decide)) a2)
        have e41' := b3.1 141 (by decide) (by decide)
        have e42' := b3.1 142 (by decide) (by decide)
        have ec : cnt (hit1 A col t c) (m + 1) = cnt (hit1 A col t c) m + 1 := by rw [cnt, et]; rfl
        refine ⟨(h3, nI (m + 1)), ?_, rfl, (f.trans f2).trans b3.fm, b2, ?_, TR_y u1 et (fun z => ?_) (fun z => ?_), fun z => ?_⟩
        · unfold B_X12_goesThrough_23 J_X12_goesThrough_213
          simp (disch := omega) only [↓m1_n, li_n, li_0, li_1, lt_y, lt_n, le_y, le_n, eq_n, nL, nLe, nEq, nEm, mEn, nLm, mLn, nLem, mLen, nI_add, nI_mul, nI_sub, nI_m, ib_nI, nx_nI, gd_y, bnd_e, bind_y, ↓reduceIte, hI_uI_o, hI_uI_s, hI_uI_e, hL_uI, hI_uL, hL_uL_o, hL_uL_s, hL_uL_e, and1_a, and1_b, Bool.not_true, Bool.not_false, Nat.zero_add, Nat.add_zero, Nat.add_sub_cancel, eq_self, ne_b, g0_0, g0_1, g0_2, g0_3, g0_4, g0_5, g0_6, g0_7, g0_8, g0_9, n1, n2, g3_2, g3_3, g3_4, g3_5, g3_6, g3_7, g3_8, g3_9, n4, n5, n6, n7, n8, n9, g10_2, g10_3, g10_4, g10_5, n11, n12, n13, n14, g15_2, g15_3, g15_4, g15_5, n16, n17, n18, n19, g40_0, g40_1, g40_2, g44_0, g44_2, g44_3, g44_5, g44_6, g44_10, g51_3, g51_4, g51_5, g51_6, g51_7, g57_3, g57_4, g57_5, g57_6, g57_7, n120, n121, g122_0, g122_4, g122_5, g122_6, g122_7, g122_8, g122_18, g122_19, g122_20, g122_21, g122_24, g122_25, g122_28, g122_29, g122_31, g122_32, g122_33, g122_39, g122_40, g122_41, g122_45, g122_46, g122_47, g122_48, n123, n124, n125, n126, n127, n128, n129, n130, n131, n132, n133, n134, n135, n136, n137, n138, n139, n140, n141, n142, n143, n144, n145, n146, n0, dP, rP, q1, q2, a1, a4, k1, i1, b1, sn]
        · rw [ec, b3.2.1 43 (by decide), k2]
        · rw [vw_0, vw_1, e41', e42', Nat.zero_add]
          exact ⟨(k3 z).1, (k3 z).2.1⟩
        · rw [vw_0, vw_1, vw_0, vw_1, e41', e42', (k4 z).1, (k4 z).2, e41, e42]
          exact ⟨rfl, rfl⟩
        · omega
  · obtain ⟨hx, x5⟩ := s
    obtain ⟨e5, P⟩ := P
    have e5 : x5 = nI (3 * oN A) := e5
    have P : O1 A col t c h hx (3 * oN A) := P
    subst e5
    refine ⟨hx, ?_, P⟩
    show B_X12_goesThrough_23 hx 122 (nI col) (nI j) (nI 1) (nI (3 * oN A)) = _
    have n0 : hI hx 123 0 = nI (oN A) := (P.1.rm w).1.1
    unfold B_X12_goesThrough_23
    simp (disch := omega) only [↓m1_n, li_n, li_0, li_1, lt_y, lt_n, le_y, le_n, eq_n, nL, nLe, nEq, nEm, mEn, nLm, mLn, nLem, mLen, nI_add, nI_mul, nI_sub, nI_m, ib_nI, nx_nI, gd_y, bnd_e, bind_y, ↓reduceIte, hI_uI_o, hI_uI_s, hI_uI_e, hL_uI, hI_uL, hL_uL_o, hL_uL_s, hL_uL_e, and1_a, and1_b, Bool.not_true, Bool.not_false, Nat.zero_add, Nat.add_zero, Nat.add_sub_cancel, eq_self, ne_b, g0_0, g0_1, g0_2, g0_3, g0_4, g0_5, g0_6, g0_7, g0_8, g0_9, n1, n2, g3_2, g3_3, g3_4, g3_5, g3_6, g3_7, g3_8, g3_9, n4, n5, n6, n7, n8, n9, g10_2, g10_3, g10_4, g10_5, n11, n12, n13, n14, g15_2, g15_3, g15_4, g15_5, n16, n17, n18, n19, g40_0, g40_1, g40_2, g44_0, g44_2, g44_3, g44_5, g44_6, g44_10, g51_3, g51_4, g51_5, g51_6, g51_7, g57_3, g57_4, g57_5, g57_6, g57_7, n120, n121, g122_0, g122_4, g122_5, g122_6, g122_7, g122_8, g122_18, g122_19, g122_20, g122_21, g122_24, g122_25, g122_28, g122_29, g122_31, g122_32, g122_33, g122_39, g122_40, g122_41, g122_45, g122_46, g122_47, g122_48, n123, n124, n125, n126, n127, n128, n129, n130, n131, n132, n133, n134, n135, n136, n137, n138, n139, n140, n141, n142, n143, n144, n145, n146, n0]
def O2 (A : Ho) (col : Nat) (t : Nat → Int64) (c : Nat → Int) (h0 h : Hp) (m : Nat) : Prop := FwM h0 h ∧ MG h c ∧ hI h 122 43 = nI (tot2 A col t c m) ∧ TT A col t c (vw h) m ∧ (tot2 A col t c m = 0 → hI h 141 = hI h0 141 ∧ hI h 142 = hI h0 142)
theorem m_g2 {h : Hp} {A : Ho} {q col j : Nat} {c : Nat → Int} {t : Nat → Int64} (ok : HoOk q A) (w : RmH h 0 A) (hc : col < 8) (hj : j < 4) (ht : t = fun k => hL h 126 (60 * j + k)) (g : MG h c) (bd : Bd 1000 c) (e43 : hI h 122 43 = nI 0) : ∃ h', F_X12_goesThrough h 122 (nI col) (nI j) (nI 2) = some h' ∧ O2 A col t c h h' (3 * oN A) := by
  have hA := ok.1
  have key := iterW_inv (f := fun s : Hp × Int32 => B_X12_goesThrough_23 s.1 122 (nI col) (nI j) (nI 2) s.2) (fun m s => s.2 = nI m ∧ O2 A col t c h s.1 m) (fun r => O2 A col t c h r (3 * oN A)) (3 * oN A) (fun m s hm P => ?_) (fun s P => ?_) (s := (h, nI 0)) ⟨rfl, FwM.rf, g, e43, fun i hi => (by cases hi), fun _ => ⟨rfl, rfl⟩⟩
  · obtain ⟨h', k1, k2⟩ := key
    refine ⟨h', ?_, k2⟩
    have k1 : L_X12_goesThrough_23 h 122 (nI col) (nI j) (nI 2) (nI 0) = some h' := k1
    unfold F_X12_goesThrough
    simp (disch := omega) only [↓m1_n, li_n, li_0, li_1, lt_y, lt_n, le_y, le_n, eq_n, nL, nLe, nEq, nEm, mEn, nLm, mLn, nLem, mLen, nI_add, nI_mul, nI_sub, nI_m, ib_nI, nx_nI, gd_y, bnd_e, bind_y, ↓reduceIte, hI_uI_o, hI_uI_s, hI_uI_e, hL_uI, hI_uL, hL_uL_o, hL_uL_s, hL_uL_e, and1_a, and1_b, Bool.not_true, Bool.not_false, Nat.zero_add, Nat.add_zero, Nat.add_sub_cancel, eq_self, ne_b, g0_0, g0_1, g0_2, g0_3, g0_4, g0_5, g0_6, g0_7, g0_8, g0_9, n1, n2, g3_2, g3_3, g3_4, g3_5, g3_6, g3_7, g3_8, g3_9, n4, n5, n6, n7, n8, n9, g10_2, g10_3, g10_4, g10_5, n11, n12, n13, n14, g15_2, g15_3, g15_4, g15_5, n16, n17, n18, n19, g40_0, g40_1, g40_2, g44_0, g44_2, g44_3, g44_5, g44_6, g44_10, g51_3, g51_4, g51_5, g51_6, g51_7, g57_3, g57_4, g57_5, g57_6, g57_7, n120, n121, g122_0, g122_4, g122_5, g122_6, g122_7, g122_8, g122_18, g122_19, g122_20, g122_21, g122_24, g122_25, g122_28, g122_29, g122_31, g122_32, g122_33, g122_39, g122_40, g122_41, g122_45, g122_46, g122_47, g122_48, n123, n124, n125, n126, n127, n128, n129, n130, n131, n132, n133, n134, n135, n136, n137, n138, n139, n140, n141, n142, n143, n144, n145, n146, k1]
  · obtain ⟨hx, x5⟩ := s
    obtain ⟨e5, P⟩ := P
    have e5 : x5 = nI m := e5
    have P : O2 A col t c h hx m := P
    subst e5
    obtain ⟨f, g1, e1, u1, u4⟩ := P
    have tl := tot2_le A col t c hA m
    show ∃ s', B_X12_goesThrough_23 hx 122 (nI col) (nI j) (nI 2) (nI m) = _ ∧ _
    have sn : nI m + nI 1 = nI (m + 1) := nI_add _ _
    have w1 := f.rm w
    have n0 : hI hx 123 0 = nI (oN A) := w1.1.1
    have dP : nI m / nI 3 = nI (m / 3) := pdv (by omega) (by decide) (by decide)
    have rP : m - m / 3 * 3 = m % 3 := by omega
    have q1 := (m_readsBy ok w1 hc hm).1
    by_cases n13 : misV A col m = 13
    · have ez : ct2 A col t c m = 0 := by unfold ct2; rw [if_pos n13]
      refine ⟨(hx, nI (m + 1)), ?_, rfl, f, g1, ?_, TT_n A col t c u1 ez, ?_⟩
      · unfold B_X12_goesThrough_23
        rw [n13] at q1
        have q2 : rvV 13 = -nI 2 := rfl
        simp (disch := omega) only [↓m1_n, li_n, li_0, li_1, lt_y, lt_n, le_y, le_n, eq_n, nL, nLe, nEq, nEm, mEn, nLm, mLn, nLem, mLen, nI_add, nI_mul, nI_sub, nI_m, ib_nI, nx_nI, gd_y, bnd_e, bind_y, ↓reduceIte, hI_uI_o, hI_uI_s, hI_uI_e, hL_uI, hI_uL, hL_uL_o, hL_uL_s, hL_uL_e, and1_a, and1_b, Bool.not_true, Bool.not_false, Nat.zero_add, Nat.add_zero, Nat.add_sub_cancel, eq_self, ne_b, g0_0, g0_1, g0_2, g0_3, g0_4, g0_5, g0_6, g0_7, g0_8, g0_9, n1, n2, g3_2, g3_3, g3_4, g3_5, g3_6, g3_7, g3_8, g3_9, n4, n5, n6, n7, n8, n9, g10_2, g10_3, g10_4, g10_5, n11, n12, n13, n14, g15_2, g15_3, g15_4, g15_5, n16, n17, n18, n19, g40_0, g40_1, g40_2, g44_0, g44_2, g44_3, g44_5, g44_6, g44_10, g51_3, g51_4, g51_5, g51_6, g51_7, g57_3, g57_4, g57_5, g57_6, g57_7, n120, n121, g122_0, g122_4, g122_5, g122_6, g122_7, g122_8, g122_18, g122_19, g122_20, g122_21, g122_24, g122_25, g122_28, g122_29, g122_31, g122_32, g122_33, g122_39, g122_40, g122_41, g122_45, g122_46, g122_47, g122_48, n123, n124, n125, n126, n127, n128, n129, n130, n131, n132, n133, n134, n135, n136, n137, n138, n139, n140, n141, n142, n143, n144, n145, n146, n0, dP, rP, q1, q2, sn]
      · rw [tot2, ez]; exact e1
      · rw [tot2, ez]; exact u4
    · have ez : ct2 A col t c m = cnt (hbI A col t c m) (bhN A (m / 3)) := by unfold ct2; rw [if_neg n13]
      have bd1 : Bd 5000 c := fun k => by have := bd k; omega
      obtain ⟨h1, a1, a2, a3, _⟩ := m_try (t := t) ok w1 hc hj (by rw [ht, f.2.2]) hm n13 g1 bd1
      have q2 : ¬ rvV (misV A col m) = -nI 2 := fun e => n13 ((rvV_m2 misV_le).mp e)
      have w2 := a3.fm.rm w1
      have e41 := a3.1 141 (by decide) (by decide)
      have e42 := a3.1 142 (by decide) (by decide)
      obtain ⟨h2, i1, v1, v2, v3, v4, v5, v6⟩ := m_in (t := t) (s0 := tot2 A col t c m) ok w2 hc hj (by rw [ht, a3.2.2, f.2.2]) hm a2 bd (by rw [a3.2.1 43 (by decide)]; exact e1) (by omega)
      have w3 := v1.rm w2
      obtain ⟨h3, b1, b2, b3⟩ := m_bk ok w3 hc hm n13 v2
      have e41' := b3.1 141 (by decide) (by decide)
      have e42' := b3.1 142 (by decide) (by decide)
      refine ⟨(h3, nI (m + 1)), ?_, rfl, (f.trans a3.fm).trans (v1.trans b3.fm), b2, ?_, ?_, fun z => ?_⟩
      · unfold B_X12_goesThrough_23 J_X12_goesThrough_213
        simp (disch := omega) only [↓m1_n, li_n, li_0, li_1, lt_y, lt_n, le_y, le_n, eq_n, nL, nLe, nEq, nEm, mEn, nLm, mLn, nLem, mLen, nI_add, nI_mul, nI_sub, nI_m, ib_nI, nx_nI, gd_y, bnd_e, bind_y, ↓reduceIte, hI_uI_o, hI_uI_s, hI_uI_e, hL_uI, hI_uL, hL_uL_o, hL_uL_s, hL_uL_e, and1_a, and1_b, Bool.not_true, Bool.not_false, Nat.zero_add, Nat.add_zero, Nat.add_sub_cancel, eq_self, ne_b, g0_0, g0_1, g0_2, g0_3, g0_4, g0_5, g0_6, g0_7, g0_8, g0_9, n1, n2, g3_2, g3_3, g3_4, g3_5, g3_6, g3_7, g3_8, g3_9, n4, n5, n6, n7, n8, n9, g10_2, g10_3, g10_4, g10_5, n11, n12, n13, n14, g15_2, g15_3, g15_4, g15_5, n16, n17, n18, n19, g40_0, g40_1, g40_2, g44_0, g44_2, g44_3, g44_5, g44_6, g44_10, g51_3, g51_4, g51_5, g51_6, g51_7, g57_3, g57_4, g57_5, g57_6, g57_7, n120, n121, g122_0, g122_4, g122_5, g122_6, g122_7, g122_8, g122_18, g122_19, g122_20, g122_21, g122_24, g122_25, g122_28, g122_29, g122_31, g122_32, g122_33, g122_39, g122_40, g122_41, g122_45, g122_46, g122_47, g122_48, n123, n124, n125, n126, n127, n128, n129, n130, n131, n132, n133, n134, n135, n136, n137, n138, n139, n140, n141, n142, n143, n144, n145, n146, n0, dP, rP, q1, q2, a1, i1, b1, sn]
      · rw [tot2, ez, b3.2.1 43 (by decide), v3]
      · by_cases z : tot2 A col t c m = 0
        · by_cases z1 : ct2 A col t c m = 0
          · refine TT_v A col t c (by rw [tot2]; omega)
          · refine TT_y A col t c z (by omega) ?_
            have := v5 z (by omega)
            rw [vw_0, vw_1, vw_2, vw_3, e41', e42']
            refine ⟨this.1, this.2, fun j hj => ?_⟩
            have := v4 z j hj
            rw [vw_2, vw_3] at this
            exact this
        · refine TT_k A col t c (TT_vw ?_ ?_ u1) z
          · rw [e41', (v6 (Or.inl z)).1, e41]
          · rw [e42', (v6 (Or.inl z)).2, e42]
      · rw [tot2] at z
        rw [e41', e42', (v6 (Or.inr (by omega))).1, (v6 (Or.inr (by omega))).2, e41, e42]
        exact u4 (by omega)
  · obtain ⟨hx, x5⟩ := s
    obtain ⟨e5, P⟩ := P
    have e5 : x5 = nI (3 * oN A) := e5
    have P : O2 A col t c h hx (3 * oN A) := P
    subst e5
    refine ⟨hx, ?_, P⟩
    show B_X12_goesThrough_23 hx 122 (nI col) (nI j) (nI 2) (nI (3 * oN A)) = _
    have n0 : hI hx 123 0 = nI (oN A) := (P.1.rm w).1.1
    unfold B_X12_goesThrough_23
    simp (disch := omega) only [↓m1_n, li_n, li_0, li_1, lt_y, lt_n, le_y, le_n, eq_n, nL, nLe, nEq, nEm, mEn, nLm, mLn, nLem, mLen, nI_add, nI_mul, nI_sub, nI_m, ib_nI, nx_nI, gd_y, bnd_e, bind_y, ↓reduceIte, hI_uI_o, hI_uI_s, hI_uI_e, hL_uI, hI_uL, hL_uL_o, hL_uL_s, hL_uL_e, and1_a, and1_b, Bool.not_true, Bool.not_false, Nat.zero_add, Nat.add_zero, Nat.add_sub_cancel, eq_self, ne_b, g0_0, g0_1, g0_2, g0_3, g0_4, g0_5, g0_6, g0_7, g0_8, g0_9, n1, n2, g3_2, g3_3, g3_4, g3_5, g3_6, g3_7, g3_8, g3_9, n4, n5, n6, n7, n8, n9, g10_2, g10_3, g10_4, g10_5, n11, n12, n13, n14, g15_2, g15_3, g15_4, g15_5, n16, n17, n18, n19, g40_0, g40_1, g40_2, g44_0, g44_2, g44_3, g44_5, g44_6, g44_10, g51_3, g51_4, g51_5, g51_6, g51_7, g57_3, g57_4, g57_5, g57_6, g57_7, n120, n121, g122_0, g122_4, g122_5, g122_6, g122_7, g122_8, g122_18, g122_19, g122_20, g122_21, g122_24, g122_25, g122_28, g122_29, g122_31, g122_32, g122_33, g122_39, g122_40, g122_41, g122_45, g122_46, g122_47, g122_48, n123, n124, n125, n126, n127, n128, n129, n130, n131, n132, n133, n134, n135, n136, n137, n138, n139, n140, n141, n142, n143, n144, n145, n146, n0]
theorem m_g0 {h : Hp} {A : Ho} {q col j : Nat} {c : Nat → Int} {t : Nat → Int64} (ok : HoOk q A) (w : RmH h 0 A) (hj : j < 4) (ht : t = fun k => hL h 126 (60 * j + k)) (g : MG h c) (bd : Bd 1000 c) (e43 : hI h 122 43 = nI 0) : ∃ h', F_X12_goesThrough h 122 (nI col) (nI j) (nI 0) = some h' ∧ FwM h h' ∧ MG h' c ∧ (hI h' 122 43 = if okB t c then nI 1 else nI 0) ∧ (okB t c = false → hI h' 141 = hI h 141 ∧ hI h' 142 = hI h 142) := by
  have hA := ok.1
  have T := m_told (j := j) g hj (fun k _ => by have := bd k; omega)
  rw [← ht] at T
  have L : ∀ hx, RmH hx 0 A → L_X12_goesThrough_23 hx 122 (nI col) (nI j) (nI 0) (nI 0) = some hx := by
    intro hx wx
    refine iterW_end ?_
    show B_X12_goesThrough_23 _ _ _ _ _ _ = _
    have n0 : hI hx 123 0 = nI (oN A) := wx.1.1
    unfold B_X12_goesThrough_23
    by_cases l : 3 * oN A ≤ 0
    · simp (disch := omega) only [↓m1_n, li_n, li_0, li_1, lt_y, lt_n, le_y, le_n, eq_n, nL, nLe, nEq, nEm, mEn, nLm, mLn, nLem, mLen, nI_add, nI_mul, nI_sub, nI_m, ib_nI, nx_nI, gd_y, bnd_e, bind_y, ↓reduceIte, hI_uI_o, hI_uI_s, hI_uI_e, hL_uI, hI_uL, hL_uL_o, hL_uL_s, hL_uL_e, and1_a, and1_b, Bool.not_true, Bool.not_false, Nat.zero_add, Nat.add_zero, Nat.add_sub_cancel, eq_self, ne_b, g0_0, g0_1, g0_2, g0_3, g0_4, g0_5, g0_6, g0_7, g0_8, g0_9, n1, n2, g3_2, g3_3, g3_4, g3_5, g3_6, g3_7, g3_8, g3_9, n4, n5, n6, n7, n8, n9, g10_2, g10_3, g10_4, g10_5, n11, n12, n13, n14, g15_2, g15_3, g15_4, g15_5, n16, n17, n18, n19, g40_0, g40_1, g40_2, g44_0, g44_2, g44_3, g44_5, g44_6, g44_10, g51_3, g51_4, g51_5, g51_6, g51_7, g57_3, g57_4, g57_5, g57_6, g57_7, n120, n121, g122_0, g122_4, g122_5, g122_6, g122_7, g122_8, g122_18, g122_19, g122_20, g122_21, g122_24, g122_25, g122_28, g122_29, g122_31, g122_32, g122_33, g122_39, g122_40, g122_41, g122_45, g122_46, g122_47, g122_48, n123, n124, n125, n126, n127, n128, n129, n130, n131, n132, n133, n134, n135, n136, n137, n138, n139, n140, n141, n142, n143, n144, n145, n146, n0, l]
    · simp (disch := omega) only [↓m1_n, li_n, li_0, li_1, lt_y, lt_n, le_y, le_n, eq_n, nL, nLe, nEq, nEm, mEn, nLm, mLn, nLem, mLen, nI_add, nI_mul, nI_sub, nI_m, ib_nI, nx_nI, gd_y, bnd_e, bind_y, ↓reduceIte, hI_uI_o, hI_uI_s, hI_uI_e, hL_uI, hI_uL, hL_uL_o, hL_uL_s, hL_uL_e, and1_a, and1_b, Bool.not_true, Bool.not_false, Nat.zero_add, Nat.add_zero, Nat.add_sub_cancel, eq_self, ne_b, g0_0, g0_1, g0_2, g0_3, g0_4, g0_5, g0_6, g0_7, g0_8, g0_9, n1, n2, g3_2, g3_3, g3_4, g3_5, g3_6, g3_7, g3_8, g3_9, n4, n5, n6, n7, n8, n9, g10_2, g10_3, g10_4, g10_5, n11, n12, n13, n14, g15_2, g15_3, g15_4, g15_5, n16, n17, n18, n19, g40_0, g40_1, g40_2, g44_0, g44_2, g44_3, g44_5, g44_6, g44_10, g51_3, g51_4, g51_5, g51_6, g51_7, g57_3, g57_4, g57_5, g57_6, g57_7, n120, n121, g122_0, g122_4, g122_5, g122_6, g122_7, g122_8, g122_18, g122_19, g122_20, g122_21, g122_24, g122_25, g122_28, g122_29, g122_31, g122_32, g122_33, g122_39, g122_40, g122_41, g122_45, g122_46, g122_47, g122_48, n123, n124, n125, n126, n127, n128, n129, n130, n131, n132, n133, n134, n135, n136, n137, n138, n139, n140, n141, n142, n143, n144, n145, n146, n0, l]
  cases o : okB t c with
  | false =>
    rw [o, if_neg Bool.false_ne_true] at T
    refine ⟨h, ?_, FwM.rf, g, e43, fun _ => ⟨rfl, rfl⟩⟩
    unfold F_X12_goesThrough
    simp (disch := omega) only [↓m1_n, li_n, li_0, li_1, lt_y, lt_n, le_y, le_n, eq_n, nL, nLe, nEq, nEm, mEn, nLm, mLn, nLem, mLen, nI_add, nI_mul, nI_sub, nI_m, ib_nI, nx_nI, gd_y, bnd_e, bind_y, ↓reduceIte, hI_uI_o, hI_uI_s, hI_uI_e, hL_uI, hI_uL, hL_uL_o, hL_uL_s, hL_uL_e, and1_a, and1_b, Bool.not_true, Bool.not_false, Nat.zero_add, Nat.add_zero, Nat.add_sub_cancel, eq_self, ne_b, g0_0, g0_1, g0_2, g0_3, g0_4, g0_5, g0_6, g0_7, g0_8, g0_9, n1, n2, g3_2, g3_3, g3_4, g3_5, g3_6, g3_7, g3_8, g3_9, n4, n5, n6, n7, n8, n9, g10_2, g10_3, g10_4, g10_5, n11, n12, n13, n14, g15_2, g15_3, g15_4, g15_5, n16, n17, n18, n19, g40_0, g40_1, g40_2, g44_0, g44_2, g44_3, g44_5, g44_6, g44_10, g51_3, g51_4, g51_5, g51_6, g51_7, g57_3, g57_4, g57_5, g57_6, g57_7, n120, n121, g122_0, g122_4, g122_5, g122_6, g122_7, g122_8, g122_18, g122_19, g122_20, g122_21, g122_24, g122_25, g122_28, g122_29, g122_31, g122_32, g122_33, g122_39, g122_40, g122_41, g122_45, g122_46, g122_47, g122_48, n123, n124, n125, n126, n127, n128, n129, n130, n131, n132, n133, n134, n135, n136, n137, n138, n139, n140, n141, n142, n143, n144, n145, n146, T, L h w]
  | true =>
    rw [o, if_pos rfl] at T
    obtain ⟨h2, k1, k2, k3, k4, k5, k6, k7⟩ := m_keeps (h := h) (n := 0) (a := mN) (b := mN) (c := mN) (d := mN) (by omega) e43
    have f2 : FwM h h2 := ⟨fun d p q r s => k5 d p r s, fun k p q => k6 k p, k7⟩
    refine ⟨h2, ?_, f2, MG_c (k5 140 (by decide) (by decide) (by decide)) (k6 44 (by decide)) g, k2, fun e => absurd e (by decide)⟩
    unfold F_X12_goesThrough
    simp (disch := omega) only [↓m1_n, li_n, li_0, li_1, lt_y, lt_n, le_y, le_n, eq_n, nL, nLe, nEq, nEm, mEn, nLm, mLn, nLem, mLen, nI_add, nI_mul, nI_sub, nI_m, ib_nI, nx_nI, gd_y, bnd_e, bind_y, ↓reduceIte, hI_uI_o, hI_uI_s, hI_uI_e, hL_uI, hI_uL, hL_uL_o, hL_uL_s, hL_uL_e, and1_a, and1_b, Bool.not_true, Bool.not_false, Nat.zero_add, Nat.add_zero, Nat.add_sub_cancel, eq_self, ne_b, g0_0, g0_1, g0_2, g0_3, g0_4, g0_5, g0_6, g0_7, g0_8, g0_9, n1, n2, g3_2, g3_3, g3_4, g3_5, g3_6, g3_7, g3_8, g3_9, n4, n5, n6, n7, n8, n9, g10_2, g10_3, g10_4, g10_5, n11, n12, n13, n14, g15_2, g15_3, g15_4, g15_5, n16, n17, n18, n19, g40_0, g40_1, g40_2, g44_0, g44_2, g44_3, g44_5, g44_6, g44_10, g51_3, g51_4, g51_5, g51_6, g51_7, g57_3, g57_4, g57_5, g57_6, g57_7, n120, n121, g122_0, g122_4, g122_5, g122_6, g122_7, g122_8, g122_18, g122_19, g122_20, g122_21, g122_24, g122_25, g122_28, g122_29, g122_31, g122_32, g122_33, g122_39, g122_40, g122_41, g122_45, g122_46, g122_47, g122_48, n123, n124, n125, n126, n127, n128, n129, n130, n131, n132, n133, n134, n135, n136, n137, n138, n139, n140, n141, n142, n143, n144, n145, n146, T, k1, L h2 (f2.rm w)]
