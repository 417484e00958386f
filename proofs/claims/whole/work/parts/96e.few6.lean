/-! ===== fewest: the reference's ways through the column ===== -/
/-- the kept set, seen as the component's trial -/
def vw (h : Hp) : Hp := uI (uI (uI (uI h 53 0 (hI h 141 0)) 53 1 (hI h 142 0)) 53 2 (hI h 141 1)) 53 3 (hI h 142 1)
theorem vw_0 {h : Hp} : hI (vw h) 53 0 = hI h 141 0 := by
  unfold vw
  rw [hI_uI_s (by decide), hI_uI_s (by decide), hI_uI_s (by decide), hI_uI_e]
theorem vw_1 {h : Hp} : hI (vw h) 53 1 = hI h 142 0 := by
  unfold vw
  rw [hI_uI_s (by decide), hI_uI_s (by decide), hI_uI_e]
theorem vw_2 {h : Hp} : hI (vw h) 53 2 = hI h 141 1 := by
  unfold vw
  rw [hI_uI_s (by decide), hI_uI_e]
theorem vw_3 {h : Hp} : hI (vw h) 53 3 = hI h 142 1 := by
  unfold vw
  rw [hI_uI_e]
theorem TR_vw {h h' : Hp} {a o m : Nat} {P : Nat → Bool} (ha : a = 0 ∨ a = 2) (e1 : hI h' 141 = hI h 141) (e2 : hI h' 142 = hI h 142) (t : TR (vw h) a P o m) : TR (vw h') a P o m := by
  unfold TR at *
  rcases ha with rfl | rfl
  · rw [vw_0, vw_1] at *
    rw [e1, e2]
    exact t
  · rw [vw_2, vw_3] at *
    rw [e1, e2]
    exact t
theorem TT_vw {h h' : Hp} {A : Ho} {col m : Nat} {t : Nat → Int64} {c : Nat → Int} (e1 : hI h' 141 = hI h 141) (e2 : hI h' 142 = hI h 142) (x : TT A col t c (vw h) m) : TT A col t c (vw h') m := by
  unfold TT at *
  rw [vw_0, vw_1, vw_2, vw_3] at *
  rw [e1, e2]
  exact x
/-- one misreading: told, and whether it closes, and back -/
theorem m_try {h : Hp} {A : Ho} {q col i j : Nat} {c : Nat → Int} {t : Nat → Int64} (ok : HoOk q A) (w : RmH h 0 A) (hc : col < 8) (hj : j < 4) (ht : t = fun k => hL h 126 (60 * j + k)) (hi : i < 3 * oN A) (n13 : misV A col i ≠ 13) (g : MG h c) (bd : Bd 5000 c) : ∃ h1, F_X12_misreads h 122 (nI (i / 3)) (nI col) (nI (i % 3)) (nI 1) = some h1 ∧ MG h1 (chI A col c i) ∧ FwC h h1 ∧ F_X12_isTold h1 122 (nI j) = some (if okB t (chI A col c i) then nI 1 else nI 0) := by
  obtain ⟨⟨h1, a1, a2, a3⟩, _⟩ := m_mis ok w hc hi n13 g
  refine ⟨h1, a1, a2, a3, ?_⟩
  have T := m_told (j := j) a2 hj (fun k _ => by have := chg_bd (p := rdc A col (i / 3)) (v := misV A col i) bd k; omega)
  rw [a3.2.2, ← ht] at T
  exact T
theorem m_bk {h : Hp} {A : Ho} {q col i : Nat} {c : Nat → Int} (ok : HoOk q A) (w : RmH h 0 A) (hc : col < 8) (hi : i < 3 * oN A) (n13 : misV A col i ≠ 13) (g : MG h (chI A col c i)) : ∃ h', F_X12_misreads h 122 (nI (i / 3)) (nI col) (nI (i % 3)) mN = some h' ∧ MG h' c ∧ FwC h h' := by
  obtain ⟨_, ⟨h1, a1, a2, a3⟩⟩ := m_mis ok w hc hi n13 g
  unfold chI at a2
  rw [chg_back] at a2
  exact ⟨h1, a1, a2, a3⟩
def IS (A : Ho) (col : Nat) (t : Nat → Int64) (c : Nat → Int) (i s0 : Nat) (h0 h : Hp) (m : Nat) : Prop := FwM h0 h ∧ MG h (chI A col c i) ∧ hI h 122 43 = nI (s0 + cnt (hbI A col t c i) m) ∧ (s0 = 0 → TR (vw h) 2 (hbI A col t c i) (3 * (i / 3) + 3) m) ∧ (s0 = 0 → 0 < cnt (hbI A col t c i) m → hI h 141 0 = nI (i / 3) ∧ hI h 142 0 = nI (i % 3)) ∧ ((s0 ≠ 0 ∨ cnt (hbI A col t c i) m = 0) → hI h 141 = hI h0 141 ∧ hI h 142 = hI h0 142)
theorem m_in {h : Hp} {A : Ho} {q col i j s0 : Nat} {c : Nat → Int} {t : Nat → Int64} (ok : HoOk q A) (w : RmH h 0 A) (hc : col < 8) (hj : j < 4) (ht : t = fun k => hL h 126 (60 * j + k)) (hi : i < 3 * oN A) (g : MG h (chI A col c i)) (bd : Bd 1000 c) (e43 : hI h 122 43 = nI s0) (hs : s0 ≤ 100000) : ∃ h', L_X12_goesThrough_112 h 122 (nI col) (nI j) (nI 2) (nI i) (nI (3 * (i / 3) + 3)) = some h' ∧ IS A col t c i s0 h h' (bhN A (i / 3)) := by
  have hA := ok.1
  have bd1 : Bd 5000 (chI A col c i) := fun k => by have := chg_bd (p := rdc A col (i / 3)) (v := misV A col i) bd k; unfold chI; omega
  have dI : nI i / nI 3 = nI (i / 3) := pdv (by omega) (by decide) (by decide)
  have rI : i - i / 3 * 3 = i % 3 := by omega
  have bn : bhN A (i / 3) = 3 * oN A - (3 * (i / 3) + 3) := rfl
  have key := iterW_inv (f := fun s : Hp × Int32 => B_X12_goesThrough_112 s.1 122 (nI col) (nI j) (nI 2) (nI i) s.2) (fun m s => s.2 = nI (3 * (i / 3) + 3 + m) ∧ IS A col t c i s0 h s.1 m) (fun r => IS A col t c i s0 h r (bhN A (i / 3))) (bhN A (i / 3)) (fun m s hm P => ?_) (fun s P => ?_) (s := (h, nI (3 * (i / 3) + 3))) ⟨rfl, FwM.rf, g, e43, fun _ i hi => (by cases hi), fun _ e => absurd e (Nat.lt_irrefl 0), fun _ => ⟨rfl, rfl⟩⟩
  · exact key
  · obtain ⟨hx, x5⟩ := s
    obtain ⟨e5, P⟩ := P
    have e5 : x5 = nI (3 * (i / 3) + 3 + m) := e5
    have P : IS A col t c i s0 h hx m := P
    subst e5
    obtain ⟨f, g1, e1, u1, u2, u3⟩ := P
    have cl := cnt_le (hbI A col t c i) m
    show ∃ s', B_X12_goesThrough_112 hx 122 (nI col) (nI j) (nI 2) (nI i) (nI (3 * (i / 3) + 3 + m)) = _ ∧ _
    have hp : 3 * (i / 3) + 3 + m < 3 * oN A := by omega
    have eh : hbI A col t c i m = hit1 A col t (chI A col c i) (3 * (i / 3) + 3 + m) := rfl
    have sn : nI (3 * (i / 3) + 3 + m) + nI 1 = nI (3 * (i / 3) + 3 + (m + 1)) := nI_add _ _
    have ep : 3 * (i / 3) + 3 + m = 3 * (i / 3) + 3 + m := rfl
    generalize hpp : 3 * (i / 3) + 3 + m = p at *
    have w1 := f.rm w
    have n0 : hI hx 123 0 = nI (oN A) := w1.1.1
    have dP : nI p / nI 3 = nI (p / 3) := pdv (by omega) (by decide) (by decide)
    have rP : p - p / 3 * 3 = p % 3 := by omega
    have q1 := (m_readsBy ok w1 hc hp).1
    by_cases n13 : misV A col p = 13
    · have ef : hbI A col t c i m = false := by
        rw [eh]
        unfold hit1
        simp [n13]
      refine ⟨(hx, nI (3 * (i / 3) + 3 + (m + 1))), ?_, rfl, f, g1, ?_, fun e => TR_n (u1 e) ef, ?_, ?_⟩
      · unfold B_X12_goesThrough_112
        rw [n13] at q1
        have q2 : rvV 13 = -nI 2 := rfl
        simp (disch := omega) only [↓m1_n, li_n, li_0, li_1, lt_y, lt_n, le_y, le_n, eq_n, nL, nLe, nEq, nEm, mEn, nLm, mLn, nLem, mLen, nI_add, nI_mul, nI_sub, nI_m, ib_nI, nx_nI, gd_y, bnd_e, bind_y, ↓reduceIte, hI_uI_o, hI_uI_s, hI_uI_e, hL_uI, hI_uL, hL_uL_o, hL_uL_s, hL_uL_e, and1_a, and1_b, Bool.not_true, Bool.not_false, Nat.zero_add, Nat.add_zero, Nat.add_sub_cancel, eq_self, ne_b, g0_0, g0_1, g0_2, g0_3, g0_4, g0_5, g0_6, g0_7, g0_8, g0_9, n1, n2, g3_2, g3_3, g3_4, g3_5, g3_6, g3_7, g3_8, g3_9, n4, n5, n6, n7, n8, n9, g10_2, g10_3, g10_4, g10_5, n11, n12, n13, n14, g15_2, g15_3, g15_4, g15_5, n16, n17, n18, n19, g40_0, g40_1, g40_2, g44_0, g44_2, g44_3, g44_5, g44_6, g44_10, g51_3, g51_4, g51_5, g51_6, g51_7, g57_3, g57_4, g57_5, g57_6, g57_7, n120, n121, g122_0, g122_4, g122_5, g122_6, g122_7, g122_8, g122_18, g122_19, g122_20, g122_21, g122_24, g122_25, g122_28, g122_29, g122_31, g122_32, g122_33, g122_39, g122_40, g122_41, g122_45, g122_46, g122_47, g122_48, n123, n124, n125, n126, n127, n128, n129, n130, n131, n132, n133, n134, n135, n136, n137, n138, n139, n140, n141, n142, n143, n144, n145, n146, n0, dP, rP, q1, q2, sn]
      · rw [cnt, ef]; exact e1
      · rw [cnt, ef]; exact u2
      · rw [cnt, ef]; exact u3
    · obtain ⟨h1, a1, a2, a3, a4⟩ := m_try (t := t) ok w1 hc hj (by rw [ht, f.2.2]) hp n13 g1 bd1
      have q2 : ¬ rvV (misV A col p) = -nI 2 := fun e => n13 ((rvV_m2 misV_le).mp e)
      have w2 := a3.fm.rm w1
      have e41 := a3.1 141 (by decide) (by decide)
      have e42 := a3.1 142 (by decide) (by decide)
      cases o : okB t (chI A col (chI A col c i) p) with
      | false =>
        have ef : hbI A col t c i m = false := by
          rw [eh]
          unfold hit1
          unfold chI at o ⊢
          rw [o, Bool.and_false]
        rw [o, if_neg Bool.false_ne_true] at a4
        obtain ⟨h2, b1, b2, b3⟩ := m_bk ok w2 hc hp n13 a2
        have b4 := a3.trans b3
        have e41 := b4.1 141 (by decide) (by decide)
        have e42 := b4.1 142 (by decide) (by decide)
        refine ⟨(h2, nI (3 * (i / 3) + 3 + (m + 1))), ?_, rfl, f.trans b4.fm, b2, ?_, fun e => TR_vw (Or.inr rfl) e41 e42 (TR_n (u1 e) ef), ?_, fun e => ?_⟩
        · unfold B_X12_goesThrough_112 J_X12_goesThrough_193
          simp (disch := omega) only [↓m1_n, li_n, li_0, li_1, lt_y, lt_n, le_y, le_n, eq_n, nL, nLe, nEq, nEm, mEn, nLm, mLn, nLem, mLen, nI_add, nI_mul, nI_sub, nI_m, ib_nI, nx_nI, gd_y, bnd_e, bind_y, ↓reduceIte, hI_uI_o, hI_uI_s, hI_uI_e, hL_uI, hI_uL, hL_uL_o, hL_uL_s, hL_uL_e, and1_a, and1_b, Bool.not_true, Bool.not_false, Nat.zero_add, Nat.add_zero, Nat.add_sub_cancel, eq_self, ne_b, g0_0, g0_1, g0_2, g0_3, g0_4, g0_5, g0_6, g0_7, g0_8, g0_9, n1, n2, g3_2, g3_3, g3_4, g3_5, g3_6, g3_7, g3_8, g3_9, n4, n5, n6, n7, n8, n9, g10_2, g10_3, g10_4, g10_5, n11, n12, n13, n14, g15_2, g15_3, g15_4, g15_5, n16, n17, n18, n19, g40_0, g40_1, g40_2, g44_0, g44_2, g44_3, g44_5, g44_6, g44_10, g51_3, g51_4, g51_5, g51_6, g51_7, g57_3, g57_4, g57_5, g57_6, g57_7, n120, n121, g122_0, g122_4, g122_5, g122_6, g122_7, g122_8, g122_18, g122_19, g122_20, g122_21, g122_24, g122_25, g122_28, g122_29, g122_31, g122_32, g122_33, g122_39, g122_40, g122_41, g122_45, g122_46, g122_47, g122_48, n123, n124, n125, n126, n127, n128, n129, n130, n131, n132, n133, n134, n135, n136, n137, n138, n139, n140, n141, n142, n143, n144, n145, n146, n0, dP, rP, q1, q2, a1, a4, b1, sn]
        · rw [cnt, ef, b4.2.1 43 (by decide)]; exact e1
        · rw [cnt, ef, e41, e42]; exact u2
        · rw [cnt, ef] at e; rw [e41, e42]; exact u3 e
      | true =>
        have et : hbI A col t c i m = true := by
          rw [eh]
          unfold hit1
          unfold chI at o ⊢
          rw [o, Bool.and_true]
          exact decide_eq_true n13
        rw [o, if_pos rfl] at a4
        obtain ⟨h2, k1, k2, k3, k4, k5, k6, k7⟩ := m_keeps (h := h1) (n := s0 + cnt (hbI A col t c i) m) (a := nI (i / 3)) (b := nI (i % 3)) (c := nI (p / 3)) (d := nI (p % 3)) (by omega) (by rw [a3.2.1 43 (by decide)]; exact e1)
        have f2 : FwM hx h2 := a3.fm.trans ⟨fun d p q r s => k5 d p r s, fun k p q => k6 k p, k7⟩
        have w3 := f2.rm w1
        obtain ⟨h3, b1, b2, b3⟩ := m_bk ok w3 hc hp n13 (MG_c (k5 140 (by decide) (by decide) (by decide)) (k6 44 (by decide)) a2)
        have e41' := b3.1 141 (by decide) (by decide)
        have e42' := b3.1 142 (by decide) (by decide)
        have ec : cnt (hbI A col t c i) (m + 1) = cnt (hbI A col t c i) m + 1 := by rw [cnt, et]; rfl
        refine ⟨(h3, nI (3 * (i / 3) + 3 + (m + 1))), ?_, rfl, (f.trans f2).trans b3.fm, b2, ?_, fun e => TR_y (u1 e) et (fun z => ?_) (fun z => ?_), fun e z => ?_, fun e => ?_⟩
        · unfold B_X12_goesThrough_112 J_X12_goesThrough_193
          simp (disch := omega) only [↓m1_n, li_n, li_0, li_1, lt_y, lt_n, le_y, le_n, eq_n, nL, nLe, nEq, nEm, mEn, nLm, mLn, nLem, mLen, nI_add, nI_mul, nI_sub, nI_m, ib_nI, nx_nI, gd_y, bnd_e, bind_y, ↓reduceIte, hI_uI_o, hI_uI_s, hI_uI_e, hL_uI, hI_uL, hL_uL_o, hL_uL_s, hL_uL_e, and1_a, and1_b, Bool.not_true, Bool.not_false, Nat.zero_add, Nat.add_zero, Nat.add_sub_cancel, eq_self, ne_b, g0_0, g0_1, g0_2, g0_3, g0_4, g0_5, g0_6, g0_7, g0_8, g0_9, n1, n2, g3_2, g3_3, g3_4, g3_5, g3_6, g3_7, g3_8, g3_9, n4, n5, n6, n7, n8, n9, g10_2, g10_3, g10_4, g10_5, n11, n12, n13, n14, g15_2, g15_3, g15_4, g15_5, n16, n17, n18, n19, g40_0, g40_1, g40_2, g44_0, g44_2, g44_3, g44_5, g44_6, g44_10, g51_3, g51_4, g51_5, g51_6, g51_7, g57_3, g57_4, g57_5, g57_6, g57_7, n120, n121, g122_0, g122_4, g122_5, g122_6, g122_7, g122_8, g122_18, g122_19, g122_20, g122_21, g122_24, g122_25, g122_28, g122_29, g122_31, g122_32, g122_33, g122_39, g122_40, g122_41, g122_45, g122_46, g122_47, g122_48, n123, n124, n125, n126, n127, n128, n129, n130, n131, n132, n133, n134, n135, n136, n137, n138, n139, n140, n141, n142, n143, n144, n145, n146, n0, dP, rP, dI, rI, q1, q2, a1, a4, k1, b1, sn]
        · rw [ec, b3.2.1 43 (by decide), k2, Nat.add_assoc]
        · rw [vw_2, vw_3, e41', e42', hpp]
          exact (k3 (by omega)).2.2
        · rw [vw_2, vw_3, vw_2, vw_3, e41', e42', (k4 (by omega)).1, (k4 (by omega)).2, e41, e42]
          exact ⟨rfl, rfl⟩
        · rw [e41', e42']
          by_cases z0 : cnt (hbI A col t c i) m = 0
          · exact ⟨(k3 (by omega)).1, (k3 (by omega)).2.1⟩
          · rw [(k4 (by omega)).1, (k4 (by omega)).2, e41, e42]
            exact u2 e (by omega)
        · rw [ec] at e
          rw [e41', e42', (k4 (by omega)).1, (k4 (by omega)).2, e41, e42]
          exact u3 (by omega)
  · obtain ⟨hx, x5⟩ := s
    obtain ⟨rfl, P⟩ := P
    refine ⟨hx, ?_, P⟩
    show B_X12_goesThrough_112 hx 122 (nI col) (nI j) (nI 2) (nI i) (nI (3 * (i / 3) + 3 + bhN A (i / 3))) = _
    have n0 : hI hx 123 0 = nI (oN A) := (P.1.rm w).1.1
    unfold B_X12_goesThrough_112
    simp (disch := omega) only [↓m1_n, li_n, li_0, li_1, lt_y, lt_n, le_y, le_n, eq_n, nL, nLe, nEq, nEm, mEn, nLm, mLn, nLem, mLen, nI_add, nI_mul, nI_sub, nI_m, ib_nI, nx_nI, gd_y, bnd_e, bind_y, ↓reduceIte, hI_uI_o, hI_uI_s, hI_uI_e, hL_uI, hI_uL, hL_uL_o, hL_uL_s, hL_uL_e, and1_a, and1_b, Bool.not_true, Bool.not_false, Nat.zero_add, Nat.add_zero, Nat.add_sub_cancel, eq_self, ne_b, g0_0, g0_1, g0_2, g0_3, g0_4, g0_5, g0_6, g0_7, g0_8, g0_9, n1, n2, g3_2, g3_3, g3_4, g3_5, g3_6, g3_7, g3_8, g3_9, n4, n5, n6, n7, n8, n9, g10_2, g10_3, g10_4, g10_5, n11, n12, n13, n14, g15_2, g15_3, g15_4, g15_5, n16, n17, n18, n19, g40_0, g40_1, g40_2, g44_0, g44_2, g44_3, g44_5, g44_6, g44_10, g51_3, g51_4, g51_5, g51_6, g51_7, g57_3, g57_4, g57_5, g57_6, g57_7, n120, n121, g122_0, g122_4, g122_5, g122_6, g122_7, g122_8, g122_18, g122_19, g122_20, g122_21, g122_24, g122_25, g122_28, g122_29, g122_31, g122_32, g122_33, g122_39, g122_40, g122_41, g122_45, g122_46, g122_47, g122_48, n123, n124, n125, n126, n127, n128, n129, n130, n131, n132, n133, n134, n135, n136, n137, n138, n139, n140, n141, n142, n143, n144, n145, n146, n0]
