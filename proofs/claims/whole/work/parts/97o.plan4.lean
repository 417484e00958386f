/-! ===== plan: the component's search ===== -/
theorem selR_s {V : Nat → Option Nat} {r : Nat} (e : V r = none) : selR V (r + 1) = selR V r := by rw [selR, e]
theorem selR_y {V : Nat → Option Nat} {r v : Nat} (e : V r = some v) (n : selR V r = none) : selR V (r + 1) = some (v, r) := by rw [selR, e, n]
theorem selR_l {V : Nat → Option Nat} {r v : Nat} {p : Nat × Nat} (e : V r = some v) (n : selR V r = some p) (l : v < p.1) : selR V (r + 1) = some (v, r) := by rw [selR, e, n]; exact if_pos l
theorem selR_g {V : Nat → Option Nat} {r v : Nat} {p : Nat × Nat} (e : V r = some v) (n : selR V r = some p) (l : ¬ v < p.1) : selR V (r + 1) = some p := by rw [selR, e, n]; exact if_neg l
theorem vlR_le {A : Ho} {rk cl : Nat → Nat} {d m r v : Nat} (e : vlR A rk cl d m r = some v) : v ≤ 12 * m := by
  unfold vlR at e
  by_cases c : exB (desB rk (dkR A (rwN cl d m r) m)) (oN A - 1) = true
  · rw [if_pos c] at e; cases e
  · rw [if_neg c] at e
    cases e
    exact hdR_le m
theorem vlC_le {A : Ho} {rk cl : Nat → Nat} {d m r v : Nat} (e : vlC A rk cl d m r = some v) : v ≤ 12 * m := by
  unfold vlC at e
  by_cases c : rpB (rwN cl d m r) m 0 = true
  · rw [if_pos c] at e; cases e
  · rw [if_neg c] at e
    exact vlR_le e
def FrQw (h h' : Hp) : Prop := (∀ d, d ≠ 41 → d ≠ 42 → d ≠ 44 → d ≠ 48 → d ≠ 49 → d ≠ 50 → hI h' d = hI h d) ∧ (∀ k, k ≠ 9 → hI h' 44 k = hI h 44 k) ∧ hL h' = hL h
theorem FrQw.rf {h : Hp} : FrQw h h := ⟨fun _ _ _ _ _ _ _ => rfl, fun _ _ => rfl, rfl⟩
theorem FrQw.trans {a b c : Hp} (x : FrQw a b) (y : FrQw b c) : FrQw a c := ⟨fun d p q r s t u => (y.1 d p q r s t u).trans (x.1 d p q r s t u), fun k p => (y.2.1 k p).trans (x.2.1 k p), y.2.2.trans x.2.2⟩
theorem FrQw.rc {h h' : Hp} {A : Ho} (f : FrQw h h') (r : RcH h 3 A) : RcH h' 3 A := RcH_congr (fun d _ _ => f.1 d (by omega) (by omega) (by omega) (by omega) (by omega) (by omega)) r
def StC (h h' : Hp) (x : Int32) (R : Nat → Nat → Nat) (m : Nat) (o : Option (Nat × Nat)) : Prop := (o = none → x = nI 0 ∧ hI h' 44 9 = hI h 44 9 ∧ hI h' 50 = hI h 50) ∧ ∀ p, o = some p → x = nI 1 ∧ hI h' 44 9 = nI p.1 ∧ ∀ k, k < m → hI h' 50 k = nI (R p.2 k)
theorem StC.go {h a b : Hp} {x : Int32} {R : Nat → Nat → Nat} {m : Nat} {o : Option (Nat × Nat)} (e1 : hI b 44 = hI a 44) (e2 : hI b 50 = hI a 50) (s : StC h a x R m o) : StC h b x R m o := ⟨fun n => by rw [e1, e2]; exact s.1 n, fun p n => by rw [e1, e2]; exact s.2 p n⟩
theorem c_rows {h : Hp} {A : Ho} {q m d N : Nat} {rk cl : Nat → Nat} (ok : HoOk q A) (rc : RcH h 3 A) (hd : 0 < d) (hd4 : d ≤ 4) (hm : m ≤ 4) (hN : N ≤ 1024) (hcl : ∀ j, cl j < 8) (e4 : hI h 44 4 = nI d) (e47 : ∀ j, j < d → hI h 47 j = nI (cl j)) (e46 : ∀ x, x < oN A → hI h 46 x = nI (rk x)) (hk : ∀ c, rk c < 65536) : ∃ h' x, F_X6_searchRows h 44 3 40 (nI m) (nI N) = some (h', x) ∧ FrQw h h' ∧ StC h h' x (rwN cl d m) m (selR (vlC A rk cl d m) N) := by
  have key : ∃ z, F_X6_searchRows h 44 3 40 (nI m) (nI N) = some z ∧ FrQw h z.1 ∧ StC h z.1 z.2 (rwN cl d m) m (selR (vlC A rk cl d m) N) := by
    refine iterW_inv (fun r s => s.2.2 = nI r ∧ FrQw h s.1 ∧ StC h s.1 s.2.1 (rwN cl d m) m (selR (vlC A rk cl d m) r)) _ N (fun r s hr p => ?_) (fun s p => ?_) ⟨rfl, FrQw.rf, fun _ => ⟨rfl, rfl, rfl⟩, fun p e => by cases e⟩
    · obtain ⟨p1, p2, p3⟩ := p
      have q44 : ∀ k, k ≠ 9 → hI s.1 44 k = hI h 44 k := p2.2.1
      obtain ⟨h1, a1, a2, a3, a4⟩ := c_lay (h := s.1) (m := m) (r := r) hd hd4 hm (by omega) hcl (by rw [q44 4 (by decide)]; exact e4) (fun j hj => by rw [p2.1 47 (by decide) (by decide) (by decide) (by decide) (by decide) (by decide)]; exact e47 j hj)
      have f1 : FrQw s.1 h1 := ⟨fun d _ _ _ x _ _ => a2 d x, fun k _ => by rw [a2 44 (by decide)], a3⟩
      cases erp : rpB (rwN cl d m r) m 0 with
      | true =>
        rw [erp, if_pos rfl] at a1
        have nn : vlC A rk cl d m r = none := by unfold vlC; rw [erp, if_pos rfl]
        refine ⟨(h1, s.2.1, nI (r + 1)), ?_, rfl, p2.trans f1, ?_⟩
        · show B_X6_searchRows_6 _ _ _ _ _ _ _ _ = _
          unfold B_X6_searchRows_6
          rw [p1]
          simp (disch := omega) only [↓m1_n, li_n, li_0, li_1, lt_y, lt_n, le_y, le_n, eq_n, nL, nLe, nEq, nEm, mEn, nLm, mLn, nLem, mLen, nI_add, nI_mul, nI_sub, nI_m, ib_nI, nx_nI, gd_y, bnd_e, bind_y, ↓reduceIte, hI_uI_o, hI_uI_s, hI_uI_e, hL_uI, hI_uL, hL_uL_o, hL_uL_s, hL_uL_e, and1_a, and1_b, Bool.not_true, Bool.not_false, Nat.zero_add, Nat.add_zero, Nat.add_sub_cancel, eq_self, ne_b, g0_0, g0_1, g0_2, g0_3, g0_4, g0_5, g0_6, g0_7, g0_8, g0_9, n1, n2, g3_2, g3_3, g3_4, g3_5, g3_6, g3_7, g3_8, g3_9, n4, n5, n6, n7, n8, n9, g10_2, g10_3, g10_4, g10_5, n11, n12, n13, n14, g15_2, g15_3, g15_4, g15_5, n16, n17, n18, n19, g40_0, g40_1, g40_2, g44_0, g44_2, g44_3, g44_5, g44_6, g44_10, g51_3, g51_4, g51_5, g51_6, g51_7, g57_3, g57_4, g57_5, g57_6, g57_7, n120, n121, g122_0, g122_4, g122_5, g122_6, g122_7, g122_8, g122_18, g122_19, g122_20, g122_21, g122_24, g122_25, g122_28, g122_29, g122_31, g122_32, g122_33, g122_39, g122_40, g122_41, g122_45, g122_46, g122_47, g122_48, n123, n124, n125, n126, n127, n128, n129, n130, n131, n132, n133, n134, n135, n136, n137, n138, n139, n140, n141, n142, n143, n144, n145, n146, n45, n46, n47, n48, n49, n50, decide_false, a1]
        · rw [selR_s nn]
          exact p3.go (a2 44 (by decide)) (a2 50 (by decide))
      | false =>
        rw [erp, if_neg Bool.false_ne_true] at a1
        have ev : vlC A rk cl d m r = vlR A rk cl d m r := by unfold vlC; rw [erp, if_neg Bool.false_ne_true]
        obtain ⟨h2, b1, b2, b3⟩ := c_try (h := h1) (m := m) (rk := rk) (c := rwN cl d m r) ok ((p2.trans f1).rc rc) hm (fun k => hcl _) (a4 erp) (fun x hx => by rw [a2 46 (by decide), p2.1 46 (by decide) (by decide) (by decide) (by decide) (by decide) (by decide)]; exact e46 x hx) hk
        have f2 : FrQw s.1 h2 := f1.trans ⟨fun d x y _ _ z _ => b2 d x y z, fun k _ => by rw [b2 44 (by decide) (by decide) (by decide)], b3⟩
        have g44 : hI h2 44 = hI s.1 44 := by rw [b2 44 (by decide) (by decide) (by decide), a2 44 (by decide)]
        have g50 : hI h2 50 = hI s.1 50 := by rw [b2 50 (by decide) (by decide) (by decide), a2 50 (by decide)]
        cases eo : exB (desB rk (dkR A (rwN cl d m r) m)) (oN A - 1) with
        | true =>
          rw [eo, if_pos rfl] at b1
          have nn : vlC A rk cl d m r = none := by rw [ev]; unfold vlR; rw [eo, if_pos rfl]
          refine ⟨(h2, s.2.1, nI (r + 1)), ?_, rfl, p2.trans f2, ?_⟩
          · show B_X6_searchRows_6 _ _ _ _ _ _ _ _ = _
            unfold B_X6_searchRows_6
            rw [p1]
            simp (disch := omega) only [↓m1_n, li_n, li_0, li_1, lt_y, lt_n, le_y, le_n, eq_n, nL, nLe, nEq, nEm, mEn, nLm, mLn, nLem, mLen, nI_add, nI_mul, nI_sub, nI_m, ib_nI, nx_nI, gd_y, bnd_e, bind_y, ↓reduceIte, hI_uI_o, hI_uI_s, hI_uI_e, hL_uI, hI_uL, hL_uL_o, hL_uL_s, hL_uL_e, and1_a, and1_b, Bool.not_true, Bool.not_false, Nat.zero_add, Nat.add_zero, Nat.add_sub_cancel, eq_self, ne_b, g0_0, g0_1, g0_2, g0_3, g0_4, g0_5, g0_6, g0_7, g0_8, g0_9, n1, n2, g3_2, g3_3, g3_4, g3_5, g3_6, g3_7, g3_8, g3_9, n4, n5, n6, n7, n8, n9, g10_2, g10_3, g10_4, g10_5, n11, n12, n13, n14, g15_2, g15_3, g15_4, g15_5, n16, n17, n18, n19, g40_0, g40_1, g40_2, g44_0, g44_2, g44_3, g44_5, g44_6, g44_10, g51_3, g51_4, g51_5, g51_6, g51_7, g57_3, g57_4, g57_5, g57_6, g57_7, n120, n121, g122_0, g122_4, g122_5, g122_6, g122_7, g122_8, g122_18, g122_19, g122_20, g122_21, g122_24, g122_25, g122_28, g122_29, g122_31, g122_32, g122_33, g122_39, g122_40, g122_41, g122_45, g122_46, g122_47, g122_48, n123, n124, n125, n126, n127, n128, n129, n130, n131, n132, n133, n134, n135, n136, n137, n138, n139, n140, n141, n142, n143, n144, n145, n146, n45, n46, n47, n48, n49, n50, decide_false, a1, b1]
          · rw [selR_s nn]
            exact p3.go g44 g50
        | false =>
          rw [eo, if_neg Bool.false_ne_true] at b1
          have sv : vlC A rk cl d m r = some (hdR A (rwN cl d m r) m) := by rw [ev]; unfold vlR; rw [eo, if_neg Bool.false_ne_true]
          have lv := vlC_le sv
          obtain ⟨h3, hh3⟩ : ∃ h3, h3 = sI (uI h2 44 9 (nI (hdR A (rwN cl d m r) m))) 50 (va_cpy (hI h2 48) (hI h2 50) 0 0 m) := ⟨_, rfl⟩
          have J : ∀ x4, J_X6_searchRows_52 h2 44 3 40 (nI m) x4 (nI r) (nI (hdR A (rwN cl d m r) m)) = some (.inl (h3, nI 1, nI (r + 1))) := by
            intro x4
            unfold J_X6_searchRows_52
            simp (disch := omega) only [↓m1_n, li_n, li_0, li_1, lt_y, lt_n, le_y, le_n, eq_n, nL, nLe, nEq, nEm, mEn, nLm, mLn, nLem, mLen, nI_add, nI_mul, nI_sub, nI_m, ib_nI, nx_nI, gd_y, bnd_e, bind_y, ↓reduceIte, hI_uI_o, hI_uI_s, hI_uI_e, hL_uI, hI_uL, hL_uL_o, hL_uL_s, hL_uL_e, and1_a, and1_b, Bool.not_true, Bool.not_false, Nat.zero_add, Nat.add_zero, Nat.add_sub_cancel, eq_self, ne_b, g0_0, g0_1, g0_2, g0_3, g0_4, g0_5, g0_6, g0_7, g0_8, g0_9, n1, n2, g3_2, g3_3, g3_4, g3_5, g3_6, g3_7, g3_8, g3_9, n4, n5, n6, n7, n8, n9, g10_2, g10_3, g10_4, g10_5, n11, n12, n13, n14, g15_2, g15_3, g15_4, g15_5, n16, n17, n18, n19, g40_0, g40_1, g40_2, g44_0, g44_2, g44_3, g44_5, g44_6, g44_10, g51_3, g51_4, g51_5, g51_6, g51_7, g57_3, g57_4, g57_5, g57_6, g57_7, n120, n121, g122_0, g122_4, g122_5, g122_6, g122_7, g122_8, g122_18, g122_19, g122_20, g122_21, g122_24, g122_25, g122_28, g122_29, g122_31, g122_32, g122_33, g122_39, g122_40, g122_41, g122_45, g122_46, g122_47, g122_48, n123, n124, n125, n126, n127, n128, n129, n130, n131, n132, n133, n134, n135, n136, n137, n138, n139, n140, n141, n142, n143, n144, n145, n146, n45, n46, n47, n48, n49, n50, decide_false, cpk, hh3]
          have f3 : FrQw s.1 h3 := by
            rw [hh3]
            exact f2.trans ⟨fun d _ _ x _ _ y => by rw [hI_sI_o y, hI_uI_o x], fun k x => by rw [hI_sI_o (by decide), hI_uI_s x], by rw [hL_sI, hL_uI]⟩
          have s3 : StC h h3 (nI 1) (rwN cl d m) m (some (hdR A (rwN cl d m r) m, r)) := by
            refine ⟨fun e => (by cases e), fun p e => ?_⟩
            cases e
            rw [hh3]
            refine ⟨rfl, by rw [hI_sI_o (by decide), hI_uI_e], fun k hk => ?_⟩
            rw [hI_sI_e, cpy0 hk, b2 48 (by decide) (by decide) (by decide)]
            exact a4 erp k hk
          cases es : selR (vlC A rk cl d m) r with
          | none =>
            rw [es] at p3
            have x0 := (p3.1 rfl).1
            refine ⟨(h3, nI 1, nI (r + 1)), ?_, rfl, p2.trans f3, ?_⟩
            · show B_X6_searchRows_6 _ _ _ _ _ _ _ _ = _
              unfold B_X6_searchRows_6
              rw [p1, x0]
              simp (disch := omega) only [↓m1_n, li_n, li_0, li_1, lt_y, lt_n, le_y, le_n, eq_n, nL, nLe, nEq, nEm, mEn, nLm, mLn, nLem, mLen, nI_add, nI_mul, nI_sub, nI_m, ib_nI, nx_nI, gd_y, bnd_e, bind_y, ↓reduceIte, hI_uI_o, hI_uI_s, hI_uI_e, hL_uI, hI_uL, hL_uL_o, hL_uL_s, hL_uL_e, and1_a, and1_b, Bool.not_true, Bool.not_false, Nat.zero_add, Nat.add_zero, Nat.add_sub_cancel, eq_self, ne_b, g0_0, g0_1, g0_2, g0_3, g0_4, g0_5, g0_6, g0_7, g0_8, g0_9, n1, n2, g3_2, g3_3, g3_4, g3_5, g3_6, g3_7, g3_8, g3_9, n4, n5, n6, n7, n8, n9, g10_2, g10_3, g10_4, g10_5, n11, n12, n13, n14, g15_2, g15_3, g15_4, g15_5, n16, n17, n18, n19, g40_0, g40_1, g40_2, g44_0, g44_2, g44_3, g44_5, g44_6, g44_10, g51_3, g51_4, g51_5, g51_6, g51_7, g57_3, g57_4, g57_5, g57_6, g57_7, n120, n121, g122_0, g122_4, g122_5, g122_6, g122_7, g122_8, g122_18, g122_19, g122_20, g122_21, g122_24, g122_25, g122_28, g122_29, g122_31, g122_32, g122_33, g122_39, g122_40, g122_41, g122_45, g122_46, g122_47, g122_48, n123, n124, n125, n126, n127, n128, n129, n130, n131, n132, n133, n134, n135, n136, n137, n138, n139, n140, n141, n142, n143, n144, n145, n146, n45, n46, n47, n48, n49, n50, decide_false, a1, b1, J]
            · rw [selR_y sv es]; exact s3
          | some p =>
            rw [es] at p3
            have x0 := (p3.2 p rfl).1
            have x9 : hI h2 44 9 = nI p.1 := by rw [g44]; exact (p3.2 p rfl).2.1
            have lp := vlC_le (selR_lt _ es).2
            by_cases l : hdR A (rwN cl d m r) m < p.1
            · refine ⟨(h3, nI 1, nI (r + 1)), ?_, rfl, p2.trans f3, ?_⟩
              · show B_X6_searchRows_6 _ _ _ _ _ _ _ _ = _
                unfold B_X6_searchRows_6
                rw [p1, x0]
                simp (disch := omega) only [↓m1_n, li_n, li_0, li_1, lt_y, lt_n, le_y, le_n, eq_n, nL, nLe, nEq, nEm, mEn, nLm, mLn, nLem, mLen, nI_add, nI_mul, nI_sub, nI_m, ib_nI, nx_nI, gd_y, bnd_e, bind_y, ↓reduceIte, hI_uI_o, hI_uI_s, hI_uI_e, hL_uI, hI_uL, hL_uL_o, hL_uL_s, hL_uL_e, and1_a, and1_b, Bool.not_true, Bool.not_false, Nat.zero_add, Nat.add_zero, Nat.add_sub_cancel, eq_self, ne_b, g0_0, g0_1, g0_2, g0_3, g0_4, g0_5, g0_6, g0_7, g0_8, g0_9, n1, n2, g3_2, g3_3, g3_4, g3_5, g3_6, g3_7, g3_8, g3_9, n4, n5, n6, n7, n8, n9, g10_2, g10_3, g10_4, g10_5, n11, n12, n13, n14, g15_2, g15_3, g15_4, g15_5, n16, n17, n18, n19, g40_0, g40_1, g40_2, g44_0, g44_2, g44_3, g44_5, g44_6, g44_10, g51_3, g51_4, g51_5, g51_6, g51_7, g57_3, g57_4, g57_5, g57_6, g57_7, n120, n121, g122_0, g122_4, g122_5, g122_6, g122_7, g122_8, g122_18, g122_19, g122_20, g122_21, g122_24, g122_25, g122_28, g122_29, g122_31, g122_32, g122_33, g122_39, g122_40, g122_41, g122_45, g122_46, g122_47, g122_48, n123, n124, n125, n126, n127, n128, n129, n130, n131, n132, n133, n134, n135, n136, n137, n138, n139, n140, n141, n142, n143, n144, n145, n146, n45, n46, n47, n48, n49, n50, decide_false, a1, b1, J, x9]
              · rw [selR_l sv es l]; exact s3
            · refine ⟨(h2, nI 1, nI (r + 1)), ?_, rfl, p2.trans f2, ?_⟩
              · show B_X6_searchRows_6 _ _ _ _ _ _ _ _ = _
                unfold B_X6_searchRows_6
                rw [p1, x0]
                simp (disch := omega) only [↓m1_n, li_n, li_0, li_1, lt_y, lt_n, le_y, le_n, eq_n, nL, nLe, nEq, nEm, mEn, nLm, mLn, nLem, mLen, nI_add, nI_mul, nI_sub, nI_m, ib_nI, nx_nI, gd_y, bnd_e, bind_y, ↓reduceIte, hI_uI_o, hI_uI_s, hI_uI_e, hL_uI, hI_uL, hL_uL_o, hL_uL_s, hL_uL_e, and1_a, and1_b, Bool.not_true, Bool.not_false, Nat.zero_add, Nat.add_zero, Nat.add_sub_cancel, eq_self, ne_b, g0_0, g0_1, g0_2, g0_3, g0_4, g0_5, g0_6, g0_7, g0_8, g0_9, n1, n2, g3_2, g3_3, g3_4, g3_5, g3_6, g3_7, g3_8, g3_9, n4, n5, n6, n7, n8, n9, g10_2, g10_3, g10_4, g10_5, n11, n12, n13, n14, g15_2, g15_3, g15_4, g15_5, n16, n17, n18, n19, g40_0, g40_1, g40_2, g44_0, g44_2, g44_3, g44_5, g44_6, g44_10, g51_3, g51_4, g51_5, g51_6, g51_7, g57_3, g57_4, g57_5, g57_6, g57_7, n120, n121, g122_0, g122_4, g122_5, g122_6, g122_7, g122_8, g122_18, g122_19, g122_20, g122_21, g122_24, g122_25, g122_28, g122_29, g122_31, g122_32, g122_33, g122_39, g122_40, g122_41, g122_45, g122_46, g122_47, g122_48, n123, n124, n125, n126, n127, n128, n129, n130, n131, n132, n133, n134, n135, n136, n137, n138, n139, n140, n141, n142, n143, n144, n145, n146, n45, n46, n47, n48, n49, n50, decide_false, a1, b1, J, x9]
              · rw [selR_g sv es l]
                rw [x0] at p3
                exact p3.go g44 g50
    · obtain ⟨p1, p2, p3⟩ := p
      refine ⟨(s.1, s.2.1), ?_, p2, p3⟩
      show B_X6_searchRows_6 _ _ _ _ _ _ _ _ = _
      unfold B_X6_searchRows_6
      have : s.2.1 &&& 1 = s.2.1 := by
        cases es : selR (vlC A rk cl d m) N with
        | none => rw [es] at p3; rw [(p3.1 rfl).1]; decide
        | some p => rw [es] at p3; rw [(p3.2 p rfl).1]; decide
      rw [p1, if_pos (Int32.le_refl _), this]
  obtain ⟨z, k1, k2⟩ := key
  exact ⟨z.1, z.2, k1, k2⟩
theorem pow_b {d m : Nat} (hd4 : d ≤ 4) (hm : m ≤ 5) : d ^ m ≤ 1024 := Nat.le_trans (Nat.pow_le_pow_left hd4 m) (Nat.pow_le_pow_right (n := 4) (by decide) hm)
def FrV (h h' : Hp) : Prop := (∀ d, d ≠ 41 → d ≠ 42 → d ≠ 44 → d ≠ 48 → d ≠ 49 → d ≠ 50 → hI h' d = hI h d) ∧ (∀ k, k ≠ 7 → k ≠ 8 → k ≠ 9 → hI h' 44 k = hI h 44 k) ∧ hL h' = hL h
theorem FrQw.v {h h' : Hp} (f : FrQw h h') : FrV h h' := ⟨f.1, fun k _ _ x => f.2.1 k x, f.2.2⟩
theorem c_seek {h : Hp} {A : Ho} {q d : Nat} {rk cl : Nat → Nat} (ok : HoOk q A) (rc : RcH h 3 A) (hd : 0 < d) (hd4 : d ≤ 4) (hcl : ∀ j, cl j < 8) (e4 : hI h 44 4 = nI d) (e47 : ∀ j, j < d → hI h 47 j = nI (cl j)) (e46 : ∀ x, x < oN A → hI h 46 x = nI (rk x)) (hk : ∀ c, rk c < 65536) : ∃ h' x, L_X6_search_9 h 44 3 40 (nI 1) (nI 0) = some (h', x) ∧ FrV h h' ∧ ((x = nI 0 ∧ hI h' 44 = hI h 44 ∧ hI h' 50 = hI h 50 ∧ ∀ k, k ≤ d → selR (vlC A rk cl d k) (d ^ k) = none) ∨ (x = nI 1 ∧ ∃ m p, m ≤ d ∧ (∀ k, k < m → selR (vlC A rk cl d k) (d ^ k) = none) ∧ selR (vlC A rk cl d m) (d ^ m) = some p ∧ hI h' 44 7 = nI 1 ∧ hI h' 44 8 = nI m ∧ hI h' 44 9 = nI p.1 ∧ ∀ k, k < m → hI h' 50 k = nI (rwN cl d m p.2 k))) := by
  have key : ∃ z, L_X6_search_9 h 44 3 40 (nI 1) (nI 0) = some z ∧ FrV h z.1 ∧ ((z.2 = nI 0 ∧ hI z.1 44 = hI h 44 ∧ hI z.1 50 = hI h 50 ∧ ∀ k, k ≤ d → selR (vlC A rk cl d k) (d ^ k) = none) ∨ (z.2 = nI 1 ∧ ∃ m p, m ≤ d ∧ (∀ k, k < m → selR (vlC A rk cl d k) (d ^ k) = none) ∧ selR (vlC A rk cl d m) (d ^ m) = some p ∧ hI z.1 44 7 = nI 1 ∧ hI z.1 44 8 = nI m ∧ hI z.1 44 9 = nI p.1 ∧ ∀ k, k < m → hI z.1 50 k = nI (rwN cl d m p.2 k))) := by
    refine iterW_inv2 (fun j s => s.2.1 = nI (d ^ j) ∧ s.2.2 = nI j ∧ FrQw h s.1 ∧ hI s.1 44 = hI h 44 ∧ hI s.1 50 = hI h 50 ∧ ∀ k, k < j → selR (vlC A rk cl d k) (d ^ k) = none) _ (d + 1) (fun j s hj p => ?_) (fun s p => ?_) ⟨rfl, rfl, FrQw.rf, rfl, rfl, fun k hk => absurd hk (Nat.not_lt_zero k)⟩
    · obtain ⟨p1, p2, p3, p4, p5, p6⟩ := p
      have e4' : hI s.1 44 4 = nI d := by rw [p4]; exact e4
      have pw := pow_b (m := j) hd4 (by omega)
      obtain ⟨h1, x, a1, a2, a3⟩ := c_rows (h := s.1) (m := j) (N := d ^ j) ok (p3.rc rc) hd hd4 (by omega) pw hcl e4' (fun i hi => by rw [p3.1 47 (by decide) (by decide) (by decide) (by decide) (by decide) (by decide)]; exact e47 i hi) (fun x hx => by rw [p3.1 46 (by decide) (by decide) (by decide) (by decide) (by decide) (by decide)]; exact e46 x hx) hk
      cases es : selR (vlC A rk cl d j) (d ^ j) with
      | none =>
        rw [es] at a3
        obtain ⟨y1, y2, y3⟩ := a3.1 rfl
        have g44 : hI h1 44 = hI s.1 44 := by
          funext k
          by_cases c : k = 9
          · rw [c, y2]
          · exact a2.2.1 k c
        refine Or.inl ⟨(h1, nI (d ^ (j + 1)), nI (j + 1)), ?_, rfl, rfl, p3.trans a2, by rw [g44, p4], by rw [y3, p5], fun k hk => ?_⟩
        · show B_X6_search_9 _ _ _ _ _ _ = _
          unfold B_X6_search_9
          rw [p1, p2]
          rw [y1] at a1
          have e5 : hI h1 44 4 = nI d := by rw [g44]; exact e4'
          rw [Nat.pow_succ]
          generalize d ^ j = N at *
          simp (disch := omega) only [↓m1_n, li_n, li_0, li_1, lt_y, lt_n, le_y, le_n, eq_n, nL, nLe, nEq, nEm, mEn, nLm, mLn, nLem, mLen, nI_add, nI_mul, nI_sub, nI_m, ib_nI, nx_nI, gd_y, bnd_e, bind_y, ↓reduceIte, hI_uI_o, hI_uI_s, hI_uI_e, hL_uI, hI_uL, hL_uL_o, hL_uL_s, hL_uL_e, and1_a, and1_b, Bool.not_true, Bool.not_false, Nat.zero_add, Nat.add_zero, Nat.add_sub_cancel, eq_self, ne_b, g0_0, g0_1, g0_2, g0_3, g0_4, g0_5, g0_6, g0_7, g0_8, g0_9, n1, n2, g3_2, g3_3, g3_4, g3_5, g3_6, g3_7, g3_8, g3_9, n4, n5, n6, n7, n8, n9, g10_2, g10_3, g10_4, g10_5, n11, n12, n13, n14, g15_2, g15_3, g15_4, g15_5, n16, n17, n18, n19, g40_0, g40_1, g40_2, g44_0, g44_2, g44_3, g44_5, g44_6, g44_10, g51_3, g51_4, g51_5, g51_6, g51_7, g57_3, g57_4, g57_5, g57_6, g57_7, n120, n121, g122_0, g122_4, g122_5, g122_6, g122_7, g122_8, g122_18, g122_19, g122_20, g122_21, g122_24, g122_25, g122_28, g122_29, g122_31, g122_32, g122_33, g122_39, g122_40, g122_41, g122_45, g122_46, g122_47, g122_48, n123, n124, n125, n126, n127, n128, n129, n130, n131, n132, n133, n134, n135, n136, n137, n138, n139, n140, n141, n142, n143, n144, n145, n146, n45, n46, n47, n48, n49, n50, decide_false, e4', a1, e5]
        · by_cases c : k = j
          · rw [c]; exact es
          · exact p6 k (by omega)
      | some p =>
        rw [es] at a3
        obtain ⟨y1, y2, y3⟩ := a3.2 p rfl
        refine Or.inr ⟨(uI (uI h1 44 7 (nI 1)) 44 8 (nI j), nI 1), ?_, ⟨fun d x1 x2 x3 x4 x5 x6 => by rw [hI_uI_o x3, hI_uI_o x3, a2.1 d x1 x2 x3 x4 x5 x6]; exact p3.1 d x1 x2 x3 x4 x5 x6, fun k x1 x2 x3 => by rw [hI_uI_s x2, hI_uI_s x1, a2.2.1 k x3, p4], by rw [hL_uI, hL_uI, a2.2.2]; exact p3.2.2⟩, Or.inr ⟨rfl, j, p, by omega, p6, es, ?_, hI_uI_e, ?_, fun k hk => ?_⟩⟩
        · show B_X6_search_9 _ _ _ _ _ _ = _
          unfold B_X6_search_9
          rw [p1, p2]
          rw [y1] at a1
          generalize d ^ j = N at *
          simp (disch := omega) only [↓m1_n, li_n, li_0, li_1, lt_y, lt_n, le_y, le_n, eq_n, nL, nLe, nEq, nEm, mEn, nLm, mLn, nLem, mLen, nI_add, nI_mul, nI_sub, nI_m, ib_nI, nx_nI, gd_y, bnd_e, bind_y, ↓reduceIte, hI_uI_o, hI_uI_s, hI_uI_e, hL_uI, hI_uL, hL_uL_o, hL_uL_s, hL_uL_e, and1_a, and1_b, Bool.not_true, Bool.not_false, Nat.zero_add, Nat.add_zero, Nat.add_sub_cancel, eq_self, ne_b, g0_0, g0_1, g0_2, g0_3, g0_4, g0_5, g0_6, g0_7, g0_8, g0_9, n1, n2, g3_2, g3_3, g3_4, g3_5, g3_6, g3_7, g3_8, g3_9, n4, n5, n6, n7, n8, n9, g10_2, g10_3, g10_4, g10_5, n11, n12, n13, n14, g15_2, g15_3, g15_4, g15_5, n16, n17, n18, n19, g40_0, g40_1, g40_2, g44_0, g44_2, g44_3, g44_5, g44_6, g44_10, g51_3, g51_4, g51_5, g51_6, g51_7, g57_3, g57_4, g57_5, g57_6, g57_7, n120, n121, g122_0, g122_4, g122_5, g122_6, g122_7, g122_8, g122_18, g122_19, g122_20, g122_21, g122_24, g122_25, g122_28, g122_29, g122_31, g122_32, g122_33, g122_39, g122_40, g122_41, g122_45, g122_46, g122_47, g122_48, n123, n124, n125, n126, n127, n128, n129, n130, n131, n132, n133, n134, n135, n136, n137, n138, n139, n140, n141, n142, n143, n144, n145, n146, n45, n46, n47, n48, n49, n50, decide_false, e4', a1]
        · rw [hI_uI_s (by decide), hI_uI_e]
        · rw [hI_uI_s (by decide), hI_uI_s (by decide)]; exact y2
        · rw [hI_uI_o (by decide), hI_uI_o (by decide)]; exact y3 k hk
    · obtain ⟨p1, p2, p3, p4, p5, p6⟩ := p
      have e4' : hI s.1 44 4 = nI d := by rw [p4]; exact e4
      refine ⟨(s.1, nI 0), ?_, p3.v, Or.inl ⟨rfl, p4, p5, fun k hk => p6 k (by omega)⟩⟩
      show B_X6_search_9 _ _ _ _ _ _ = _
      unfold B_X6_search_9
      rw [p2]
      simp (disch := omega) only [↓m1_n, li_n, li_0, li_1, lt_y, lt_n, le_y, le_n, eq_n, nL, nLe, nEq, nEm, mEn, nLm, mLn, nLem, mLen, nI_add, nI_mul, nI_sub, nI_m, ib_nI, nx_nI, gd_y, bnd_e, bind_y, ↓reduceIte, hI_uI_o, hI_uI_s, hI_uI_e, hL_uI, hI_uL, hL_uL_o, hL_uL_s, hL_uL_e, and1_a, and1_b, Bool.not_true, Bool.not_false, Nat.zero_add, Nat.add_zero, Nat.add_sub_cancel, eq_self, ne_b, g0_0, g0_1, g0_2, g0_3, g0_4, g0_5, g0_6, g0_7, g0_8, g0_9, n1, n2, g3_2, g3_3, g3_4, g3_5, g3_6, g3_7, g3_8, g3_9, n4, n5, n6, n7, n8, n9, g10_2, g10_3, g10_4, g10_5, n11, n12, n13, n14, g15_2, g15_3, g15_4, g15_5, n16, n17, n18, n19, g40_0, g40_1, g40_2, g44_0, g44_2, g44_3, g44_5, g44_6, g44_10, g51_3, g51_4, g51_5, g51_6, g51_7, g57_3, g57_4, g57_5, g57_6, g57_7, n120, n121, g122_0, g122_4, g122_5, g122_6, g122_7, g122_8, g122_18, g122_19, g122_20, g122_21, g122_24, g122_25, g122_28, g122_29, g122_31, g122_32, g122_33, g122_39, g122_40, g122_41, g122_45, g122_46, g122_47, g122_48, n123, n124, n125, n126, n127, n128, n129, n130, n131, n132, n133, n134, n135, n136, n137, n138, n139, n140, n141, n142, n143, n144, n145, n146, n45, n46, n47, n48, n49, n50, decide_false, e4']
  obtain ⟨z, k1, k2⟩ := key
  exact ⟨z.1, z.2, k1, k2⟩
