/-! ===== fewest: two misreads, the component's search ===== -/
section TW
variable (A : Ho) (col : Nat) (t : Nat → Int64) (c : Nat → Int)
def chI (i : Nat) : Nat → Int := chg c (rdc A col (i / 3)) (misV A col i)
def hbI (i : Nat) : Nat → Bool := hitb A col t (chI A col c i) (3 * (i / 3) + 3)
def ct2 (i : Nat) : Nat := if misV A col i = 13 then 0 else cnt (hbI A col t c i) (bhN A (i / 3))
def tot2 : Nat → Nat
  | 0 => 0
  | m + 1 => tot2 m + ct2 A col t c m
def any2 (i : Nat) : Bool := decide (0 < ct2 A col t c i)
def TT (h : Hp) (m : Nat) : Prop := ∀ i, fst1 (any2 A col t c) m 0 = some i → hI h 53 0 = nI (i / 3) ∧ hI h 53 1 = nI (i % 3) ∧ ∀ j, fst1 (hbI A col t c i) (bhN A (i / 3)) 0 = some j → hI h 53 2 = nI ((3 * (i / 3) + 3 + j) / 3) ∧ hI h 53 3 = nI ((3 * (i / 3) + 3 + j) % 3)
theorem tot2_0 : ∀ m, tot2 A col t c m = 0 ↔ fst1 (any2 A col t c) m 0 = none := by
  intro m
  rw [fst1_cnt]
  induction m with
  | zero => exact ⟨fun _ => rfl, fun _ => rfl⟩
  | succ m ih =>
    rw [tot2, cnt]
    by_cases e : 0 < ct2 A col t c m
    · have : any2 A col t c m = true := decide_eq_true e
      rw [if_pos this]
      constructor <;> intro <;> omega
    · have : ¬ any2 A col t c m = true := fun x => e (of_decide_eq_true x)
      rw [if_neg this, Nat.add_zero, ← ih]
      constructor <;> intro <;> omega
theorem tot2_le (hA : oN A ≤ 30) : ∀ m, tot2 A col t c m ≤ 90 * m := by
  intro m
  induction m with
  | zero => exact Nat.le_refl _
  | succ m ih =>
    rw [tot2]
    have : ct2 A col t c m ≤ 90 := by
      unfold ct2
      by_cases e : misV A col m = 13
      · rw [if_pos e]; omega
      · rw [if_neg e]
        have := cnt_le (hbI A col t c m) (bhN A (m / 3))
        unfold bhN at *
        omega
    omega
theorem TT_n {h : Hp} {m : Nat} (x : TT A col t c h m) (e : ct2 A col t c m = 0) : TT A col t c h (m + 1) := by
  intro i hi
  rw [fst1_snoc, Nat.zero_add, show any2 A col t c m = false from decide_eq_false (by omega)] at hi
  cases f : fst1 (any2 A col t c) m 0 with
  | none => rw [f] at hi; cases hi
  | some j =>
    rw [f] at hi
    have : j = i := Option.some.inj hi
    exact x i (by rw [f, this])
theorem TT_e {h h' : Hp} {m : Nat} (x : TT A col t c h m) (e : hI h' 53 = hI h 53) : TT A col t c h' m := by
  unfold TT at *
  rw [e]
  exact x
theorem TT_v {h : Hp} {m : Nat} (e : tot2 A col t c m = 0) : TT A col t c h m := fun i hi => by rw [(tot2_0 A col t c m).mp e] at hi; cases hi
theorem TT_k {h : Hp} {m : Nat} (x : TT A col t c h m) (e : tot2 A col t c m ≠ 0) : TT A col t c h (m + 1) := by
  intro i hi
  rw [fst1_snoc, Nat.zero_add] at hi
  cases f : fst1 (any2 A col t c) m 0 with
  | none => exact absurd ((tot2_0 A col t c m).mpr f) e
  | some j =>
    rw [f] at hi
    have : j = i := Option.some.inj hi
    exact x i (by rw [f, this])
theorem TT_y {h : Hp} {m : Nat} (e : tot2 A col t c m = 0) (p : 0 < ct2 A col t c m) (a : hI h 53 0 = nI (m / 3) ∧ hI h 53 1 = nI (m % 3) ∧ ∀ j, fst1 (hbI A col t c m) (bhN A (m / 3)) 0 = some j → hI h 53 2 = nI ((3 * (m / 3) + 3 + j) / 3) ∧ hI h 53 3 = nI ((3 * (m / 3) + 3 + j) % 3)) : TT A col t c h (m + 1) := by
  intro i hi
  rw [fst1_snoc, Nat.zero_add, (tot2_0 A col t c m).mp e, show any2 A col t c m = true from decide_eq_true p] at hi
  have : m = i := Option.some.inj hi
  subst this
  exact a
end TW
theorem c_two14 {h : Hp} {A : Ho} {q col cd : Nat} {t : Nat → Int64} {c : Nat → Int} (ok : HoOk q A) (cm : CM h A col) (hc : col < 8) (g : CG h t c) (hcd : cd < oN A) (tr : TT A col t c h (3 * cd)) : ∃ h', L_X4_searchTwo_14 h 51 (nI cd) (nI (tot2 A col t c (3 * cd))) (nI 0) = some (h', nI (tot2 A col t c (3 * cd + 3))) ∧ FrF h h' ∧ CG h' t c ∧ TT A col t c h' (3 * cd + 3) := by
  have hA := ok.1
  have key : ∃ r, L_X4_searchTwo_14 h 51 (nI cd) (nI (tot2 A col t c (3 * cd))) (nI 0) = some r ∧ ∃ h', r = (h', nI (tot2 A col t c (3 * cd + 3))) ∧ FrF h h' ∧ CG h' t c ∧ TT A col t c h' (3 * cd + 3) := by
    refine iterW_inv (fun k s => s.2.2 = nI k ∧ s.2.1 = nI (tot2 A col t c (3 * cd + k)) ∧ FrF h s.1 ∧ CG s.1 t c ∧ TT A col t c s.1 (3 * cd + k)) _ 3 (fun k s hk p => ?_) (fun s p => ?_) ⟨rfl, rfl, FrF.rf, g, tr⟩
    · obtain ⟨p1, p2, p3, p4, p5⟩ := p
      have cms := p3.cm cm
      have ed : (3 * cd + k) / 3 = cd := by omega
      have em : (3 * cd + k) % 3 = k := by omega
      have MR := c_misr (i := 3 * cd + k) ok cms hc (by omega)
      rw [ed, em] at MR
      have mv := misV_le (A := A) (col := col) (i := 3 * cd + k)
      have tl := tot2_le A col t c hA (3 * cd + k)
      have ts : tot2 A col t c (3 * cd + (k + 1)) = tot2 A col t c (3 * cd + k) + ct2 A col t c (3 * cd + k) := rfl
      by_cases m13 : misV A col (3 * cd + k) = 13
      · have hf : ct2 A col t c (3 * cd + k) = 0 := if_pos m13
        rw [if_pos m13] at MR
        refine ⟨(s.1, nI (tot2 A col t c (3 * cd + k)), nI (k + 1)), ?_, rfl, ?_, p3, p4, TT_n A col t c p5 hf⟩
        · show B_X4_searchTwo_14 _ _ _ _ _ = _
          unfold B_X4_searchTwo_14
          rw [p1, p2]
          simp (disch := omega) only [↓m1_n, li_n, li_0, li_1, lt_y, lt_n, le_y, le_n, eq_n, nL, nLe, nEq, nEm, mEn, nLm, mLn, nLem, mLen, nI_add, nI_mul, nI_sub, nI_m, ib_nI, nx_nI, gd_y, bnd_e, bind_y, ↓reduceIte, hI_uI_o, hI_uI_s, hI_uI_e, hL_uI, hI_uL, hL_uL_o, hL_uL_s, hL_uL_e, and1_a, and1_b, Bool.not_true, Bool.not_false, Nat.zero_add, Nat.add_zero, Nat.add_sub_cancel, eq_self, ne_b, g0_0, g0_1, g0_2, g0_3, g0_4, g0_5, g0_6, g0_7, g0_8, g0_9, n1, n2, g3_2, g3_3, g3_4, g3_5, g3_6, g3_7, g3_8, g3_9, n4, n5, n6, n7, n8, n9, g10_2, g10_3, g10_4, g10_5, n11, n12, n13, n14, g15_2, g15_3, g15_4, g15_5, n16, n17, n18, n19, g40_0, g40_1, g40_2, g44_0, g44_2, g44_3, g44_5, g44_6, g44_10, g51_3, g51_4, g51_5, g51_6, g51_7, g57_3, g57_4, g57_5, g57_6, g57_7, n120, n121, g122_0, g122_4, g122_5, g122_6, g122_7, g122_8, g122_18, g122_19, g122_20, g122_21, g122_24, g122_25, g122_28, g122_29, g122_31, g122_32, g122_33, g122_39, g122_40, g122_41, g122_45, g122_46, g122_47, g122_48, n123, n124, n125, n126, n127, n128, n129, n130, n131, n132, n133, n134, n135, n136, n137, n138, n139, n140, n141, n142, n143, n144, n145, n146, MR]
        · show nI _ = nI _
          rw [ts, hf, Nat.add_zero]
      · rw [if_neg m13] at MR
        obtain ⟨h1, a1, -, a3, a4, a5, a6⟩ := one_body (i := 3 * cd + k) p4 m13
        have pl : hI s.1 55 cd = nI (rdc A col cd) := (cms.2.2 cd hcd).1
        have cmh1 : CM h1 A col := FrF.cm ⟨fun d _ => by rw [a4], a5⟩ cms
        obtain ⟨h2, b1, b2, b3, b4⟩ := c_behind (cd := cd) (bf := tot2 A col t c (3 * cd + k)) ok cmh1 hc a3 hcd (by omega)
        have ce : ct2 A col t c (3 * cd + k) = cnt (hbI A col t c (3 * cd + k)) (bhN A cd) := by
          unfold ct2
          rw [if_neg m13, ed]
        have he : hbI A col t c (3 * cd + k) = hitb A col t (chg c (rdc A col ((3 * cd + k) / 3)) (misV A col (3 * cd + k))) (3 * cd + 3) := by
          unfold hbI chI
          rw [ed]
        have cb : cnt (hbI A col t c (3 * cd + k)) (bhN A cd) ≤ 90 := by
          have := cnt_le (hbI A col t c (3 * cd + k)) (bhN A cd)
          unfold bhN at *
          omega
        rw [← he, ← ce] at b1
        rw [← he] at b4
        rw [ed] at a1 a6
        have e55 : hI h2 55 cd = nI (rdc A col cd) := by rw [b2.1 55 (by decide), a4]; exact pl
        by_cases more : 0 < ct2 A col t c (3 * cd + k)
        · by_cases z : tot2 A col t c (3 * cd + k) = 0
          · have b3' : CG (uI (uI h2 53 0 (nI cd)) 53 1 (nI k)) t (chg c (rdc A col cd) (misV A col (3 * cd + k))) := by rw [ed] at b3; exact CG_uI (CG_uI b3)
            obtain ⟨h3, d1, d2, d3, d4⟩ := a6 _ b3'
            have f2 : FrF s.1 h3 := ⟨fun d hd => by rw [d3, hI_uI_o hd, hI_uI_o hd, b2.1 d hd, a4], fun d hd => (d4 d hd).trans ((b2.2 d hd).trans (a5 d hd))⟩
            refine ⟨(h3, nI (tot2 A col t c (3 * cd + k) + ct2 A col t c (3 * cd + k)), nI (k + 1)), ?_, rfl, ?_, p3.trans f2, d2, TT_y A col t c (m := 3 * cd + k) z more ⟨?_, ?_, fun j hj => ?_⟩⟩
            · rw [z] at b1
              show B_X4_searchTwo_14 _ _ _ _ _ = _
              unfold B_X4_searchTwo_14 J_X4_searchTwo_66 F_X4_keepFirst
              rw [p1, p2]
              simp (disch := omega) only [↓m1_n, li_n, li_0, li_1, lt_y, lt_n, le_y, le_n, eq_n, nL, nLe, nEq, nEm, mEn, nLm, mLn, nLem, mLen, nI_add, nI_mul, nI_sub, nI_m, ib_nI, nx_nI, gd_y, bnd_e, bind_y, ↓reduceIte, hI_uI_o, hI_uI_s, hI_uI_e, hL_uI, hI_uL, hL_uL_o, hL_uL_s, hL_uL_e, and1_a, and1_b, Bool.not_true, Bool.not_false, Nat.zero_add, Nat.add_zero, Nat.add_sub_cancel, eq_self, ne_b, g0_0, g0_1, g0_2, g0_3, g0_4, g0_5, g0_6, g0_7, g0_8, g0_9, n1, n2, g3_2, g3_3, g3_4, g3_5, g3_6, g3_7, g3_8, g3_9, n4, n5, n6, n7, n8, n9, g10_2, g10_3, g10_4, g10_5, n11, n12, n13, n14, g15_2, g15_3, g15_4, g15_5, n16, n17, n18, n19, g40_0, g40_1, g40_2, g44_0, g44_2, g44_3, g44_5, g44_6, g44_10, g51_3, g51_4, g51_5, g51_6, g51_7, g57_3, g57_4, g57_5, g57_6, g57_7, n120, n121, g122_0, g122_4, g122_5, g122_6, g122_7, g122_8, g122_18, g122_19, g122_20, g122_21, g122_24, g122_25, g122_28, g122_29, g122_31, g122_32, g122_33, g122_39, g122_40, g122_41, g122_45, g122_46, g122_47, g122_48, n123, n124, n125, n126, n127, n128, n129, n130, n131, n132, n133, n134, n135, n136, n137, n138, n139, n140, n141, n142, n143, n144, n145, n146, MR, n55, n53, pl, a1, b1, z, e55, d1]
            · show nI _ = nI _
              rw [ts]
            · rw [d3, ed]
              simp (disch := omega) only [↓m1_n, li_n, li_0, li_1, lt_y, lt_n, le_y, le_n, eq_n, nL, nLe, nEq, nEm, mEn, nLm, mLn, nLem, mLen, nI_add, nI_mul, nI_sub, nI_m, ib_nI, nx_nI, gd_y, bnd_e, bind_y, ↓reduceIte, hI_uI_o, hI_uI_s, hI_uI_e, hL_uI, hI_uL, hL_uL_o, hL_uL_s, hL_uL_e, and1_a, and1_b, Bool.not_true, Bool.not_false, Nat.zero_add, Nat.add_zero, Nat.add_sub_cancel, eq_self, ne_b, g0_0, g0_1, g0_2, g0_3, g0_4, g0_5, g0_6, g0_7, g0_8, g0_9, n1, n2, g3_2, g3_3, g3_4, g3_5, g3_6, g3_7, g3_8, g3_9, n4, n5, n6, n7, n8, n9, g10_2, g10_3, g10_4, g10_5, n11, n12, n13, n14, g15_2, g15_3, g15_4, g15_5, n16, n17, n18, n19, g40_0, g40_1, g40_2, g44_0, g44_2, g44_3, g44_5, g44_6, g44_10, g51_3, g51_4, g51_5, g51_6, g51_7, g57_3, g57_4, g57_5, g57_6, g57_7, n120, n121, g122_0, g122_4, g122_5, g122_6, g122_7, g122_8, g122_18, g122_19, g122_20, g122_21, g122_24, g122_25, g122_28, g122_29, g122_31, g122_32, g122_33, g122_39, g122_40, g122_41, g122_45, g122_46, g122_47, g122_48, n123, n124, n125, n126, n127, n128, n129, n130, n131, n132, n133, n134, n135, n136, n137, n138, n139, n140, n141, n142, n143, n144, n145, n146]
            · rw [d3, em]
              simp (disch := omega) only [↓m1_n, li_n, li_0, li_1, lt_y, lt_n, le_y, le_n, eq_n, nL, nLe, nEq, nEm, mEn, nLm, mLn, nLem, mLen, nI_add, nI_mul, nI_sub, nI_m, ib_nI, nx_nI, gd_y, bnd_e, bind_y, ↓reduceIte, hI_uI_o, hI_uI_s, hI_uI_e, hL_uI, hI_uL, hL_uL_o, hL_uL_s, hL_uL_e, and1_a, and1_b, Bool.not_true, Bool.not_false, Nat.zero_add, Nat.add_zero, Nat.add_sub_cancel, eq_self, ne_b, g0_0, g0_1, g0_2, g0_3, g0_4, g0_5, g0_6, g0_7, g0_8, g0_9, n1, n2, g3_2, g3_3, g3_4, g3_5, g3_6, g3_7, g3_8, g3_9, n4, n5, n6, n7, n8, n9, g10_2, g10_3, g10_4, g10_5, n11, n12, n13, n14, g15_2, g15_3, g15_4, g15_5, n16, n17, n18, n19, g40_0, g40_1, g40_2, g44_0, g44_2, g44_3, g44_5, g44_6, g44_10, g51_3, g51_4, g51_5, g51_6, g51_7, g57_3, g57_4, g57_5, g57_6, g57_7, n120, n121, g122_0, g122_4, g122_5, g122_6, g122_7, g122_8, g122_18, g122_19, g122_20, g122_21, g122_24, g122_25, g122_28, g122_29, g122_31, g122_32, g122_33, g122_39, g122_40, g122_41, g122_45, g122_46, g122_47, g122_48, n123, n124, n125, n126, n127, n128, n129, n130, n131, n132, n133, n134, n135, n136, n137, n138, n139, n140, n141, n142, n143, n144, n145, n146]
            · show hI h3 53 2 = _ ∧ hI h3 53 3 = _
              rw [ed] at hj ⊢
              have := b4.1 z j hj
              rw [d3]
              exact ⟨by simp (disch := omega) only [↓m1_n, li_n, li_0, li_1, lt_y, lt_n, le_y, le_n, eq_n, nL, nLe, nEq, nEm, mEn, nLm, mLn, nLem, mLen, nI_add, nI_mul, nI_sub, nI_m, ib_nI, nx_nI, gd_y, bnd_e, bind_y, ↓reduceIte, hI_uI_o, hI_uI_s, hI_uI_e, hL_uI, hI_uL, hL_uL_o, hL_uL_s, hL_uL_e, and1_a, and1_b, Bool.not_true, Bool.not_false, Nat.zero_add, Nat.add_zero, Nat.add_sub_cancel, eq_self, ne_b, g0_0, g0_1, g0_2, g0_3, g0_4, g0_5, g0_6, g0_7, g0_8, g0_9, n1, n2, g3_2, g3_3, g3_4, g3_5, g3_6, g3_7, g3_8, g3_9, n4, n5, n6, n7, n8, n9, g10_2, g10_3, g10_4, g10_5, n11, n12, n13, n14, g15_2, g15_3, g15_4, g15_5, n16, n17, n18, n19, g40_0, g40_1, g40_2, g44_0, g44_2, g44_3, g44_5, g44_6, g44_10, g51_3, g51_4, g51_5, g51_6, g51_7, g57_3, g57_4, g57_5, g57_6, g57_7, n120, n121, g122_0, g122_4, g122_5, g122_6, g122_7, g122_8, g122_18, g122_19, g122_20, g122_21, g122_24, g122_25, g122_28, g122_29, g122_31, g122_32, g122_33, g122_39, g122_40, g122_41, g122_45, g122_46, g122_47, g122_48, n123, n124, n125, n126, n127, n128, n129, n130, n131, n132, n133, n134, n135, n136, n137, n138, n139, n140, n141, n142, n143, n144, n145, n146, this.1], by simp (disch := omega) only [↓m1_n, li_n, li_0, li_1, lt_y, lt_n, le_y, le_n, eq_n, nL, nLe, nEq, nEm, mEn, nLm, mLn, nLem, mLen, nI_add, nI_mul, nI_sub, nI_m, ib_nI, nx_nI, gd_y, bnd_e, bind_y, ↓reduceIte, hI_uI_o, hI_uI_s, hI_uI_e, hL_uI, hI_uL, hL_uL_o, hL_uL_s, hL_uL_e, and1_a, and1_b, Bool.not_true, Bool.not_false, Nat.zero_add, Nat.add_zero, Nat.add_sub_cancel, eq_self, ne_b, g0_0, g0_1, g0_2, g0_3, g0_4, g0_5, g0_6, g0_7, g0_8, g0_9, n1, n2, g3_2, g3_3, g3_4, g3_5, g3_6, g3_7, g3_8, g3_9, n4, n5, n6, n7, n8, n9, g10_2, g10_3, g10_4, g10_5, n11, n12, n13, n14, g15_2, g15_3, g15_4, g15_5, n16, n17, n18, n19, g40_0, g40_1, g40_2, g44_0, g44_2, g44_3, g44_5, g44_6, g44_10, g51_3, g51_4, g51_5, g51_6, g51_7, g57_3, g57_4, g57_5, g57_6, g57_7, n120, n121, g122_0, g122_4, g122_5, g122_6, g122_7, g122_8, g122_18, g122_19, g122_20, g122_21, g122_24, g122_25, g122_28, g122_29, g122_31, g122_32, g122_33, g122_39, g122_40, g122_41, g122_45, g122_46, g122_47, g122_48, n123, n124, n125, n126, n127, n128, n129, n130, n131, n132, n133, n134, n135, n136, n137, n138, n139, n140, n141, n142, n143, n144, n145, n146]; exact this.2⟩
          · have b3' : CG h2 t (chg c (rdc A col cd) (misV A col (3 * cd + k))) := by rw [ed] at b3; exact b3
            obtain ⟨h3, d1, d2, d3, d4⟩ := a6 _ b3'
            have f2 : FrF s.1 h3 := ⟨fun d hd => by rw [d3, b2.1 d hd, a4], fun d hd => (d4 d hd).trans ((b2.2 d hd).trans (a5 d hd))⟩
            have e53 : hI h3 53 = hI s.1 53 := by rw [d3, b4.2.1 z, a4]
            refine ⟨(h3, nI (tot2 A col t c (3 * cd + k) + ct2 A col t c (3 * cd + k)), nI (k + 1)), ?_, rfl, ?_, p3.trans f2, d2, TT_k A col t c (TT_e A col t c p5 e53) z⟩
            · show B_X4_searchTwo_14 _ _ _ _ _ = _
              unfold B_X4_searchTwo_14 J_X4_searchTwo_66 F_X4_keepFirst
              rw [p1, p2]
              simp (disch := omega) only [↓m1_n, li_n, li_0, li_1, lt_y, lt_n, le_y, le_n, eq_n, nL, nLe, nEq, nEm, mEn, nLm, mLn, nLem, mLen, nI_add, nI_mul, nI_sub, nI_m, ib_nI, nx_nI, gd_y, bnd_e, bind_y, ↓reduceIte, hI_uI_o, hI_uI_s, hI_uI_e, hL_uI, hI_uL, hL_uL_o, hL_uL_s, hL_uL_e, and1_a, and1_b, Bool.not_true, Bool.not_false, Nat.zero_add, Nat.add_zero, Nat.add_sub_cancel, eq_self, ne_b, g0_0, g0_1, g0_2, g0_3, g0_4, g0_5, g0_6, g0_7, g0_8, g0_9, n1, n2, g3_2, g3_3, g3_4, g3_5, g3_6, g3_7, g3_8, g3_9, n4, n5, n6, n7, n8, n9, g10_2, g10_3, g10_4, g10_5, n11, n12, n13, n14, g15_2, g15_3, g15_4, g15_5, n16, n17, n18, n19, g40_0, g40_1, g40_2, g44_0, g44_2, g44_3, g44_5, g44_6, g44_10, g51_3, g51_4, g51_5, g51_6, g51_7, g57_3, g57_4, g57_5, g57_6, g57_7, n120, n121, g122_0, g122_4, g122_5, g122_6, g122_7, g122_8, g122_18, g122_19, g122_20, g122_21, g122_24, g122_25, g122_28, g122_29, g122_31, g122_32, g122_33, g122_39, g122_40, g122_41, g122_45, g122_46, g122_47, g122_48, n123, n124, n125, n126, n127, n128, n129, n130, n131, n132, n133, n134, n135, n136, n137, n138, n139, n140, n141, n142, n143, n144, n145, n146, MR, n55, n53, pl, a1, b1, z, e55, d1]
            · show nI _ = nI _
              rw [ts]
        · have c0 : ct2 A col t c (3 * cd + k) = 0 := by omega
          have b3' : CG h2 t (chg c (rdc A col cd) (misV A col (3 * cd + k))) := by rw [ed] at b3; exact b3
          obtain ⟨h3, d1, d2, d3, d4⟩ := a6 _ b3'
          have f2 : FrF s.1 h3 := ⟨fun d hd => by rw [d3, b2.1 d hd, a4], fun d hd => (d4 d hd).trans ((b2.2 d hd).trans (a5 d hd))⟩
          refine ⟨(h3, nI (tot2 A col t c (3 * cd + k) + ct2 A col t c (3 * cd + k)), nI (k + 1)), ?_, rfl, ?_, p3.trans f2, d2, ?_⟩
          · show B_X4_searchTwo_14 _ _ _ _ _ = _
            unfold B_X4_searchTwo_14 J_X4_searchTwo_66
            rw [p1, p2]
            simp (disch := omega) only [↓m1_n, li_n, li_0, li_1, lt_y, lt_n, le_y, le_n, eq_n, nL, nLe, nEq, nEm, mEn, nLm, mLn, nLem, mLen, nI_add, nI_mul, nI_sub, nI_m, ib_nI, nx_nI, gd_y, bnd_e, bind_y, ↓reduceIte, hI_uI_o, hI_uI_s, hI_uI_e, hL_uI, hI_uL, hL_uL_o, hL_uL_s, hL_uL_e, and1_a, and1_b, Bool.not_true, Bool.not_false, Nat.zero_add, Nat.add_zero, Nat.add_sub_cancel, eq_self, ne_b, g0_0, g0_1, g0_2, g0_3, g0_4, g0_5, g0_6, g0_7, g0_8, g0_9, n1, n2, g3_2, g3_3, g3_4, g3_5, g3_6, g3_7, g3_8, g3_9, n4, n5, n6, n7, n8, n9, g10_2, g10_3, g10_4, g10_5, n11, n12, n13, n14, g15_2, g15_3, g15_4, g15_5, n16, n17, n18, n19, g40_0, g40_1, g40_2, g44_0, g44_2, g44_3, g44_5, g44_6, g44_10, g51_3, g51_4, g51_5, g51_6, g51_7, g57_3, g57_4, g57_5, g57_6, g57_7, n120, n121, g122_0, g122_4, g122_5, g122_6, g122_7, g122_8, g122_18, g122_19, g122_20, g122_21, g122_24, g122_25, g122_28, g122_29, g122_31, g122_32, g122_33, g122_39, g122_40, g122_41, g122_45, g122_46, g122_47, g122_48, n123, n124, n125, n126, n127, n128, n129, n130, n131, n132, n133, n134, n135, n136, n137, n138, n139, n140, n141, n142, n143, n144, n145, n146, MR, n55, pl, a1, b1, c0, e55, d1]
          · show nI _ = nI _
            rw [ts]
          · by_cases z : tot2 A col t c (3 * cd + k) = 0
            · exact TT_v A col t c (by rw [ts, z, c0])
            · exact TT_n A col t c (TT_e A col t c p5 (by rw [d3, b4.2.1 z, a4])) c0
    · obtain ⟨p1, p2, p3, p4, p5⟩ := p
      refine ⟨(s.1, nI (tot2 A col t c (3 * cd + 3))), ?_, s.1, rfl, p3, p4, p5⟩
      show B_X4_searchTwo_14 _ _ _ _ _ = _
      unfold B_X4_searchTwo_14
      rw [p1, p2]
      simp (disch := omega) only [↓m1_n, li_n, li_0, li_1, lt_y, lt_n, le_y, le_n, eq_n, nL, nLe, nEq, nEm, mEn, nLm, mLn, nLem, mLen, nI_add, nI_mul, nI_sub, nI_m, ib_nI, nx_nI, gd_y, bnd_e, bind_y, ↓reduceIte, hI_uI_o, hI_uI_s, hI_uI_e, hL_uI, hI_uL, hL_uL_o, hL_uL_s, hL_uL_e, and1_a, and1_b, Bool.not_true, Bool.not_false, Nat.zero_add, Nat.add_zero, Nat.add_sub_cancel, eq_self, ne_b, g0_0, g0_1, g0_2, g0_3, g0_4, g0_5, g0_6, g0_7, g0_8, g0_9, n1, n2, g3_2, g3_3, g3_4, g3_5, g3_6, g3_7, g3_8, g3_9, n4, n5, n6, n7, n8, n9, g10_2, g10_3, g10_4, g10_5, n11, n12, n13, n14, g15_2, g15_3, g15_4, g15_5, n16, n17, n18, n19, g40_0, g40_1, g40_2, g44_0, g44_2, g44_3, g44_5, g44_6, g44_10, g51_3, g51_4, g51_5, g51_6, g51_7, g57_3, g57_4, g57_5, g57_6, g57_7, n120, n121, g122_0, g122_4, g122_5, g122_6, g122_7, g122_8, g122_18, g122_19, g122_20, g122_21, g122_24, g122_25, g122_28, g122_29, g122_31, g122_32, g122_33, g122_39, g122_40, g122_41, g122_45, g122_46, g122_47, g122_48, n123, n124, n125, n126, n127, n128, n129, n130, n131, n132, n133, n134, n135, n136, n137, n138, n139, n140, n141, n142, n143, n144, n145, n146]
  obtain ⟨r, x1, h3, x2, x3⟩ := key
  exact ⟨h3, by rw [x1, x2], x3⟩
theorem c_two {h : Hp} {A : Ho} {q col : Nat} {t : Nat → Int64} {c : Nat → Int} (ok : HoOk q A) (cm : CM h A col) (hc : col < 8) (g : CG h t c) : ∃ h', F_X4_searchTwo h 51 = some (h', nI (tot2 A col t c (3 * oN A))) ∧ FrF h h' ∧ CG h' t c ∧ TT A col t c h' (3 * oN A) := by
  have hA := ok.1
  have key : ∃ r, F_X4_searchTwo h 51 = some r ∧ ∃ h', r = (h', nI (tot2 A col t c (3 * oN A))) ∧ FrF h h' ∧ CG h' t c ∧ TT A col t c h' (3 * oN A) := by
    refine iterW_inv (fun k s => s.2.2 = nI k ∧ s.2.1 = nI (tot2 A col t c (3 * k)) ∧ FrF h s.1 ∧ CG s.1 t c ∧ TT A col t c s.1 (3 * k)) _ (oN A) (fun k s hk p => ?_) (fun s p => ?_) ⟨rfl, rfl, FrF.rf, g, fun i e => (by cases e)⟩
    · obtain ⟨p1, p2, p3, p4, p5⟩ := p
      obtain ⟨h1, a1, a2, a3, a4⟩ := c_two14 ok (p3.cm cm) hc p4 hk p5
      refine ⟨(h1, nI (tot2 A col t c (3 * k + 3)), nI (k + 1)), ?_, rfl, by rw [show 3 * (k + 1) = 3 * k + 3 by omega], p3.trans a2, a3, by rw [show 3 * (k + 1) = 3 * k + 3 by omega]; exact a4⟩
      show B_X4_searchTwo_4 _ _ _ _ = _
      unfold B_X4_searchTwo_4
      rw [p1, p2]
      simp (disch := omega) only [↓m1_n, li_n, li_0, li_1, lt_y, lt_n, le_y, le_n, eq_n, nL, nLe, nEq, nEm, mEn, nLm, mLn, nLem, mLen, nI_add, nI_mul, nI_sub, nI_m, ib_nI, nx_nI, gd_y, bnd_e, bind_y, ↓reduceIte, hI_uI_o, hI_uI_s, hI_uI_e, hL_uI, hI_uL, hL_uL_o, hL_uL_s, hL_uL_e, and1_a, and1_b, Bool.not_true, Bool.not_false, Nat.zero_add, Nat.add_zero, Nat.add_sub_cancel, eq_self, ne_b, g0_0, g0_1, g0_2, g0_3, g0_4, g0_5, g0_6, g0_7, g0_8, g0_9, n1, n2, g3_2, g3_3, g3_4, g3_5, g3_6, g3_7, g3_8, g3_9, n4, n5, n6, n7, n8, n9, g10_2, g10_3, g10_4, g10_5, n11, n12, n13, n14, g15_2, g15_3, g15_4, g15_5, n16, n17, n18, n19, g40_0, g40_1, g40_2, g44_0, g44_2, g44_3, g44_5, g44_6, g44_10, g51_3, g51_4, g51_5, g51_6, g51_7, g57_3, g57_4, g57_5, g57_6, g57_7, n120, n121, g122_0, g122_4, g122_5, g122_6, g122_7, g122_8, g122_18, g122_19, g122_20, g122_21, g122_24, g122_25, g122_28, g122_29, g122_31, g122_32, g122_33, g122_39, g122_40, g122_41, g122_45, g122_46, g122_47, g122_48, n123, n124, n125, n126, n127, n128, n129, n130, n131, n132, n133, n134, n135, n136, n137, n138, n139, n140, n141, n142, n143, n144, n145, n146, (p3.cm cm).1, a1]
    · obtain ⟨p1, p2, p3, p4, p5⟩ := p
      refine ⟨(s.1, nI (tot2 A col t c (3 * oN A))), ?_, s.1, rfl, p3, p4, p5⟩
      show B_X4_searchTwo_4 _ _ _ _ = _
      unfold B_X4_searchTwo_4
      rw [p1, p2]
      simp (disch := omega) only [↓m1_n, li_n, li_0, li_1, lt_y, lt_n, le_y, le_n, eq_n, nL, nLe, nEq, nEm, mEn, nLm, mLn, nLem, mLen, nI_add, nI_mul, nI_sub, nI_m, ib_nI, nx_nI, gd_y, bnd_e, bind_y, ↓reduceIte, hI_uI_o, hI_uI_s, hI_uI_e, hL_uI, hI_uL, hL_uL_o, hL_uL_s, hL_uL_e, and1_a, and1_b, Bool.not_true, Bool.not_false, Nat.zero_add, Nat.add_zero, Nat.add_sub_cancel, eq_self, ne_b, g0_0, g0_1, g0_2, g0_3, g0_4, g0_5, g0_6, g0_7, g0_8, g0_9, n1, n2, g3_2, g3_3, g3_4, g3_5, g3_6, g3_7, g3_8, g3_9, n4, n5, n6, n7, n8, n9, g10_2, g10_3, g10_4, g10_5, n11, n12, n13, n14, g15_2, g15_3, g15_4, g15_5, n16, n17, n18, n19, g40_0, g40_1, g40_2, g44_0, g44_2, g44_3, g44_5, g44_6, g44_10, g51_3, g51_4, g51_5, g51_6, g51_7, g57_3, g57_4, g57_5, g57_6, g57_7, n120, n121, g122_0, g122_4, g122_5, g122_6, g122_7, g122_8, g122_18, g122_19, g122_20, g122_21, g122_24, g122_25, g122_28, g122_29, g122_31, g122_32, g122_33, g122_39, g122_40, g122_41, g122_45, g122_46, g122_47, g122_48, n123, n124, n125, n126, n127, n128, n129, n130, n131, n132, n133, n134, n135, n136, n137, n138, n139, n140, n141, n142, n143, n144, n145, n146, (p3.cm cm).1]
  obtain ⟨r, x1, h3, x2, x3⟩ := key
  exact ⟨h3, by rw [x1, x2], x3⟩
/-- what the column reads, card by card -/
def bcN (A : Ho) (col : Nat) : Nat → Nat → Int
  | 0 => fun _ => 0
  | m + 1 => tlc (bcN A col m) (rdc A col m) 1
theorem c_prep {h : Hp} {A : Ho} {q col j : Nat} (ok : HoOk q A) (rc : RcH h 3 A) (hc : col < 8) (hj : j < 4) : ∃ h', F_X4_prepare h 51 3 (nI col) (64 + 2 * j) = some h' ∧ CM h' A col ∧ CG h' (hL h (64 + 2 * j)) (bcN A col (oN A)) ∧ (∀ d, d ≠ 51 → d ≠ 55 → d ≠ 56 → hI h' d = hI h d) ∧ (∀ k, k ≠ 8 → k ≠ 9 → hI h' 51 k = hI h 51 k) ∧ ∀ d, d ≠ 54 → hL h' d = hL h d := by
  have hA := ok.1
  have loop : ∀ h1 : Hp, RcH h1 3 A → hI h1 51 8 = nI (oN A) → (0 < oN A → hI h1 51 9 = nI (oD A 0)) → (∀ k, k < 13 → hL h1 54 k = hL h (64 + 2 * j) k) → ∃ h', L_X4_prepare_44 h1 51 3 (nI col) (nI 0) = some h' ∧ CM h' A col ∧ CG h' (hL h (64 + 2 * j)) (bcN A col (oN A)) ∧ (∀ d, d ≠ 55 → d ≠ 56 → hI h' d = hI h1 d) ∧ ∀ d, d ≠ 54 → hL h' d = hL h1 d := by
    intro h1 r1 e8 e9 eg
    refine iterW_inv (fun k s => s.2 = nI k ∧ (∀ c, c < k → hI s.1 55 c = nI (rdc A col c) ∧ hI s.1 56 c = if col = 7 then mN else nI (rdN (oH A c (col + 1)))) ∧ CG s.1 (hL h (64 + 2 * j)) (bcN A col k) ∧ (∀ d, d ≠ 55 → d ≠ 56 → hI s.1 d = hI h1 d) ∧ ∀ d, d ≠ 54 → hL s.1 d = hL h1 d) _ (oN A) (fun k s hk p => ?_) (fun s p => ?_) ⟨rfl, fun c hc => by omega, fun k hk => ?_, fun _ _ _ => rfl, fun _ _ => rfl⟩
    · obtain ⟨p1, p2, p3, p4, p5⟩ := p
      have rs : RcH s.1 3 A := RcH_congr (fun d a b => p4 d (by omega) (by omega)) r1
      have s8 : hI s.1 51 8 = nI (oN A) := by rw [p4 51 (by decide) (by decide)]; exact e8
      have rl := rdN_le (oH A k col)
      have RD : F_X2_reading s.1 3 (nI k) (nI col) = some (nI (rdc A col k)) := c_reading ok rs hk hc
      by_cases l : col = 7
      · obtain ⟨h2, a1, a2, a3, a4⟩ := c_tally (h := uI (uI s.1 55 k (nI (rdc A col k))) 56 k mN) (v := rdc A col k) (x := nI 1) (b := 1) (CG_uI (CG_uI p3)) (by unfold rdc; omega) (by decide)
        refine ⟨(h2, nI (k + 1)), ?_, rfl, fun c hcc => ?_, a2, fun d d1 d2 => by rw [a3, hI_uI_o d2, hI_uI_o d1]; exact p4 d d1 d2, fun d hd => (a4 d hd).trans (p5 d hd)⟩
        · show B_X4_prepare_44 _ _ _ _ _ = _
          unfold B_X4_prepare_44
          rw [p1]
          rw [l] at RD
          subst l
          simp (disch := omega) only [↓m1_n, li_n, li_0, li_1, lt_y, lt_n, le_y, le_n, eq_n, nL, nLe, nEq, nEm, mEn, nLm, mLn, nLem, mLen, nI_add, nI_mul, nI_sub, nI_m, ib_nI, nx_nI, gd_y, bnd_e, bind_y, ↓reduceIte, hI_uI_o, hI_uI_s, hI_uI_e, hL_uI, hI_uL, hL_uL_o, hL_uL_s, hL_uL_e, and1_a, and1_b, Bool.not_true, Bool.not_false, Nat.zero_add, Nat.add_zero, Nat.add_sub_cancel, eq_self, ne_b, g0_0, g0_1, g0_2, g0_3, g0_4, g0_5, g0_6, g0_7, g0_8, g0_9, n1, n2, g3_2, g3_3, g3_4, g3_5, g3_6, g3_7, g3_8, g3_9, n4, n5, n6, n7, n8, n9, g10_2, g10_3, g10_4, g10_5, n11, n12, n13, n14, g15_2, g15_3, g15_4, g15_5, n16, n17, n18, n19, g40_0, g40_1, g40_2, g44_0, g44_2, g44_3, g44_5, g44_6, g44_10, g51_3, g51_4, g51_5, g51_6, g51_7, g57_3, g57_4, g57_5, g57_6, g57_7, n120, n121, g122_0, g122_4, g122_5, g122_6, g122_7, g122_8, g122_18, g122_19, g122_20, g122_21, g122_24, g122_25, g122_28, g122_29, g122_31, g122_32, g122_33, g122_39, g122_40, g122_41, g122_45, g122_46, g122_47, g122_48, n123, n124, n125, n126, n127, n128, n129, n130, n131, n132, n133, n134, n135, n136, n137, n138, n139, n140, n141, n142, n143, n144, n145, n146, s8, RD, n55, n56, a1]
        · rw [a3, if_pos l]
          by_cases e : c = k
          · subst e
            exact ⟨by simp (disch := omega) only [↓m1_n, li_n, li_0, li_1, lt_y, lt_n, le_y, le_n, eq_n, nL, nLe, nEq, nEm, mEn, nLm, mLn, nLem, mLen, nI_add, nI_mul, nI_sub, nI_m, ib_nI, nx_nI, gd_y, bnd_e, bind_y, ↓reduceIte, hI_uI_o, hI_uI_s, hI_uI_e, hL_uI, hI_uL, hL_uL_o, hL_uL_s, hL_uL_e, and1_a, and1_b, Bool.not_true, Bool.not_false, Nat.zero_add, Nat.add_zero, Nat.add_sub_cancel, eq_self, ne_b, g0_0, g0_1, g0_2, g0_3, g0_4, g0_5, g0_6, g0_7, g0_8, g0_9, n1, n2, g3_2, g3_3, g3_4, g3_5, g3_6, g3_7, g3_8, g3_9, n4, n5, n6, n7, n8, n9, g10_2, g10_3, g10_4, g10_5, n11, n12, n13, n14, g15_2, g15_3, g15_4, g15_5, n16, n17, n18, n19, g40_0, g40_1, g40_2, g44_0, g44_2, g44_3, g44_5, g44_6, g44_10, g51_3, g51_4, g51_5, g51_6, g51_7, g57_3, g57_4, g57_5, g57_6, g57_7, n120, n121, g122_0, g122_4, g122_5, g122_6, g122_7, g122_8, g122_18, g122_19, g122_20, g122_21, g122_24, g122_25, g122_28, g122_29, g122_31, g122_32, g122_33, g122_39, g122_40, g122_41, g122_45, g122_46, g122_47, g122_48, n123, n124, n125, n126, n127, n128, n129, n130, n131, n132, n133, n134, n135, n136, n137, n138, n139, n140, n141, n142, n143, n144, n145, n146], by simp (disch := omega) only [↓m1_n, li_n, li_0, li_1, lt_y, lt_n, le_y, le_n, eq_n, nL, nLe, nEq, nEm, mEn, nLm, mLn, nLem, mLen, nI_add, nI_mul, nI_sub, nI_m, ib_nI, nx_nI, gd_y, bnd_e, bind_y, ↓reduceIte, hI_uI_o, hI_uI_s, hI_uI_e, hL_uI, hI_uL, hL_uL_o, hL_uL_s, hL_uL_e, and1_a, and1_b, Bool.not_true, Bool.not_false, Nat.zero_add, Nat.add_zero, Nat.add_sub_cancel, eq_self, ne_b, g0_0, g0_1, g0_2, g0_3, g0_4, g0_5, g0_6, g0_7, g0_8, g0_9, n1, n2, g3_2, g3_3, g3_4, g3_5, g3_6, g3_7, g3_8, g3_9, n4, n5, n6, n7, n8, n9, g10_2, g10_3, g10_4, g10_5, n11, n12, n13, n14, g15_2, g15_3, g15_4, g15_5, n16, n17, n18, n19, g40_0, g40_1, g40_2, g44_0, g44_2, g44_3, g44_5, g44_6, g44_10, g51_3, g51_4, g51_5, g51_6, g51_7, g57_3, g57_4, g57_5, g57_6, g57_7, n120, n121, g122_0, g122_4, g122_5, g122_6, g122_7, g122_8, g122_18, g122_19, g122_20, g122_21, g122_24, g122_25, g122_28, g122_29, g122_31, g122_32, g122_33, g122_39, g122_40, g122_41, g122_45, g122_46, g122_47, g122_48, n123, n124, n125, n126, n127, n128, n129, n130, n131, n132, n133, n134, n135, n136, n137, n138, n139, n140, n141, n142, n143, n144, n145, n146]⟩
          · have := p2 c (by omega)
            rw [if_pos l] at this
            exact ⟨by simp (disch := omega) only [↓m1_n, li_n, li_0, li_1, lt_y, lt_n, le_y, le_n, eq_n, nL, nLe, nEq, nEm, mEn, nLm, mLn, nLem, mLen, nI_add, nI_mul, nI_sub, nI_m, ib_nI, nx_nI, gd_y, bnd_e, bind_y, ↓reduceIte, hI_uI_o, hI_uI_s, hI_uI_e, hL_uI, hI_uL, hL_uL_o, hL_uL_s, hL_uL_e, and1_a, and1_b, Bool.not_true, Bool.not_false, Nat.zero_add, Nat.add_zero, Nat.add_sub_cancel, eq_self, ne_b, g0_0, g0_1, g0_2, g0_3, g0_4, g0_5, g0_6, g0_7, g0_8, g0_9, n1, n2, g3_2, g3_3, g3_4, g3_5, g3_6, g3_7, g3_8, g3_9, n4, n5, n6, n7, n8, n9, g10_2, g10_3, g10_4, g10_5, n11, n12, n13, n14, g15_2, g15_3, g15_4, g15_5, n16, n17, n18, n19, g40_0, g40_1, g40_2, g44_0, g44_2, g44_3, g44_5, g44_6, g44_10, g51_3, g51_4, g51_5, g51_6, g51_7, g57_3, g57_4, g57_5, g57_6, g57_7, n120, n121, g122_0, g122_4, g122_5, g122_6, g122_7, g122_8, g122_18, g122_19, g122_20, g122_21, g122_24, g122_25, g122_28, g122_29, g122_31, g122_32, g122_33, g122_39, g122_40, g122_41, g122_45, g122_46, g122_47, g122_48, n123, n124, n125, n126, n127, n128, n129, n130, n131, n132, n133, n134, n135, n136, n137, n138, n139, n140, n141, n142, n143, n144, n145, n146, this.1], by simp (disch := omega) only [↓m1_n, li_n, li_0, li_1, lt_y, lt_n, le_y, le_n, eq_n, nL, nLe, nEq, nEm, mEn, nLm, mLn, nLem, mLen, nI_add, nI_mul, nI_sub, nI_m, ib_nI, nx_nI, gd_y, bnd_e, bind_y, ↓reduceIte, hI_uI_o, hI_uI_s, hI_uI_e, hL_uI, hI_uL, hL_uL_o, hL_uL_s, hL_uL_e, and1_a, and1_b, Bool.not_true, Bool.not_false, Nat.zero_add, Nat.add_zero, Nat.add_sub_cancel, eq_self, ne_b, g0_0, g0_1, g0_2, g0_3, g0_4, g0_5, g0_6, g0_7, g0_8, g0_9, n1, n2, g3_2, g3_3, g3_4, g3_5, g3_6, g3_7, g3_8, g3_9, n4, n5, n6, n7, n8, n9, g10_2, g10_3, g10_4, g10_5, n11, n12, n13, n14, g15_2, g15_3, g15_4, g15_5, n16, n17, n18, n19, g40_0, g40_1, g40_2, g44_0, g44_2, g44_3, g44_5, g44_6, g44_10, g51_3, g51_4, g51_5, g51_6, g51_7, g57_3, g57_4, g57_5, g57_6, g57_7, n120, n121, g122_0, g122_4, g122_5, g122_6, g122_7, g122_8, g122_18, g122_19, g122_20, g122_21, g122_24, g122_25, g122_28, g122_29, g122_31, g122_32, g122_33, g122_39, g122_40, g122_41, g122_45, g122_46, g122_47, g122_48, n123, n124, n125, n126, n127, n128, n129, n130, n131, n132, n133, n134, n135, n136, n137, n138, n139, n140, n141, n142, n143, n144, n145, n146, this.2]⟩
      · have rc' : RcH (uI s.1 55 k (nI (rdc A col k))) 3 A := RcH_congr (fun d a b => hI_uI_o (by omega)) rs
        have RD2 : F_X2_reading (uI s.1 55 k (nI (rdc A col k))) 3 (nI k) (nI (col + 1)) = some (nI (rdN (oH A k (col + 1)))) := c_reading ok rc' hk (by omega)
        obtain ⟨h2, a1, a2, a3, a4⟩ := c_tally (h := uI (uI s.1 55 k (nI (rdc A col k))) 56 k (nI (rdN (oH A k (col + 1))))) (v := rdc A col k) (x := nI 1) (b := 1) (CG_uI (CG_uI p3)) (by unfold rdc; omega) (by decide)
        refine ⟨(h2, nI (k + 1)), ?_, rfl, fun c hcc => ?_, a2, fun d d1 d2 => by rw [a3, hI_uI_o d2, hI_uI_o d1]; exact p4 d d1 d2, fun d hd => (a4 d hd).trans (p5 d hd)⟩
        · show B_X4_prepare_44 _ _ _ _ _ = _
          unfold B_X4_prepare_44
          rw [p1]
          simp (disch := omega) only [↓m1_n, li_n, li_0, li_1, lt_y, lt_n, le_y, le_n, eq_n, nL, nLe, nEq, nEm, mEn, nLm, mLn, nLem, mLen, nI_add, nI_mul, nI_sub, nI_m, ib_nI, nx_nI, gd_y, bnd_e, bind_y, ↓reduceIte, hI_uI_o, hI_uI_s, hI_uI_e, hL_uI, hI_uL, hL_uL_o, hL_uL_s, hL_uL_e, and1_a, and1_b, Bool.not_true, Bool.not_false, Nat.zero_add, Nat.add_zero, Nat.add_sub_cancel, eq_self, ne_b, g0_0, g0_1, g0_2, g0_3, g0_4, g0_5, g0_6, g0_7, g0_8, g0_9, n1, n2, g3_2, g3_3, g3_4, g3_5, g3_6, g3_7, g3_8, g3_9, n4, n5, n6, n7, n8, n9, g10_2, g10_3, g10_4, g10_5, n11, n12, n13, n14, g15_2, g15_3, g15_4, g15_5, n16, n17, n18, n19, g40_0, g40_1, g40_2, g44_0, g44_2, g44_3, g44_5, g44_6, g44_10, g51_3, g51_4, g51_5, g51_6, g51_7, g57_3, g57_4, g57_5, g57_6, g57_7, n120, n121, g122_0, g122_4, g122_5, g122_6, g122_7, g122_8, g122_18, g122_19, g122_20, g122_21, g122_24, g122_25, g122_28, g122_29, g122_31, g122_32, g122_33, g122_39, g122_40, g122_41, g122_45, g122_46, g122_47, g122_48, n123, n124, n125, n126, n127, n128, n129, n130, n131, n132, n133, n134, n135, n136, n137, n138, n139, n140, n141, n142, n143, n144, n145, n146, s8, RD, RD2, n55, n56, a1]
        · rw [a3, if_neg l]
          by_cases e : c = k
          · subst e
            exact ⟨by simp (disch := omega) only [↓m1_n, li_n, li_0, li_1, lt_y, lt_n, le_y, le_n, eq_n, nL, nLe, nEq, nEm, mEn, nLm, mLn, nLem, mLen, nI_add, nI_mul, nI_sub, nI_m, ib_nI, nx_nI, gd_y, bnd_e, bind_y, ↓reduceIte, hI_uI_o, hI_uI_s, hI_uI_e, hL_uI, hI_uL, hL_uL_o, hL_uL_s, hL_uL_e, and1_a, and1_b, Bool.not_true, Bool.not_false, Nat.zero_add, Nat.add_zero, Nat.add_sub_cancel, eq_self, ne_b, g0_0, g0_1, g0_2, g0_3, g0_4, g0_5, g0_6, g0_7, g0_8, g0_9, n1, n2, g3_2, g3_3, g3_4, g3_5, g3_6, g3_7, g3_8, g3_9, n4, n5, n6, n7, n8, n9, g10_2, g10_3, g10_4, g10_5, n11, n12, n13, n14, g15_2, g15_3, g15_4, g15_5, n16, n17, n18, n19, g40_0, g40_1, g40_2, g44_0, g44_2, g44_3, g44_5, g44_6, g44_10, g51_3, g51_4, g51_5, g51_6, g51_7, g57_3, g57_4, g57_5, g57_6, g57_7, n120, n121, g122_0, g122_4, g122_5, g122_6, g122_7, g122_8, g122_18, g122_19, g122_20, g122_21, g122_24, g122_25, g122_28, g122_29, g122_31, g122_32, g122_33, g122_39, g122_40, g122_41, g122_45, g122_46, g122_47, g122_48, n123, n124, n125, n126, n127, n128, n129, n130, n131, n132, n133, n134, n135, n136, n137, n138, n139, n140, n141, n142, n143, n144, n145, n146], by simp (disch := omega) only [↓m1_n, li_n, li_0, li_1, lt_y, lt_n, le_y, le_n, eq_n, nL, nLe, nEq, nEm, mEn, nLm, mLn, nLem, mLen, nI_add, nI_mul, nI_sub, nI_m, ib_nI, nx_nI, gd_y, bnd_e, bind_y, ↓reduceIte, hI_uI_o, hI_uI_s, hI_uI_e, hL_uI, hI_uL, hL_uL_o, hL_uL_s, hL_uL_e, and1_a, and1_b, Bool.not_true, Bool.not_false, Nat.zero_add, Nat.add_zero, Nat.add_sub_cancel, eq_self, ne_b, g0_0, g0_1, g0_2, g0_3, g0_4, g0_5, g0_6, g0_7, g0_8, g0_9, n1, n2, g3_2, g3_3, g3_4, g3_5, g3_6, g3_7, g3_8, g3_9, n4, n5, n6, n7, n8, n9, g10_2, g10_3, g10_4, g10_5, n11, n12, n13, n14, g15_2, g15_3, g15_4, g15_5, n16, n17, n18, n19, g40_0, g40_1, g40_2, g44_0, g44_2, g44_3, g44_5, g44_6, g44_10, g51_3, g51_4, g51_5, g51_6, g51_7, g57_3, g57_4, g57_5, g57_6, g57_7, n120, n121, g122_0, g122_4, g122_5, g122_6, g122_7, g122_8, g122_18, g122_19, g122_20, g122_21, g122_24, g122_25, g122_28, g122_29, g122_31, g122_32, g122_33, g122_39, g122_40, g122_41, g122_45, g122_46, g122_47, g122_48, n123, n124, n125, n126, n127, n128, n129, n130, n131, n132, n133, n134, n135, n136, n137, n138, n139, n140, n141, n142, n143, n144, n145, n146]⟩
          · have := p2 c (by omega)
            rw [if_neg l] at this
            exact ⟨by simp (disch := omega) only [↓m1_n, li_n, li_0, li_1, lt_y, lt_n, le_y, le_n, eq_n, nL, nLe, nEq, nEm, mEn, nLm, mLn, nLem, mLen, nI_add, nI_mul, nI_sub, nI_m, ib_nI, nx_nI, gd_y, bnd_e, bind_y, ↓reduceIte, hI_uI_o, hI_uI_s, hI_uI_e, hL_uI, hI_uL, hL_uL_o, hL_uL_s, hL_uL_e, and1_a, and1_b, Bool.not_true, Bool.not_false, Nat.zero_add, Nat.add_zero, Nat.add_sub_cancel, eq_self, ne_b, g0_0, g0_1, g0_2, g0_3, g0_4, g0_5, g0_6, g0_7, g0_8, g0_9, n1, n2, g3_2, g3_3, g3_4, g3_5, g3_6, g3_7, g3_8, g3_9, n4, n5, n6, n7, n8, n9, g10_2, g10_3, g10_4, g10_5, n11, n12, n13, n14, g15_2, g15_3, g15_4, g15_5, n16, n17, n18, n19, g40_0, g40_1, g40_2, g44_0, g44_2, g44_3, g44_5, g44_6, g44_10, g51_3, g51_4, g51_5, g51_6, g51_7, g57_3, g57_4, g57_5, g57_6, g57_7, n120, n121, g122_0, g122_4, g122_5, g122_6, g122_7, g122_8, g122_18, g122_19, g122_20, g122_21, g122_24, g122_25, g122_28, g122_29, g122_31, g122_32, g122_33, g122_39, g122_40, g122_41, g122_45, g122_46, g122_47, g122_48, n123, n124, n125, n126, n127, n128, n129, n130, n131, n132, n133, n134, n135, n136, n137, n138, n139, n140, n141, n142, n143, n144, n145, n146, this.1], by simp (disch := omega) only [↓m1_n, li_n, li_0, li_1, lt_y, lt_n, le_y, le_n, eq_n, nL, nLe, nEq, nEm, mEn, nLm, mLn, nLem, mLen, nI_add, nI_mul, nI_sub, nI_m, ib_nI, nx_nI, gd_y, bnd_e, bind_y, ↓reduceIte, hI_uI_o, hI_uI_s, hI_uI_e, hL_uI, hI_uL, hL_uL_o, hL_uL_s, hL_uL_e, and1_a, and1_b, Bool.not_true, Bool.not_false, Nat.zero_add, Nat.add_zero, Nat.add_sub_cancel, eq_self, ne_b, g0_0, g0_1, g0_2, g0_3, g0_4, g0_5, g0_6, g0_7, g0_8, g0_9, n1, n2, g3_2, g3_3, g3_4, g3_5, g3_6, g3_7, g3_8, g3_9, n4, n5, n6, n7, n8, n9, g10_2, g10_3, g10_4, g10_5, n11, n12, n13, n14, g15_2, g15_3, g15_4, g15_5, n16, n17, n18, n19, g40_0, g40_1, g40_2, g44_0, g44_2, g44_3, g44_5, g44_6, g44_10, g51_3, g51_4, g51_5, g51_6, g51_7, g57_3, g57_4, g57_5, g57_6, g57_7, n120, n121, g122_0, g122_4, g122_5, g122_6, g122_7, g122_8, g122_18, g122_19, g122_20, g122_21, g122_24, g122_25, g122_28, g122_29, g122_31, g122_32, g122_33, g122_39, g122_40, g122_41, g122_45, g122_46, g122_47, g122_48, n123, n124, n125, n126, n127, n128, n129, n130, n131, n132, n133, n134, n135, n136, n137, n138, n139, n140, n141, n142, n143, n144, n145, n146, this.2]⟩
    · obtain ⟨p1, p2, p3, p4, p5⟩ := p
      have s8 : hI s.1 51 8 = nI (oN A) := by rw [p4 51 (by decide) (by decide)]; exact e8
      refine ⟨s.1, ?_, ⟨s8, fun l => by rw [p4 51 (by decide) (by decide)]; exact e9 l, p2⟩, p3, p4, p5⟩
      show B_X4_prepare_44 _ _ _ _ _ = _
      unfold B_X4_prepare_44
      rw [p1]
      simp (disch := omega) only [↓m1_n, li_n, li_0, li_1, lt_y, lt_n, le_y, le_n, eq_n, nL, nLe, nEq, nEm, mEn, nLm, mLn, nLem, mLen, nI_add, nI_mul, nI_sub, nI_m, ib_nI, nx_nI, gd_y, bnd_e, bind_y, ↓reduceIte, hI_uI_o, hI_uI_s, hI_uI_e, hL_uI, hI_uL, hL_uL_o, hL_uL_s, hL_uL_e, and1_a, and1_b, Bool.not_true, Bool.not_false, Nat.zero_add, Nat.add_zero, Nat.add_sub_cancel, eq_self, ne_b, g0_0, g0_1, g0_2, g0_3, g0_4, g0_5, g0_6, g0_7, g0_8, g0_9, n1, n2, g3_2, g3_3, g3_4, g3_5, g3_6, g3_7, g3_8, g3_9, n4, n5, n6, n7, n8, n9, g10_2, g10_3, g10_4, g10_5, n11, n12, n13, n14, g15_2, g15_3, g15_4, g15_5, n16, n17, n18, n19, g40_0, g40_1, g40_2, g44_0, g44_2, g44_3, g44_5, g44_6, g44_10, g51_3, g51_4, g51_5, g51_6, g51_7, g57_3, g57_4, g57_5, g57_6, g57_7, n120, n121, g122_0, g122_4, g122_5, g122_6, g122_7, g122_8, g122_18, g122_19, g122_20, g122_21, g122_24, g122_25, g122_28, g122_29, g122_31, g122_32, g122_33, g122_39, g122_40, g122_41, g122_45, g122_46, g122_47, g122_48, n123, n124, n125, n126, n127, n128, n129, n130, n131, n132, n133, n134, n135, n136, n137, n138, n139, n140, n141, n142, n143, n144, n145, n146, s8]
    · rw [eg k hk]
      unfold bcN
      rw [show Int64.ofInt 0 = 0 from rfl]
      simp
  have cp : ∀ (f g : Nat → Int64) k, k < 13 → va_cpy f g 0 0 13 k = f k := fun f g k hk => cpy0 hk
  by_cases l : 0 < oN A
  · obtain ⟨h2, a1, a2, a3, a4, a5⟩ := loop (sL (uI (uI h 51 8 (nI (oN A))) 51 9 (nI (oD A 0))) 54 (va_cpy (hL h (64 + 2 * j)) (hL h 54) 0 0 13)) (RcH_congr (fun d a b => by rw [hI_sL, hI_uI_o (by omega), hI_uI_o (by omega)]) rc) (by rw [hI_sL]; simp (disch := omega) only [↓m1_n, li_n, li_0, li_1, lt_y, lt_n, le_y, le_n, eq_n, nL, nLe, nEq, nEm, mEn, nLm, mLn, nLem, mLen, nI_add, nI_mul, nI_sub, nI_m, ib_nI, nx_nI, gd_y, bnd_e, bind_y, ↓reduceIte, hI_uI_o, hI_uI_s, hI_uI_e, hL_uI, hI_uL, hL_uL_o, hL_uL_s, hL_uL_e, and1_a, and1_b, Bool.not_true, Bool.not_false, Nat.zero_add, Nat.add_zero, Nat.add_sub_cancel, eq_self, ne_b, g0_0, g0_1, g0_2, g0_3, g0_4, g0_5, g0_6, g0_7, g0_8, g0_9, n1, n2, g3_2, g3_3, g3_4, g3_5, g3_6, g3_7, g3_8, g3_9, n4, n5, n6, n7, n8, n9, g10_2, g10_3, g10_4, g10_5, n11, n12, n13, n14, g15_2, g15_3, g15_4, g15_5, n16, n17, n18, n19, g40_0, g40_1, g40_2, g44_0, g44_2, g44_3, g44_5, g44_6, g44_10, g51_3, g51_4, g51_5, g51_6, g51_7, g57_3, g57_4, g57_5, g57_6, g57_7, n120, n121, g122_0, g122_4, g122_5, g122_6, g122_7, g122_8, g122_18, g122_19, g122_20, g122_21, g122_24, g122_25, g122_28, g122_29, g122_31, g122_32, g122_33, g122_39, g122_40, g122_41, g122_45, g122_46, g122_47, g122_48, n123, n124, n125, n126, n127, n128, n129, n130, n131, n132, n133, n134, n135, n136, n137, n138, n139, n140, n141, n142, n143, n144, n145, n146]) (fun _ => by rw [hI_sL]; simp (disch := omega) only [↓m1_n, li_n, li_0, li_1, lt_y, lt_n, le_y, le_n, eq_n, nL, nLe, nEq, nEm, mEn, nLm, mLn, nLem, mLen, nI_add, nI_mul, nI_sub, nI_m, ib_nI, nx_nI, gd_y, bnd_e, bind_y, ↓reduceIte, hI_uI_o, hI_uI_s, hI_uI_e, hL_uI, hI_uL, hL_uL_o, hL_uL_s, hL_uL_e, and1_a, and1_b, Bool.not_true, Bool.not_false, Nat.zero_add, Nat.add_zero, Nat.add_sub_cancel, eq_self, ne_b, g0_0, g0_1, g0_2, g0_3, g0_4, g0_5, g0_6, g0_7, g0_8, g0_9, n1, n2, g3_2, g3_3, g3_4, g3_5, g3_6, g3_7, g3_8, g3_9, n4, n5, n6, n7, n8, n9, g10_2, g10_3, g10_4, g10_5, n11, n12, n13, n14, g15_2, g15_3, g15_4, g15_5, n16, n17, n18, n19, g40_0, g40_1, g40_2, g44_0, g44_2, g44_3, g44_5, g44_6, g44_10, g51_3, g51_4, g51_5, g51_6, g51_7, g57_3, g57_4, g57_5, g57_6, g57_7, n120, n121, g122_0, g122_4, g122_5, g122_6, g122_7, g122_8, g122_18, g122_19, g122_20, g122_21, g122_24, g122_25, g122_28, g122_29, g122_31, g122_32, g122_33, g122_39, g122_40, g122_41, g122_45, g122_46, g122_47, g122_48, n123, n124, n125, n126, n127, n128, n129, n130, n131, n132, n133, n134, n135, n136, n137, n138, n139, n140, n141, n142, n143, n144, n145, n146]) (fun k hk => by rw [hL_sL_e, cp _ _ k hk])
    refine ⟨h2, ?_, a2, a3, fun d d1 d2 d3 => by rw [a4 d d2 d3, hI_sL, hI_uI_o d1, hI_uI_o d1], fun k k1 k2 => by rw [a4 51 (by decide) (by decide), hI_sL, hI_uI_s k2, hI_uI_s k1], fun d hd => by rw [a5 d hd, hL_sL_o hd]; rfl⟩
    unfold F_X4_prepare
    simp (disch := omega) only [↓m1_n, li_n, li_0, li_1, lt_y, lt_n, le_y, le_n, eq_n, nL, nLe, nEq, nEm, mEn, nLm, mLn, nLem, mLen, nI_add, nI_mul, nI_sub, nI_m, ib_nI, nx_nI, gd_y, bnd_e, bind_y, ↓reduceIte, hI_uI_o, hI_uI_s, hI_uI_e, hL_uI, hI_uL, hL_uL_o, hL_uL_s, hL_uL_e, and1_a, and1_b, Bool.not_true, Bool.not_false, Nat.zero_add, Nat.add_zero, Nat.add_sub_cancel, eq_self, ne_b, g0_0, g0_1, g0_2, g0_3, g0_4, g0_5, g0_6, g0_7, g0_8, g0_9, n1, n2, g3_2, g3_3, g3_4, g3_5, g3_6, g3_7, g3_8, g3_9, n4, n5, n6, n7, n8, n9, g10_2, g10_3, g10_4, g10_5, n11, n12, n13, n14, g15_2, g15_3, g15_4, g15_5, n16, n17, n18, n19, g40_0, g40_1, g40_2, g44_0, g44_2, g44_3, g44_5, g44_6, g44_10, g51_3, g51_4, g51_5, g51_6, g51_7, g57_3, g57_4, g57_5, g57_6, g57_7, n120, n121, g122_0, g122_4, g122_5, g122_6, g122_7, g122_8, g122_18, g122_19, g122_20, g122_21, g122_24, g122_25, g122_28, g122_29, g122_31, g122_32, g122_33, g122_39, g122_40, g122_41, g122_45, g122_46, g122_47, g122_48, n123, n124, n125, n126, n127, n128, n129, n130, n131, n132, n133, n134, n135, n136, n137, n138, n139, n140, n141, n142, n143, n144, n145, n146, cNn rc, cDe rc l, n54, nT j hj, cpk, a1]
  · obtain ⟨h2, a1, a2, a3, a4, a5⟩ := loop (sL (uI (uI h 51 8 (nI (oN A))) 51 9 mN) 54 (va_cpy (hL h (64 + 2 * j)) (hL h 54) 0 0 13)) (RcH_congr (fun d a b => by rw [hI_sL, hI_uI_o (by omega), hI_uI_o (by omega)]) rc) (by rw [hI_sL]; simp (disch := omega) only [↓m1_n, li_n, li_0, li_1, lt_y, lt_n, le_y, le_n, eq_n, nL, nLe, nEq, nEm, mEn, nLm, mLn, nLem, mLen, nI_add, nI_mul, nI_sub, nI_m, ib_nI, nx_nI, gd_y, bnd_e, bind_y, ↓reduceIte, hI_uI_o, hI_uI_s, hI_uI_e, hL_uI, hI_uL, hL_uL_o, hL_uL_s, hL_uL_e, and1_a, and1_b, Bool.not_true, Bool.not_false, Nat.zero_add, Nat.add_zero, Nat.add_sub_cancel, eq_self, ne_b, g0_0, g0_1, g0_2, g0_3, g0_4, g0_5, g0_6, g0_7, g0_8, g0_9, n1, n2, g3_2, g3_3, g3_4, g3_5, g3_6, g3_7, g3_8, g3_9, n4, n5, n6, n7, n8, n9, g10_2, g10_3, g10_4, g10_5, n11, n12, n13, n14, g15_2, g15_3, g15_4, g15_5, n16, n17, n18, n19, g40_0, g40_1, g40_2, g44_0, g44_2, g44_3, g44_5, g44_6, g44_10, g51_3, g51_4, g51_5, g51_6, g51_7, g57_3, g57_4, g57_5, g57_6, g57_7, n120, n121, g122_0, g122_4, g122_5, g122_6, g122_7, g122_8, g122_18, g122_19, g122_20, g122_21, g122_24, g122_25, g122_28, g122_29, g122_31, g122_32, g122_33, g122_39, g122_40, g122_41, g122_45, g122_46, g122_47, g122_48, n123, n124, n125, n126, n127, n128, n129, n130, n131, n132, n133, n134, n135, n136, n137, n138, n139, n140, n141, n142, n143, n144, n145, n146]) (fun x => absurd x l) (fun k hk => by rw [hL_sL_e, cp _ _ k hk])
    refine ⟨h2, ?_, a2, a3, fun d d1 d2 d3 => by rw [a4 d d2 d3, hI_sL, hI_uI_o d1, hI_uI_o d1], fun k k1 k2 => by rw [a4 51 (by decide) (by decide), hI_sL, hI_uI_s k2, hI_uI_s k1], fun d hd => by rw [a5 d hd, hL_sL_o hd]; rfl⟩
    unfold F_X4_prepare
    simp (disch := omega) only [↓m1_n, li_n, li_0, li_1, lt_y, lt_n, le_y, le_n, eq_n, nL, nLe, nEq, nEm, mEn, nLm, mLn, nLem, mLen, nI_add, nI_mul, nI_sub, nI_m, ib_nI, nx_nI, gd_y, bnd_e, bind_y, ↓reduceIte, hI_uI_o, hI_uI_s, hI_uI_e, hL_uI, hI_uL, hL_uL_o, hL_uL_s, hL_uL_e, and1_a, and1_b, Bool.not_true, Bool.not_false, Nat.zero_add, Nat.add_zero, Nat.add_sub_cancel, eq_self, ne_b, g0_0, g0_1, g0_2, g0_3, g0_4, g0_5, g0_6, g0_7, g0_8, g0_9, n1, n2, g3_2, g3_3, g3_4, g3_5, g3_6, g3_7, g3_8, g3_9, n4, n5, n6, n7, n8, n9, g10_2, g10_3, g10_4, g10_5, n11, n12, n13, n14, g15_2, g15_3, g15_4, g15_5, n16, n17, n18, n19, g40_0, g40_1, g40_2, g44_0, g44_2, g44_3, g44_5, g44_6, g44_10, g51_3, g51_4, g51_5, g51_6, g51_7, g57_3, g57_4, g57_5, g57_6, g57_7, n120, n121, g122_0, g122_4, g122_5, g122_6, g122_7, g122_8, g122_18, g122_19, g122_20, g122_21, g122_24, g122_25, g122_28, g122_29, g122_31, g122_32, g122_33, g122_39, g122_40, g122_41, g122_45, g122_46, g122_47, g122_48, n123, n124, n125, n126, n127, n128, n129, n130, n131, n132, n133, n134, n135, n136, n137, n138, n139, n140, n141, n142, n143, n144, n145, n146, cNn rc, n54, nT j hj, cpk, a1]
