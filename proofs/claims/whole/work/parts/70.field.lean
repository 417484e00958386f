/-! ===== fields ===== -/
/-- n columns from c on, v so far -/
def fldF (r : Nat → Nat) : Nat → Nat → Nat → Option Nat
  | 0, _, v => some v
  | n + 1, c, v => if r c = 11 then none else fldF r n (c + 1) (v * 10 + if r c = 10 then 0 else r c)
def fld (A : Ho) (i a b : Nat) : Option Nat := fldF (fun c => rdN (oH A i c)) (b + 1 - a) a 0
theorem rdN_le (v : Nat) : rdN v ≤ 11 := by
  unfold rdN
  repeat' split
  all_goals omega
theorem fldF_lt {r : Nat → Nat} (hr : ∀ c, r c ≤ 11) : ∀ n c v w, fldF r n c v = some w → w < (v + 1) * 10 ^ n := by
  intro n
  induction n with
  | zero =>
    intro c v w e
    cases e
    omega
  | succ n ih =>
    intro c v w e
    unfold fldF at e
    by_cases e1 : r c = 11
    · rw [if_pos e1] at e
      cases e
    · rw [if_neg e1] at e
      have h1 := ih _ _ _ e
      have h2 := hr c
      have h3 : v * 10 + (if r c = 10 then 0 else r c) + 1 ≤ (v + 1) * 10 := by
        by_cases e2 : r c = 10
        · rw [if_pos e2]; omega
        · rw [if_neg e2]; omega
      have h4 := Nat.mul_le_mul_right (10 ^ n) h3
      rw [Nat.pow_succ, Nat.mul_comm (10 ^ n) 10, ← Nat.mul_assoc]
      omega
theorem fld_lt {A : Ho} {i a b w : Nat} (hab : b < a + 6) (e : fld A i a b = some w) : w < 1000000 := by
  have h1 := fldF_lt (fun c => rdN_le _) _ _ _ _ e
  have h2 : 10 ^ (b + 1 - a) ≤ 10 ^ 6 := Nat.pow_le_pow_right (by decide) (by omega)
  omega
theorem c_fieldOf {h : Hp} {A : Ho} {q i a b : Nat} (ok : HoOk q A) (rc : RcH h 3 A) (hi : i < oN A) (hab : a ≤ b + 1) (hb : b < 8) : F_X2_fieldOf h 3 (nI i) (nI a) (nI b) = some (oI (fld A i a b)) := by
  have key : ∀ n c v, c + n = b + 1 → iterW (fun s : Int32 × Int32 => B_X2_fieldOf_6 h 3 (nI i) (nI b) s.1 s.2) (nI v, nI c) = some (oI (fldF (fun c => rdN (oH A i c)) n c v)) := by
    intro n
    induction n with
    | zero =>
      intro c v e
      refine iterW_end ?_
      show B_X2_fieldOf_6 _ _ _ _ _ _ = _
      unfold B_X2_fieldOf_6
      simp (disch := omega) only [↓m1_n, li_n, li_0, li_1, lt_y, lt_n, le_y, le_n, eq_n, nL, nLe, nEq, nEm, mEn, nLm, mLn, nLem, mLen, nI_add, nI_mul, nI_sub, nI_m, ib_nI, nx_nI, gd_tt, bnd_eq, Option.bind_some, ↓reduceIte, hI_uI_o, hI_uI_s, hI_uI_e, hL_uI, hI_uL, hL_uL_o, hL_uL_s, hL_uL_e, and1_a, and1_b, Bool.not_true, Bool.not_false, Nat.zero_add, Nat.add_zero, Nat.add_sub_cancel, eq_self, ne_b, g0_0, g0_1, g0_2, g0_3, g0_4, g0_5, g0_6, g0_7, g0_8, g0_9, n1, n2, g3_2, g3_3, g3_4, g3_5, g3_6, g3_7, g3_8, g3_9, n4, n5, n6, n7, n8, n9, g10_2, g10_3, g10_4, g10_5, n11, n12, n13, n14, g15_2, g15_3, g15_4, g15_5, n16, n17, n18, n19, g40_0, g40_1, g40_2, g44_0, g44_2, g44_3, g44_5, g44_6, g44_10, g51_3, g51_4, g51_5, g51_6, g51_7, g57_3, g57_4, g57_5, g57_6, g57_7, n120, n121, g122_0, g122_4, g122_5, g122_6, g122_7, g122_8, g122_18, g122_19, g122_20, g122_21, g122_24, g122_25, g122_28, g122_29, g122_31, g122_32, g122_33, g122_39, g122_40, g122_41, g122_45, g122_46, g122_47, g122_48, n123, n124, n125, n126, n127, n128, n129, n130, n131, n132, n133, n134, n135, n136, n137, n138, n139, n140, n141, n142, n143, n144, n145, n146]
      rfl
    | succ n ih =>
      intro c v e
      rw [iterW_one]
      show (B_X2_fieldOf_6 _ _ _ _ _ _).bind _ = _
      have hr := rdN_le (oH A i c)
      unfold B_X2_fieldOf_6 fldF
      simp (disch := omega) only [↓m1_n, li_n, li_0, li_1, lt_y, lt_n, le_y, le_n, eq_n, nL, nLe, nEq, nEm, mEn, nLm, mLn, nLem, mLen, nI_add, nI_mul, nI_sub, nI_m, ib_nI, nx_nI, gd_tt, bnd_eq, Option.bind_some, ↓reduceIte, hI_uI_o, hI_uI_s, hI_uI_e, hL_uI, hI_uL, hL_uL_o, hL_uL_s, hL_uL_e, and1_a, and1_b, Bool.not_true, Bool.not_false, Nat.zero_add, Nat.add_zero, Nat.add_sub_cancel, eq_self, ne_b, g0_0, g0_1, g0_2, g0_3, g0_4, g0_5, g0_6, g0_7, g0_8, g0_9, n1, n2, g3_2, g3_3, g3_4, g3_5, g3_6, g3_7, g3_8, g3_9, n4, n5, n6, n7, n8, n9, g10_2, g10_3, g10_4, g10_5, n11, n12, n13, n14, g15_2, g15_3, g15_4, g15_5, n16, n17, n18, n19, g40_0, g40_1, g40_2, g44_0, g44_2, g44_3, g44_5, g44_6, g44_10, g51_3, g51_4, g51_5, g51_6, g51_7, g57_3, g57_4, g57_5, g57_6, g57_7, n120, n121, g122_0, g122_4, g122_5, g122_6, g122_7, g122_8, g122_18, g122_19, g122_20, g122_21, g122_24, g122_25, g122_28, g122_29, g122_31, g122_32, g122_33, g122_39, g122_40, g122_41, g122_45, g122_46, g122_47, g122_48, n123, n124, n125, n126, n127, n128, n129, n130, n131, n132, n133, n134, n135, n136, n137, n138, n139, n140, n141, n142, n143, n144, n145, n146, c_reading ok rc]
      by_cases e1 : rdN (oH A i c) = 11
      · rw [if_pos e1, if_pos e1]
        rfl
      · rw [if_neg e1, if_neg e1]
        by_cases e2 : rdN (oH A i c) = 10
        · rw [if_pos e2, if_pos e2]
          exact ih _ _ (by omega)
        · rw [if_neg e2, if_neg e2]
          exact ih _ _ (by omega)
  exact key (b + 1 - a) a 0 (by omega)
theorem m_numberOf {h : Hp} {A : Ho} {q i a b : Nat} (ok : HoOk q A) (rm : RmH h 0 A) (hi : i < oN A) (hab : a ≤ b + 1) (hb : b < 8) : F_X12_numberOf h 122 (nI i) (nI a) (nI b) = some (oI (fld A i a b)) := by
  have key : ∀ n c v, c + n = b + 1 → iterW (fun s : Int32 × Int32 => B_X12_numberOf_6 h 122 (nI i) (nI b) s.1 s.2) (nI v, nI c) = some (oI (fldF (fun c => rdN (oH A i c)) n c v)) := by
    intro n
    induction n with
    | zero =>
      intro c v e
      refine iterW_end ?_
      show B_X12_numberOf_6 _ _ _ _ _ _ = _
      unfold B_X12_numberOf_6
      simp (disch := omega) only [↓m1_n, li_n, li_0, li_1, lt_y, lt_n, le_y, le_n, eq_n, nL, nLe, nEq, nEm, mEn, nLm, mLn, nLem, mLen, nI_add, nI_mul, nI_sub, nI_m, ib_nI, nx_nI, gd_tt, bnd_eq, Option.bind_some, ↓reduceIte, hI_uI_o, hI_uI_s, hI_uI_e, hL_uI, hI_uL, hL_uL_o, hL_uL_s, hL_uL_e, and1_a, and1_b, Bool.not_true, Bool.not_false, Nat.zero_add, Nat.add_zero, Nat.add_sub_cancel, eq_self, ne_b, g0_0, g0_1, g0_2, g0_3, g0_4, g0_5, g0_6, g0_7, g0_8, g0_9, n1, n2, g3_2, g3_3, g3_4, g3_5, g3_6, g3_7, g3_8, g3_9, n4, n5, n6, n7, n8, n9, g10_2, g10_3, g10_4, g10_5, n11, n12, n13, n14, g15_2, g15_3, g15_4, g15_5, n16, n17, n18, n19, g40_0, g40_1, g40_2, g44_0, g44_2, g44_3, g44_5, g44_6, g44_10, g51_3, g51_4, g51_5, g51_6, g51_7, g57_3, g57_4, g57_5, g57_6, g57_7, n120, n121, g122_0, g122_4, g122_5, g122_6, g122_7, g122_8, g122_18, g122_19, g122_20, g122_21, g122_24, g122_25, g122_28, g122_29, g122_31, g122_32, g122_33, g122_39, g122_40, g122_41, g122_45, g122_46, g122_47, g122_48, n123, n124, n125, n126, n127, n128, n129, n130, n131, n132, n133, n134, n135, n136, n137, n138, n139, n140, n141, n142, n143, n144, n145, n146]
      rfl
    | succ n ih =>
      intro c v e
      rw [iterW_one]
      show (B_X12_numberOf_6 _ _ _ _ _ _).bind _ = _
      have hr := rdN_le (oH A i c)
      unfold B_X12_numberOf_6 fldF
      simp (disch := omega) only [↓m1_n, li_n, li_0, li_1, lt_y, lt_n, le_y, le_n, eq_n, nL, nLe, nEq, nEm, mEn, nLm, mLn, nLem, mLen, nI_add, nI_mul, nI_sub, nI_m, ib_nI, nx_nI, gd_tt, bnd_eq, Option.bind_some, ↓reduceIte, hI_uI_o, hI_uI_s, hI_uI_e, hL_uI, hI_uL, hL_uL_o, hL_uL_s, hL_uL_e, and1_a, and1_b, Bool.not_true, Bool.not_false, Nat.zero_add, Nat.add_zero, Nat.add_sub_cancel, eq_self, ne_b, g0_0, g0_1, g0_2, g0_3, g0_4, g0_5, g0_6, g0_7, g0_8, g0_9, n1, n2, g3_2, g3_3, g3_4, g3_5, g3_6, g3_7, g3_8, g3_9, n4, n5, n6, n7, n8, n9, g10_2, g10_3, g10_4, g10_5, n11, n12, n13, n14, g15_2, g15_3, g15_4, g15_5, n16, n17, n18, n19, g40_0, g40_1, g40_2, g44_0, g44_2, g44_3, g44_5, g44_6, g44_10, g51_3, g51_4, g51_5, g51_6, g51_7, g57_3, g57_4, g57_5, g57_6, g57_7, n120, n121, g122_0, g122_4, g122_5, g122_6, g122_7, g122_8, g122_18, g122_19, g122_20, g122_21, g122_24, g122_25, g122_28, g122_29, g122_31, g122_32, g122_33, g122_39, g122_40, g122_41, g122_45, g122_46, g122_47, g122_48, n123, n124, n125, n126, n127, n128, n129, n130, n131, n132, n133, n134, n135, n136, n137, n138, n139, n140, n141, n142, n143, n144, n145, n146, m_reads ok rm]
      rw [Nat.mul_comm 10 v]
      by_cases e1 : rdN (oH A i c) = 11
      · rw [if_pos e1, if_pos e1]
        rfl
      · rw [if_neg e1, if_neg e1]
        by_cases e2 : rdN (oH A i c) = 10
        · rw [if_pos e2, if_pos e2]
          exact ih _ _ (by omega)
        · rw [if_neg e2, if_neg e2]
          exact ih _ _ (by omega)
  exact key (b + 1 - a) a 0 (by omega)
theorem op_field (q : Nat) (h : Hp) (x y z : Int32) (_ : q < 512) (i : Inv q h) : ∃ h1 h2 r, F_X11_field h 0 x y z = some (h1, r) ∧ F_X12_field h1 122 x y z = some (h2, r) ∧ Inv (q + 1) h2 := by
  obtain ⟨A, m, Mk, ok, rc, rm, -⟩ := id i.1
  have hn := ok.1
  refine Ask.go (f := fun h => F_X11_field h 0 x y z) (g := fun h => F_X12_field h 122 x y z) i ?_
  show Ask h (F_X11_field h 0 x y z) _
  unfold F_X11_field F_X12_field
  rw [g0_2]
  rcases p_card ok rc rm x with ⟨e1, e2⟩ | ⟨⟨c, hc, rfl⟩, e1, e2⟩
  · exact ⟨(1, -1), by rw [e1]; rfl, fun h' u => by dsimp only; rw [e2 h' u]; rfl⟩
  rcases p_field (h := h) y z with ⟨d1, d2⟩ | ⟨⟨a, b, hab, hb, hab6, rfl, rfl⟩, d1, d2⟩
  · exact ⟨(1, -1), by rw [e1, d1]; rfl, fun h' u => by dsimp only; rw [e2 h' u, d2 h' u]; rfl⟩
  cases ef : fld A c a b with
  | none => exact ⟨(6, -1), by simp (disch := omega) only [↓m1_n, li_n, li_0, li_1, lt_y, lt_n, le_y, le_n, eq_n, nL, nLe, nEq, nEm, mEn, nLm, mLn, nLem, mLen, nI_add, nI_mul, nI_sub, nI_m, ib_nI, nx_nI, gd_tt, bnd_eq, Option.bind_some, ↓reduceIte, hI_uI_o, hI_uI_s, hI_uI_e, hL_uI, hI_uL, hL_uL_o, hL_uL_s, hL_uL_e, and1_a, and1_b, Bool.not_true, Bool.not_false, Nat.zero_add, Nat.add_zero, Nat.add_sub_cancel, eq_self, ne_b, g0_0, g0_1, g0_2, g0_3, g0_4, g0_5, g0_6, g0_7, g0_8, g0_9, n1, n2, g3_2, g3_3, g3_4, g3_5, g3_6, g3_7, g3_8, g3_9, n4, n5, n6, n7, n8, n9, g10_2, g10_3, g10_4, g10_5, n11, n12, n13, n14, g15_2, g15_3, g15_4, g15_5, n16, n17, n18, n19, g40_0, g40_1, g40_2, g44_0, g44_2, g44_3, g44_5, g44_6, g44_10, g51_3, g51_4, g51_5, g51_6, g51_7, g57_3, g57_4, g57_5, g57_6, g57_7, n120, n121, g122_0, g122_4, g122_5, g122_6, g122_7, g122_8, g122_18, g122_19, g122_20, g122_21, g122_24, g122_25, g122_28, g122_29, g122_31, g122_32, g122_33, g122_39, g122_40, g122_41, g122_45, g122_46, g122_47, g122_48, n123, n124, n125, n126, n127, n128, n129, n130, n131, n132, n133, n134, n135, n136, n137, n138, n139, n140, n141, n142, n143, n144, n145, n146, e1, d1, c_fieldOf ok rc, ef, oI_none] <;> rfl, fun h' u => by simp (disch := omega) only [↓m1_n, li_n, li_0, li_1, lt_y, lt_n, le_y, le_n, eq_n, nL, nLe, nEq, nEm, mEn, nLm, mLn, nLem, mLen, nI_add, nI_mul, nI_sub, nI_m, ib_nI, nx_nI, gd_tt, bnd_eq, Option.bind_some, ↓reduceIte, hI_uI_o, hI_uI_s, hI_uI_e, hL_uI, hI_uL, hL_uL_o, hL_uL_s, hL_uL_e, and1_a, and1_b, Bool.not_true, Bool.not_false, Nat.zero_add, Nat.add_zero, Nat.add_sub_cancel, eq_self, ne_b, g0_0, g0_1, g0_2, g0_3, g0_4, g0_5, g0_6, g0_7, g0_8, g0_9, n1, n2, g3_2, g3_3, g3_4, g3_5, g3_6, g3_7, g3_8, g3_9, n4, n5, n6, n7, n8, n9, g10_2, g10_3, g10_4, g10_5, n11, n12, n13, n14, g15_2, g15_3, g15_4, g15_5, n16, n17, n18, n19, g40_0, g40_1, g40_2, g44_0, g44_2, g44_3, g44_5, g44_6, g44_10, g51_3, g51_4, g51_5, g51_6, g51_7, g57_3, g57_4, g57_5, g57_6, g57_7, n120, n121, g122_0, g122_4, g122_5, g122_6, g122_7, g122_8, g122_18, g122_19, g122_20, g122_21, g122_24, g122_25, g122_28, g122_29, g122_31, g122_32, g122_33, g122_39, g122_40, g122_41, g122_45, g122_46, g122_47, g122_48, n123, n124, n125, n126, n127, n128, n129, n130, n131, n132, n133, n134, n135, n136, n137, n138, n139, n140, n141, n142, n143, n144, n145, n146, e2 h' u, d2 h' u, m_numberOf ok (u.rm rm), ef, oI_none] <;> rfl⟩
  | some w =>
    have hw := fld_lt hab6 ef
    exact ⟨(0, nI w), by simp (disch := omega) only [↓m1_n, li_n, li_0, li_1, lt_y, lt_n, le_y, le_n, eq_n, nL, nLe, nEq, nEm, mEn, nLm, mLn, nLem, mLen, nI_add, nI_mul, nI_sub, nI_m, ib_nI, nx_nI, gd_tt, bnd_eq, Option.bind_some, ↓reduceIte, hI_uI_o, hI_uI_s, hI_uI_e, hL_uI, hI_uL, hL_uL_o, hL_uL_s, hL_uL_e, and1_a, and1_b, Bool.not_true, Bool.not_false, Nat.zero_add, Nat.add_zero, Nat.add_sub_cancel, eq_self, ne_b, g0_0, g0_1, g0_2, g0_3, g0_4, g0_5, g0_6, g0_7, g0_8, g0_9, n1, n2, g3_2, g3_3, g3_4, g3_5, g3_6, g3_7, g3_8, g3_9, n4, n5, n6, n7, n8, n9, g10_2, g10_3, g10_4, g10_5, n11, n12, n13, n14, g15_2, g15_3, g15_4, g15_5, n16, n17, n18, n19, g40_0, g40_1, g40_2, g44_0, g44_2, g44_3, g44_5, g44_6, g44_10, g51_3, g51_4, g51_5, g51_6, g51_7, g57_3, g57_4, g57_5, g57_6, g57_7, n120, n121, g122_0, g122_4, g122_5, g122_6, g122_7, g122_8, g122_18, g122_19, g122_20, g122_21, g122_24, g122_25, g122_28, g122_29, g122_31, g122_32, g122_33, g122_39, g122_40, g122_41, g122_45, g122_46, g122_47, g122_48, n123, n124, n125, n126, n127, n128, n129, n130, n131, n132, n133, n134, n135, n136, n137, n138, n139, n140, n141, n142, n143, n144, n145, n146, e1, d1, c_fieldOf ok rc, ef, oI_some] <;> rfl, fun h' u => by simp (disch := omega) only [↓m1_n, li_n, li_0, li_1, lt_y, lt_n, le_y, le_n, eq_n, nL, nLe, nEq, nEm, mEn, nLm, mLn, nLem, mLen, nI_add, nI_mul, nI_sub, nI_m, ib_nI, nx_nI, gd_tt, bnd_eq, Option.bind_some, ↓reduceIte, hI_uI_o, hI_uI_s, hI_uI_e, hL_uI, hI_uL, hL_uL_o, hL_uL_s, hL_uL_e, and1_a, and1_b, Bool.not_true, Bool.not_false, Nat.zero_add, Nat.add_zero, Nat.add_sub_cancel, eq_self, ne_b, g0_0, g0_1, g0_2, g0_3, g0_4, g0_5, g0_6, g0_7, g0_8, g0_9, n1, n2, g3_2, g3_3, g3_4, g3_5, g3_6, g3_7, g3_8, g3_9, n4, n5, n6, n7, n8, n9, g10_2, g10_3, g10_4, g10_5, n11, n12, n13, n14, g15_2, g15_3, g15_4, g15_5, n16, n17, n18, n19, g40_0, g40_1, g40_2, g44_0, g44_2, g44_3, g44_5, g44_6, g44_10, g51_3, g51_4, g51_5, g51_6, g51_7, g57_3, g57_4, g57_5, g57_6, g57_7, n120, n121, g122_0, g122_4, g122_5, g122_6, g122_7, g122_8, g122_18, g122_19, g122_20, g122_21, g122_24, g122_25, g122_28, g122_29, g122_31, g122_32, g122_33, g122_39, g122_40, g122_41, g122_45, g122_46, g122_47, g122_48, n123, n124, n125, n126, n127, n128, n129, n130, n131, n132, n133, n134, n135, n136, n137, n138, n139, n140, n141, n142, n143, n144, n145, n146, e2 h' u, d2 h' u, m_numberOf ok (u.rm rm), ef, oI_some] <;> rfl⟩
/-! ===== sums ===== -/
def fv (A : Ho) (i a b : Nat) : Nat := (fld A i a b).getD 0
theorem fv_lt {A : Ho} {i a b : Nat} (hab : b < a + 6) : fv A i a b < 1000000 := by
  unfold fv
  cases e : fld A i a b with
  | none => decide
  | some w => exact fld_lt hab e
theorem fv_max {A : Ho} {i a b : Nat} (hab : b < a + 6) : (if (0 : Int32) < oI (fld A i a b) then oI (fld A i a b) else 0) = nI (fv A i a b) := by
  unfold fv
  cases e : fld A i a b with
  | none => rfl
  | some w =>
    have := fld_lt hab e
    rw [oI_some]
    by_cases w0 : w = 0
    · subst w0
      rfl
    · rw [if_pos (show (0 : Int32) < nI w from nI_lt (a := 0) (b := w) (by omega) (by omega))]
      rfl
def wsm (A : Ho) (a b : Nat) : Nat → Nat
  | 0 => 0
  | n + 1 => wsm A a b n + fv A n a b
theorem wsm_le {A : Ho} {a b : Nat} (hab : b < a + 6) : ∀ n, wsm A a b n ≤ 999999 * n := by
  intro n
  induction n with
  | zero => exact Nat.le_refl _
  | succ n ih =>
    have := fv_lt (A := A) (i := n) hab
    show wsm A a b n + fv A n a b ≤ _
    omega
theorem c_wholeSum {h : Hp} {A : Ho} {q a b : Nat} (ok : HoOk q A) (rc : RcH h 3 A) (hab : a ≤ b) (hb : b < 8) (h6 : b < a + 6) : F_X2_wholeSum h 3 (nI a) (nI b) = some (nI (wsm A a b (oN A))) := by
  have hn := ok.1
  refine iterW_for (fun j => (nI (wsm A a b j), nI j)) (oN A) (fun j hj => ?_) ?_
  · show B_X2_wholeSum_5 _ _ _ _ _ _ = _
    unfold B_X2_wholeSum_5
    rw [cNn rc, if_neg (nI_ge hj (by omega)), c_fieldOf ok rc hj (by omega) hb, Option.bind_some, bnd_eq, fv_max h6, nI_add, nI_s]
    rfl
  · show B_X2_wholeSum_5 _ _ _ _ _ _ = _
    unfold B_X2_wholeSum_5
    rw [cNn rc, if_pos (Int32.le_refl _)]
theorem m_wholeSum {h : Hp} {A : Ho} {q a b : Nat} (ok : HoOk q A) (rm : RmH h 0 A) (hab : a ≤ b) (hb : b < 8) (h6 : b < a + 6) : F_X12_wholeSum h 122 (nI a) (nI b) = some (nI (wsm A a b (oN A))) := by
  have hn := ok.1
  refine iterW_for (fun j => (nI (wsm A a b j), nI j)) (oN A) (fun j hj => ?_) ?_
  · show B_X12_wholeSum_5 _ _ _ _ _ _ = _
    unfold B_X12_wholeSum_5
    rw [g122_0, n123, gd_on (b := ib 0 4000) (by decide), show hI h 123 (nx 0) = _ from mNc rm, if_neg (nI_ge hj (by omega)), m_numberOf ok rm hj (by omega) hb, Option.bind_some, bnd_eq, fv_max h6, nI_add, nI_s]
    rfl
  · show B_X12_wholeSum_5 _ _ _ _ _ _ = _
    unfold B_X12_wholeSum_5
    rw [g122_0, n123, gd_on (b := ib 0 4000) (by decide), show hI h 123 (nx 0) = _ from mNc rm, if_pos (Int32.le_refl _)]
theorem c_tenTo {h : Hp} {n : Nat} (hn : n ≤ 9) : F_X11_tenTo h (nI n) = some (nI (10 ^ n)) := by
  refine iterW_for (fun j => (nI (10 ^ j), nI j)) n (fun j hj => ?_) ?_
  · show B_X11_tenTo_4 _ _ _ _ = _
    unfold B_X11_tenTo_4
    simp (disch := omega) only [↓m1_n, li_n, li_0, li_1, lt_y, lt_n, le_y, le_n, eq_n, nL, nLe, nEq, nEm, mEn, nLm, mLn, nLem, mLen, nI_add, nI_mul, nI_sub, nI_m, ib_nI, nx_nI, gd_tt, bnd_eq, Option.bind_some, ↓reduceIte, hI_uI_o, hI_uI_s, hI_uI_e, hL_uI, hI_uL, hL_uL_o, hL_uL_s, hL_uL_e, and1_a, and1_b, Bool.not_true, Bool.not_false, Nat.zero_add, Nat.add_zero, Nat.add_sub_cancel, eq_self, ne_b, g0_0, g0_1, g0_2, g0_3, g0_4, g0_5, g0_6, g0_7, g0_8, g0_9, n1, n2, g3_2, g3_3, g3_4, g3_5, g3_6, g3_7, g3_8, g3_9, n4, n5, n6, n7, n8, n9, g10_2, g10_3, g10_4, g10_5, n11, n12, n13, n14, g15_2, g15_3, g15_4, g15_5, n16, n17, n18, n19, g40_0, g40_1, g40_2, g44_0, g44_2, g44_3, g44_5, g44_6, g44_10, g51_3, g51_4, g51_5, g51_6, g51_7, g57_3, g57_4, g57_5, g57_6, g57_7, n120, n121, g122_0, g122_4, g122_5, g122_6, g122_7, g122_8, g122_18, g122_19, g122_20, g122_21, g122_24, g122_25, g122_28, g122_29, g122_31, g122_32, g122_33, g122_39, g122_40, g122_41, g122_45, g122_46, g122_47, g122_48, n123, n124, n125, n126, n127, n128, n129, n130, n131, n132, n133, n134, n135, n136, n137, n138, n139, n140, n141, n142, n143, n144, n145, n146, Nat.pow_succ]
  · show B_X11_tenTo_4 _ _ _ _ = _
    unfold B_X11_tenTo_4
    simp (disch := omega) only [↓m1_n, li_n, li_0, li_1, lt_y, lt_n, le_y, le_n, eq_n, nL, nLe, nEq, nEm, mEn, nLm, mLn, nLem, mLen, nI_add, nI_mul, nI_sub, nI_m, ib_nI, nx_nI, gd_tt, bnd_eq, Option.bind_some, ↓reduceIte, hI_uI_o, hI_uI_s, hI_uI_e, hL_uI, hI_uL, hL_uL_o, hL_uL_s, hL_uL_e, and1_a, and1_b, Bool.not_true, Bool.not_false, Nat.zero_add, Nat.add_zero, Nat.add_sub_cancel, eq_self, ne_b, g0_0, g0_1, g0_2, g0_3, g0_4, g0_5, g0_6, g0_7, g0_8, g0_9, n1, n2, g3_2, g3_3, g3_4, g3_5, g3_6, g3_7, g3_8, g3_9, n4, n5, n6, n7, n8, n9, g10_2, g10_3, g10_4, g10_5, n11, n12, n13, n14, g15_2, g15_3, g15_4, g15_5, n16, n17, n18, n19, g40_0, g40_1, g40_2, g44_0, g44_2, g44_3, g44_5, g44_6, g44_10, g51_3, g51_4, g51_5, g51_6, g51_7, g57_3, g57_4, g57_5, g57_6, g57_7, n120, n121, g122_0, g122_4, g122_5, g122_6, g122_7, g122_8, g122_18, g122_19, g122_20, g122_21, g122_24, g122_25, g122_28, g122_29, g122_31, g122_32, g122_33, g122_39, g122_40, g122_41, g122_45, g122_46, g122_47, g122_48, n123, n124, n125, n126, n127, n128, n129, n130, n131, n132, n133, n134, n135, n136, n137, n138, n139, n140, n141, n142, n143, n144, n145, n146]
theorem m_tens {h : Hp} {n : Nat} (hn : n ≤ 9) : F_X12_tens h (nI n) = some (nI (10 ^ n)) := by
  refine iterW_for (fun j => (nI (10 ^ j), nI j)) n (fun j hj => ?_) ?_
  · show B_X12_tens_4 _ _ _ _ = _
    unfold B_X12_tens_4
    simp (disch := omega) only [↓m1_n, li_n, li_0, li_1, lt_y, lt_n, le_y, le_n, eq_n, nL, nLe, nEq, nEm, mEn, nLm, mLn, nLem, mLen, nI_add, nI_mul, nI_sub, nI_m, ib_nI, nx_nI, gd_tt, bnd_eq, Option.bind_some, ↓reduceIte, hI_uI_o, hI_uI_s, hI_uI_e, hL_uI, hI_uL, hL_uL_o, hL_uL_s, hL_uL_e, and1_a, and1_b, Bool.not_true, Bool.not_false, Nat.zero_add, Nat.add_zero, Nat.add_sub_cancel, eq_self, ne_b, g0_0, g0_1, g0_2, g0_3, g0_4, g0_5, g0_6, g0_7, g0_8, g0_9, n1, n2, g3_2, g3_3, g3_4, g3_5, g3_6, g3_7, g3_8, g3_9, n4, n5, n6, n7, n8, n9, g10_2, g10_3, g10_4, g10_5, n11, n12, n13, n14, g15_2, g15_3, g15_4, g15_5, n16, n17, n18, n19, g40_0, g40_1, g40_2, g44_0, g44_2, g44_3, g44_5, g44_6, g44_10, g51_3, g51_4, g51_5, g51_6, g51_7, g57_3, g57_4, g57_5, g57_6, g57_7, n120, n121, g122_0, g122_4, g122_5, g122_6, g122_7, g122_8, g122_18, g122_19, g122_20, g122_21, g122_24, g122_25, g122_28, g122_29, g122_31, g122_32, g122_33, g122_39, g122_40, g122_41, g122_45, g122_46, g122_47, g122_48, n123, n124, n125, n126, n127, n128, n129, n130, n131, n132, n133, n134, n135, n136, n137, n138, n139, n140, n141, n142, n143, n144, n145, n146, Nat.pow_succ]
  · show B_X12_tens_4 _ _ _ _ = _
    unfold B_X12_tens_4
    simp (disch := omega) only [↓m1_n, li_n, li_0, li_1, lt_y, lt_n, le_y, le_n, eq_n, nL, nLe, nEq, nEm, mEn, nLm, mLn, nLem, mLen, nI_add, nI_mul, nI_sub, nI_m, ib_nI, nx_nI, gd_tt, bnd_eq, Option.bind_some, ↓reduceIte, hI_uI_o, hI_uI_s, hI_uI_e, hL_uI, hI_uL, hL_uL_o, hL_uL_s, hL_uL_e, and1_a, and1_b, Bool.not_true, Bool.not_false, Nat.zero_add, Nat.add_zero, Nat.add_sub_cancel, eq_self, ne_b, g0_0, g0_1, g0_2, g0_3, g0_4, g0_5, g0_6, g0_7, g0_8, g0_9, n1, n2, g3_2, g3_3, g3_4, g3_5, g3_6, g3_7, g3_8, g3_9, n4, n5, n6, n7, n8, n9, g10_2, g10_3, g10_4, g10_5, n11, n12, n13, n14, g15_2, g15_3, g15_4, g15_5, n16, n17, n18, n19, g40_0, g40_1, g40_2, g44_0, g44_2, g44_3, g44_5, g44_6, g44_10, g51_3, g51_4, g51_5, g51_6, g51_7, g57_3, g57_4, g57_5, g57_6, g57_7, n120, n121, g122_0, g122_4, g122_5, g122_6, g122_7, g122_8, g122_18, g122_19, g122_20, g122_21, g122_24, g122_25, g122_28, g122_29, g122_31, g122_32, g122_33, g122_39, g122_40, g122_41, g122_45, g122_46, g122_47, g122_48, n123, n124, n125, n126, n127, n128, n129, n130, n131, n132, n133, n134, n135, n136, n137, n138, n139, n140, n141, n142, n143, n144, n145, n146]
theorem p_wheel {h : Hp} (a : Int32) : (F_X11_isWheel h a = some 0 ∧ ∀ h', Up h h' → F_X12_isWheel h' a = some 0) ∨ ((∃ n, 1 ≤ n ∧ n ≤ 9 ∧ a = nI n) ∧ F_X11_isWheel h a = some 1 ∧ ∀ h', Up h h' → F_X12_isWheel h' a = some 1) := by
  unfold F_X11_isWheel F_X12_isWheel
  by_cases a1 : a < 1
  · exact Or.inl ⟨by rw [if_pos a1], fun h' _ => by rw [if_pos a1]⟩
  · by_cases a9 : 9 < a
    · exact Or.inl ⟨by rw [if_pos a9, ite_self], fun h' _ => by rw [if_pos a9, ite_self]⟩
    · have a0 : ¬ a < 0 := fun x => a1 (Int32.lt_trans x (by decide))
      obtain ⟨n, hn, rfl⟩ := nI_of a0
      have h1 : ¬ n < 1 := fun x => a1 ((nI_ltI (b := 1) hn (by decide)).mpr x)
      have h9 : ¬ 9 < n := fun x => a9 ((nI_ltI (a := 9) (by decide) hn).mpr x)
      exact Or.inr ⟨⟨n, by omega, by omega, rfl⟩, by rw [if_neg a1, if_neg a9], fun h' _ => by rw [if_neg a1, if_neg a9]⟩
theorem pw9 {n : Nat} (hn : n ≤ 9) : 10 ^ n < 2147483648 ∧ 10 ^ n ≠ 0 ∧ 1 ≤ 10 ^ n := by
  have : 10 ^ n ≤ 10 ^ 9 := Nat.pow_le_pow_right (by decide) hn
  have h0 : 0 < 10 ^ n := Nat.pow_pos (by decide)
  omega
/-- the answer and status of a call that only asks, the remaining arguments from lo to hi -/
theorem b01 (b : Int32) : (b < 0 ∨ (¬ b < 0 ∧ ¬ b ≤ 1)) ∨ b = nI 0 ∨ b = nI 1 := by
  rcases nI_cases b (n := 2) (by decide) with (p | p) | ⟨k, hk, rfl⟩
  · exact Or.inl (Or.inl p)
  · exact Or.inl (Or.inr ⟨Int32.not_lt.mpr (Int32.le_trans (by decide) p), fun x => absurd (Int32.le_trans p x) (by decide)⟩)
  · have : k = 0 ∨ k = 1 := by omega
    rcases this with rfl | rfl
    · exact Or.inr (Or.inl rfl)
    · exact Or.inr (Or.inr rfl)
theorem op_sum (q : Nat) (h : Hp) (x y z w : Int32) (_ : q < 512) (i : Inv q h) : ∃ h1 h2 r, F_X11_sum h 0 x y z w = some (h1, r) ∧ F_X12_sum h1 122 x y z w = some (h2, r) ∧ Inv (q + 1) h2 := by
  obtain ⟨A, m, Mk, ok, rc, rm, -⟩ := id i.1
  have hn := ok.1
  refine Ask.go (f := fun h => F_X11_sum h 0 x y z w) (g := fun h => F_X12_sum h 122 x y z w) i ?_
  show Ask h (F_X11_sum h 0 x y z w) _
  unfold F_X11_sum F_X12_sum
  rw [g0_2]
  rcases p_field (h := h) x y with ⟨d1, d2⟩ | ⟨⟨a, b, hab, hb, hab6, rfl, rfl⟩, d1, d2⟩
  · exact ⟨(1, -1), by rw [d1]; rfl, fun h' u => by dsimp only; rw [d2 h' u]; rfl⟩
  rcases p_wheel (h := h) z with ⟨e1, e2⟩ | ⟨⟨n, n1, n9, rfl⟩, e1, e2⟩
  · exact ⟨(1, -1), by rw [d1, e1]; rfl, fun h' u => by dsimp only; rw [d2 h' u, e2 h' u]; rfl⟩
  have hp := pw9 n9
  rcases b01 w with p | rfl | rfl
  · refine ⟨(1, -1), ?_, fun h' u => ?_⟩
    · rw [d1, e1]
      rcases p with p | ⟨p1, p2⟩
      · simp only [Option.bind_some, if_pos p]; rfl
      · simp only [Option.bind_some, if_neg p1, if_neg p2]; rfl
    · dsimp only
      rw [d2 h' u, e2 h' u]
      rcases p with p | ⟨p1, p2⟩
      · simp only [Option.bind_some, if_pos p]; rfl
      · simp only [Option.bind_some, if_neg p1, if_neg p2]; rfl
  · exact ⟨(0, _), by simp (disch := omega) only [↓m1_n, li_n, li_0, li_1, lt_y, lt_n, le_y, le_n, eq_n, nL, nLe, nEq, nEm, mEn, nLm, mLn, nLem, mLen, nI_add, nI_mul, nI_sub, nI_m, ib_nI, nx_nI, gd_tt, bnd_eq, Option.bind_some, ↓reduceIte, hI_uI_o, hI_uI_s, hI_uI_e, hL_uI, hI_uL, hL_uL_o, hL_uL_s, hL_uL_e, and1_a, and1_b, Bool.not_true, Bool.not_false, Nat.zero_add, Nat.add_zero, Nat.add_sub_cancel, eq_self, ne_b, g0_0, g0_1, g0_2, g0_3, g0_4, g0_5, g0_6, g0_7, g0_8, g0_9, n1, n2, g3_2, g3_3, g3_4, g3_5, g3_6, g3_7, g3_8, g3_9, n4, n5, n6, n7, n8, n9, g10_2, g10_3, g10_4, g10_5, n11, n12, n13, n14, g15_2, g15_3, g15_4, g15_5, n16, n17, n18, n19, g40_0, g40_1, g40_2, g44_0, g44_2, g44_3, g44_5, g44_6, g44_10, g51_3, g51_4, g51_5, g51_6, g51_7, g57_3, g57_4, g57_5, g57_6, g57_7, n120, n121, g122_0, g122_4, g122_5, g122_6, g122_7, g122_8, g122_18, g122_19, g122_20, g122_21, g122_24, g122_25, g122_28, g122_29, g122_31, g122_32, g122_33, g122_39, g122_40, g122_41, g122_45, g122_46, g122_47, g122_48, n123, n124, n125, n126, n127, n128, n129, n130, n131, n132, n133, n134, n135, n136, n137, n138, n139, n140, n141, n142, n143, n144, n145, n146, d1, e1, c_wholeSum ok rc, c_tenTo] <;> rfl, fun h' u => by simp (disch := omega) only [↓m1_n, li_n, li_0, li_1, lt_y, lt_n, le_y, le_n, eq_n, nL, nLe, nEq, nEm, mEn, nLm, mLn, nLem, mLen, nI_add, nI_mul, nI_sub, nI_m, ib_nI, nx_nI, gd_tt, bnd_eq, Option.bind_some, ↓reduceIte, hI_uI_o, hI_uI_s, hI_uI_e, hL_uI, hI_uL, hL_uL_o, hL_uL_s, hL_uL_e, and1_a, and1_b, Bool.not_true, Bool.not_false, Nat.zero_add, Nat.add_zero, Nat.add_sub_cancel, eq_self, ne_b, g0_0, g0_1, g0_2, g0_3, g0_4, g0_5, g0_6, g0_7, g0_8, g0_9, n1, n2, g3_2, g3_3, g3_4, g3_5, g3_6, g3_7, g3_8, g3_9, n4, n5, n6, n7, n8, n9, g10_2, g10_3, g10_4, g10_5, n11, n12, n13, n14, g15_2, g15_3, g15_4, g15_5, n16, n17, n18, n19, g40_0, g40_1, g40_2, g44_0, g44_2, g44_3, g44_5, g44_6, g44_10, g51_3, g51_4, g51_5, g51_6, g51_7, g57_3, g57_4, g57_5, g57_6, g57_7, n120, n121, g122_0, g122_4, g122_5, g122_6, g122_7, g122_8, g122_18, g122_19, g122_20, g122_21, g122_24, g122_25, g122_28, g122_29, g122_31, g122_32, g122_33, g122_39, g122_40, g122_41, g122_45, g122_46, g122_47, g122_48, n123, n124, n125, n126, n127, n128, n129, n130, n131, n132, n133, n134, n135, n136, n137, n138, n139, n140, n141, n142, n143, n144, n145, n146, d2 h' u, e2 h' u, m_wholeSum ok (u.rm rm), m_tens] <;> rfl⟩
  · exact ⟨(0, _), by simp (disch := omega) only [↓m1_n, li_n, li_0, li_1, lt_y, lt_n, le_y, le_n, eq_n, nL, nLe, nEq, nEm, mEn, nLm, mLn, nLem, mLen, nI_add, nI_mul, nI_sub, nI_m, ib_nI, nx_nI, gd_tt, bnd_eq, Option.bind_some, ↓reduceIte, hI_uI_o, hI_uI_s, hI_uI_e, hL_uI, hI_uL, hL_uL_o, hL_uL_s, hL_uL_e, and1_a, and1_b, Bool.not_true, Bool.not_false, Nat.zero_add, Nat.add_zero, Nat.add_sub_cancel, eq_self, ne_b, g0_0, g0_1, g0_2, g0_3, g0_4, g0_5, g0_6, g0_7, g0_8, g0_9, n1, n2, g3_2, g3_3, g3_4, g3_5, g3_6, g3_7, g3_8, g3_9, n4, n5, n6, n7, n8, n9, g10_2, g10_3, g10_4, g10_5, n11, n12, n13, n14, g15_2, g15_3, g15_4, g15_5, n16, n17, n18, n19, g40_0, g40_1, g40_2, g44_0, g44_2, g44_3, g44_5, g44_6, g44_10, g51_3, g51_4, g51_5, g51_6, g51_7, g57_3, g57_4, g57_5, g57_6, g57_7, n120, n121, g122_0, g122_4, g122_5, g122_6, g122_7, g122_8, g122_18, g122_19, g122_20, g122_21, g122_24, g122_25, g122_28, g122_29, g122_31, g122_32, g122_33, g122_39, g122_40, g122_41, g122_45, g122_46, g122_47, g122_48, n123, n124, n125, n126, n127, n128, n129, n130, n131, n132, n133, n134, n135, n136, n137, n138, n139, n140, n141, n142, n143, n144, n145, n146, d1, e1, c_wholeSum ok rc, c_tenTo] <;> rfl, fun h' u => by simp (disch := omega) only [↓m1_n, li_n, li_0, li_1, lt_y, lt_n, le_y, le_n, eq_n, nL, nLe, nEq, nEm, mEn, nLm, mLn, nLem, mLen, nI_add, nI_mul, nI_sub, nI_m, ib_nI, nx_nI, gd_tt, bnd_eq, Option.bind_some, ↓reduceIte, hI_uI_o, hI_uI_s, hI_uI_e, hL_uI, hI_uL, hL_uL_o, hL_uL_s, hL_uL_e, and1_a, and1_b, Bool.not_true, Bool.not_false, Nat.zero_add, Nat.add_zero, Nat.add_sub_cancel, eq_self, ne_b, g0_0, g0_1, g0_2, g0_3, g0_4, g0_5, g0_6, g0_7, g0_8, g0_9, n1, n2, g3_2, g3_3, g3_4, g3_5, g3_6, g3_7, g3_8, g3_9, n4, n5, n6, n7, n8, n9, g10_2, g10_3, g10_4, g10_5, n11, n12, n13, n14, g15_2, g15_3, g15_4, g15_5, n16, n17, n18, n19, g40_0, g40_1, g40_2, g44_0, g44_2, g44_3, g44_5, g44_6, g44_10, g51_3, g51_4, g51_5, g51_6, g51_7, g57_3, g57_4, g57_5, g57_6, g57_7, n120, n121, g122_0, g122_4, g122_5, g122_6, g122_7, g122_8, g122_18, g122_19, g122_20, g122_21, g122_24, g122_25, g122_28, g122_29, g122_31, g122_32, g122_33, g122_39, g122_40, g122_41, g122_45, g122_46, g122_47, g122_48, n123, n124, n125, n126, n127, n128, n129, n130, n131, n132, n133, n134, n135, n136, n137, n138, n139, n140, n141, n142, n143, n144, n145, n146, d2 h' u, e2 h' u, m_wholeSum ok (u.rm rm), m_tens] <;> rfl⟩
