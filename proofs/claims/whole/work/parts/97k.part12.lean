/-! ===== parts, the call ===== -/
theorem Inv_pa {q : Nat} {h h' : Hp} (a : ∀ d, d ≠ 0 → (d < 57 ∨ 62 < d) → d ≠ 122 → (d < 143 ∨ 146 < d) → hI h' d = hI h d) (b : hL h' = hL h) (e2 : ∀ k, k ≠ 10 → hI h' 0 k = hI h 0 k) (e3 : ∀ k, k ≠ 1 → k ≠ 49 → k ≠ 50 → hI h' 122 k = hI h 122 k) (st : hI h' 122 1 = hI h' 0 10) (ip : Ipa h') (i : Inv q h) : Inv (q + 1) h' := by
  have E : ∀ d, d ≠ 0 → d ≠ 122 → (d < 57 ∨ 62 < d) → (d < 143 ∨ 146 < d) → hI h' d = hI h d ∧ hL h' d = hL h d := fun d p q r s => ⟨a d p r q s, by rw [b]⟩
  obtain ⟨i1, i2, i3, i4, i5, i6, i7, -⟩ := i
  refine ⟨Iho_congr (fun d _ _ => (E d (by omega) (by omega) (by omega) (by omega)).1) (fun d _ _ => (E d (by omega) (by omega) (by omega) (by omega)).1) (E 123 (by decide) (by decide) (by decide) (by decide)).1 (e2 14 (by decide)) (e3 51 (by decide) (by decide) (by decide)) i1.mono, Itr_congr (fun d _ _ => E d (by omega) (by omega) (by omega) (by omega)) (E 124 (by decide) (by decide) (by decide) (by decide)).1 (E 125 (by decide) (by decide) (by decide) (by decide)).1 (E 126 (by decide) (by decide) (by decide) (by decide)).2 i2, Itp_congr (e2 13 (by decide)) (e3 9 (by decide) (by decide) (by decide)) (E 2 (by decide) (by decide) (by decide) (by decide)).1 (E 127 (by decide) (by decide) (by decide) (by decide)).1 i3, ⟨st, ?_, ?_, ?_, ?_⟩, Ipl_congr (E 44 (by decide) (by decide) (by decide) (by decide)).1 (E 50 (by decide) (by decide) (by decide) (by decide)).1 (E 139 (by decide) (by decide) (by decide) (by decide)).1 (e3 34 (by decide) (by decide) (by decide)) (e3 35 (by decide) (by decide) (by decide)) i5, Irn_congr (E 40 (by decide) (by decide) (by decide) (by decide)).1 (E 40 (by decide) (by decide) (by decide) (by decide)).2 (by rw [b]) (e3 37 (by decide) (by decide) (by decide)) (e3 38 (by decide) (by decide) (by decide)) i6, Imi_congr (E 51 (by decide) (by decide) (by decide) (by decide)).1 (E 52 (by decide) (by decide) (by decide) (by decide)).1 (E 141 (by decide) (by decide) (by decide) (by decide)).1 (E 142 (by decide) (by decide) (by decide) (by decide)).1 (e3 42 (by decide) (by decide) (by decide)) (e3 43 (by decide) (by decide) (by decide)) i7, ip⟩
  · rw [b]; exact i4.2.1
  · rw [b]; exact i4.2.2.1
  · rw [e3 15 (by decide) (by decide) (by decide), e2 15 (by decide)]; exact i4.2.2.2.1
  · rw [e3 16 (by decide) (by decide) (by decide), e2 16 (by decide)]; exact i4.2.2.2.2
/-- the reference's parting -/
theorem m_parts {h : Hp} {A : Ho} {q a b : Nat} (ok : HoOk q A) (rm : RmH h 0 A) (hab : a ≤ b) (hb : b < 8) (h6 : b < a + 6) (fi : F_X12_isField h (nI a) (nI b) = some 1) : ∃ h', F_X12_parts h 122 (nI a) (nI b) = some (h', nI (resP A a b)) ∧ hI h' 122 1 = nI 0 ∧ hI h' 122 49 = nI (oN A) ∧ hI h' 122 50 = nI (resP A a b) ∧ (resP A a b ≠ 0 → ∀ k, k < oN A → hI h' 146 (oD A k) = sdV A a b (k + 1)) ∧ (∀ d, d ≠ 122 → (d < 143 ∨ 146 < d) → hI h' d = hI h d) ∧ (∀ k, k ≠ 1 → k ≠ 49 → k ≠ 50 → hI h' 122 k = hI h 122 k) ∧ hL h' = hL h := by
  have hA := ok.1
  have n0 := mNc rm
  obtain ⟨h1, a1, a2, a3, a4⟩ := m_27 ok rm hab hb h6
  have wl := wtP_le (A := A) (a := a) (b := b) hA
  have stop : ∀ hx : Hp, hI hx 122 50 = nI 0 → L_X12_parts_115 hx 122 (nI (oN A)) (nI 0) = some (uI hx 122 1 (nI 0), nI 0) := by
    intro hx e
    refine iterW_end ?_
    show B_X12_parts_115 hx 122 (nI (oN A)) (nI 0) = _
    unfold B_X12_parts_115
    by_cases z : oN A ≤ 0
    · simp (disch := omega) only [↓m1_n, li_n, li_0, li_1, lt_y, lt_n, le_y, le_n, eq_n, nL, nLe, nEq, nEm, mEn, nLm, mLn, nLem, mLen, nI_add, nI_mul, nI_sub, nI_m, ib_nI, nx_nI, gd_y, bnd_e, bind_y, ↓reduceIte, hI_uI_o, hI_uI_s, hI_uI_e, hL_uI, hI_uL, hL_uL_o, hL_uL_s, hL_uL_e, and1_a, and1_b, Bool.not_true, Bool.not_false, Nat.zero_add, Nat.add_zero, Nat.add_sub_cancel, eq_self, ne_b, g0_0, g0_1, g0_2, g0_3, g0_4, g0_5, g0_6, g0_7, g0_8, g0_9, n1, n2, g3_2, g3_3, g3_4, g3_5, g3_6, g3_7, g3_8, g3_9, n4, n5, n6, n7, n8, n9, g10_2, g10_3, g10_4, g10_5, n11, n12, n13, n14, g15_2, g15_3, g15_4, g15_5, n16, n17, n18, n19, g40_0, g40_1, g40_2, g44_0, g44_2, g44_3, g44_5, g44_6, g44_10, g51_3, g51_4, g51_5, g51_6, g51_7, g57_3, g57_4, g57_5, g57_6, g57_7, n120, n121, g122_0, g122_4, g122_5, g122_6, g122_7, g122_8, g122_18, g122_19, g122_20, g122_21, g122_24, g122_25, g122_28, g122_29, g122_31, g122_32, g122_33, g122_39, g122_40, g122_41, g122_45, g122_46, g122_47, g122_48, n123, n124, n125, n126, n127, n128, n129, n130, n131, n132, n133, n134, n135, n136, n137, n138, n139, n140, n141, n142, n143, n144, n145, n146, e, z, F_X12_gives]
    · simp (disch := omega) only [↓m1_n, li_n, li_0, li_1, lt_y, lt_n, le_y, le_n, eq_n, nL, nLe, nEq, nEm, mEn, nLm, mLn, nLem, mLen, nI_add, nI_mul, nI_sub, nI_m, ib_nI, nx_nI, gd_y, bnd_e, bind_y, ↓reduceIte, hI_uI_o, hI_uI_s, hI_uI_e, hL_uI, hI_uL, hL_uL_o, hL_uL_s, hL_uL_e, and1_a, and1_b, Bool.not_true, Bool.not_false, Nat.zero_add, Nat.add_zero, Nat.add_sub_cancel, eq_self, ne_b, g0_0, g0_1, g0_2, g0_3, g0_4, g0_5, g0_6, g0_7, g0_8, g0_9, n1, n2, g3_2, g3_3, g3_4, g3_5, g3_6, g3_7, g3_8, g3_9, n4, n5, n6, n7, n8, n9, g10_2, g10_3, g10_4, g10_5, n11, n12, n13, n14, g15_2, g15_3, g15_4, g15_5, n16, n17, n18, n19, g40_0, g40_1, g40_2, g44_0, g44_2, g44_3, g44_5, g44_6, g44_10, g51_3, g51_4, g51_5, g51_6, g51_7, g57_3, g57_4, g57_5, g57_6, g57_7, n120, n121, g122_0, g122_4, g122_5, g122_6, g122_7, g122_8, g122_18, g122_19, g122_20, g122_21, g122_24, g122_25, g122_28, g122_29, g122_31, g122_32, g122_33, g122_39, g122_40, g122_41, g122_45, g122_46, g122_47, g122_48, n123, n124, n125, n126, n127, n128, n129, n130, n131, n132, n133, n134, n135, n136, n137, n138, n139, n140, n141, n142, n143, n144, n145, n146, e, z, F_X12_gives]
  have fi : F_X12_isField h (nI a) (nI b) = some (nI 1) := fi
  cases g : goodS A a b (oN A) with
  | false =>
    rw [g] at a1
    have e : resP A a b = 0 := by unfold resP; rw [g]; rfl
    rw [e]
    have L := stop (uI (uI h1 122 50 (nI 0)) 122 49 (nI (oN A))) (by rw [hI_uI_s (by decide), hI_uI_e])
    refine ⟨uI (uI (uI h1 122 50 (nI 0)) 122 49 (nI (oN A))) 122 1 (nI 0), ?_, hI_uI_e, by rw [hI_uI_s (by decide), hI_uI_e], by rw [hI_uI_s (by decide), hI_uI_s (by decide), hI_uI_e], fun e => absurd rfl e, fun d p r => by rw [hI_uI_o p, hI_uI_o p, hI_uI_o p, a3 d (by omega)], fun k p r s => by rw [hI_uI_s p, hI_uI_s r, hI_uI_s s, a3 122 (by decide)], a4⟩
    unfold F_X12_parts
    simp (disch := omega) only [↓m1_n, li_n, li_0, li_1, lt_y, lt_n, le_y, le_n, eq_n, nL, nLe, nEq, nEm, mEn, nLm, mLn, nLem, mLen, nI_add, nI_mul, nI_sub, nI_m, ib_nI, nx_nI, gd_y, bnd_e, bind_y, ↓reduceIte, hI_uI_o, hI_uI_s, hI_uI_e, hL_uI, hI_uL, hL_uL_o, hL_uL_s, hL_uL_e, and1_a, and1_b, Bool.not_true, Bool.not_false, Nat.zero_add, Nat.add_zero, Nat.add_sub_cancel, eq_self, ne_b, g0_0, g0_1, g0_2, g0_3, g0_4, g0_5, g0_6, g0_7, g0_8, g0_9, n1, n2, g3_2, g3_3, g3_4, g3_5, g3_6, g3_7, g3_8, g3_9, n4, n5, n6, n7, n8, n9, g10_2, g10_3, g10_4, g10_5, n11, n12, n13, n14, g15_2, g15_3, g15_4, g15_5, n16, n17, n18, n19, g40_0, g40_1, g40_2, g44_0, g44_2, g44_3, g44_5, g44_6, g44_10, g51_3, g51_4, g51_5, g51_6, g51_7, g57_3, g57_4, g57_5, g57_6, g57_7, n120, n121, g122_0, g122_4, g122_5, g122_6, g122_7, g122_8, g122_18, g122_19, g122_20, g122_21, g122_24, g122_25, g122_28, g122_29, g122_31, g122_32, g122_33, g122_39, g122_40, g122_41, g122_45, g122_46, g122_47, g122_48, n123, n124, n125, n126, n127, n128, n129, n130, n131, n132, n133, n134, n135, n136, n137, n138, n139, n140, n141, n142, n143, n144, n145, n146, fi, n0, a1, bI_f, L]
  | true =>
    rw [g] at a1
    have e : resP A a b = wtP A a b := by unfold resP; rw [g]; rfl
    rw [e]
    have rm1 : RmH h1 0 A := RmH_congr (a3 123 (by decide)) rm
    obtain ⟨h2, b1, b2, b3⟩ := m_ways ok (MP_of ok rm1 h6 g a2).1
    rw [show (if oN A = 0 then 1 else wt (a0P A) (a1P A) (ltP A a b) (oN A - 1)) = wtP A a b from rfl] at b1
    generalize hx : uI (uI h2 122 50 (nI (wtP A a b))) 122 49 (nI (oN A)) = h3
    have x50 : hI h3 122 50 = nI (wtP A a b) := by rw [← hx, hI_uI_s (by decide), hI_uI_e]
    have x49 : hI h3 122 49 = nI (oN A) := by rw [← hx, hI_uI_e]
    have xo : ∀ d, d ≠ 122 → d ≠ 144 → d ≠ 145 → hI h3 d = hI h1 d := fun d p r s => by rw [← hx, hI_uI_o p, hI_uI_o p, b2 d r s]
    have xk : ∀ k, k ≠ 49 → k ≠ 50 → hI h3 122 k = hI h 122 k := fun k p r => by rw [← hx, hI_uI_s p, hI_uI_s r, b2 122 (by decide) (by decide), a3 122 (by decide)]
    have xl : hL h3 = hL h := by rw [← hx, hL_uI, hL_uI, b3, a4]
    by_cases t : wtP A a b = 0
    · have L := stop h3 (by rw [x50, t])
      refine ⟨uI h3 122 1 (nI 0), ?_, hI_uI_e, by rw [hI_uI_s (by decide)]; exact x49, by rw [hI_uI_s (by decide)]; exact x50, fun e => absurd t e, fun d p r => by rw [hI_uI_o p, xo d p (by omega) (by omega), a3 d (by omega)], fun k p r s => by rw [hI_uI_s p]; exact xk k r s, xl⟩
      rw [t] at b1 hx
      unfold F_X12_parts
      rw [t]
      simp (disch := omega) only [↓m1_n, li_n, li_0, li_1, lt_y, lt_n, le_y, le_n, eq_n, nL, nLe, nEq, nEm, mEn, nLm, mLn, nLem, mLen, nI_add, nI_mul, nI_sub, nI_m, ib_nI, nx_nI, gd_y, bnd_e, bind_y, ↓reduceIte, hI_uI_o, hI_uI_s, hI_uI_e, hL_uI, hI_uL, hL_uL_o, hL_uL_s, hL_uL_e, and1_a, and1_b, Bool.not_true, Bool.not_false, Nat.zero_add, Nat.add_zero, Nat.add_sub_cancel, eq_self, ne_b, g0_0, g0_1, g0_2, g0_3, g0_4, g0_5, g0_6, g0_7, g0_8, g0_9, n1, n2, g3_2, g3_3, g3_4, g3_5, g3_6, g3_7, g3_8, g3_9, n4, n5, n6, n7, n8, n9, g10_2, g10_3, g10_4, g10_5, n11, n12, n13, n14, g15_2, g15_3, g15_4, g15_5, n16, n17, n18, n19, g40_0, g40_1, g40_2, g44_0, g44_2, g44_3, g44_5, g44_6, g44_10, g51_3, g51_4, g51_5, g51_6, g51_7, g57_3, g57_4, g57_5, g57_6, g57_7, n120, n121, g122_0, g122_4, g122_5, g122_6, g122_7, g122_8, g122_18, g122_19, g122_20, g122_21, g122_24, g122_25, g122_28, g122_29, g122_31, g122_32, g122_33, g122_39, g122_40, g122_41, g122_45, g122_46, g122_47, g122_48, n123, n124, n125, n126, n127, n128, n129, n130, n131, n132, n133, n134, n135, n136, n137, n138, n139, n140, n141, n142, n143, n144, n145, n146, fi, n0, a1, bI_t, b1, hx, L]
    · obtain ⟨h4, c1, c2, c3, c4⟩ := m_115 ok (RmH_congr (xo 123 (by decide) (by decide) (by decide)) rm1) h6 g (fun k hk => by rw [xo 143 (by decide) (by decide) (by decide)]; exact a2 k hk) x50 t
      refine ⟨uI h4 122 1 (nI 0), ?_, hI_uI_e, ?_, ?_, fun _ k hk => by rw [hI_uI_o (by decide)]; exact c2 k hk, fun d p r => by rw [hI_uI_o p, c3 d (by omega) (by omega) (by omega), xo d p (by omega) (by omega), a3 d (by omega)], fun k p r s => by rw [hI_uI_s p, c3 122 (by decide) (by decide) (by decide)]; exact xk k r s, c4.trans xl⟩
      · unfold F_X12_parts
        simp (disch := omega) only [↓m1_n, li_n, li_0, li_1, lt_y, lt_n, le_y, le_n, eq_n, nL, nLe, nEq, nEm, mEn, nLm, mLn, nLem, mLen, nI_add, nI_mul, nI_sub, nI_m, ib_nI, nx_nI, gd_y, bnd_e, bind_y, ↓reduceIte, hI_uI_o, hI_uI_s, hI_uI_e, hL_uI, hI_uL, hL_uL_o, hL_uL_s, hL_uL_e, and1_a, and1_b, Bool.not_true, Bool.not_false, Nat.zero_add, Nat.add_zero, Nat.add_sub_cancel, eq_self, ne_b, g0_0, g0_1, g0_2, g0_3, g0_4, g0_5, g0_6, g0_7, g0_8, g0_9, n1, n2, g3_2, g3_3, g3_4, g3_5, g3_6, g3_7, g3_8, g3_9, n4, n5, n6, n7, n8, n9, g10_2, g10_3, g10_4, g10_5, n11, n12, n13, n14, g15_2, g15_3, g15_4, g15_5, n16, n17, n18, n19, g40_0, g40_1, g40_2, g44_0, g44_2, g44_3, g44_5, g44_6, g44_10, g51_3, g51_4, g51_5, g51_6, g51_7, g57_3, g57_4, g57_5, g57_6, g57_7, n120, n121, g122_0, g122_4, g122_5, g122_6, g122_7, g122_8, g122_18, g122_19, g122_20, g122_21, g122_24, g122_25, g122_28, g122_29, g122_31, g122_32, g122_33, g122_39, g122_40, g122_41, g122_45, g122_46, g122_47, g122_48, n123, n124, n125, n126, n127, n128, n129, n130, n131, n132, n133, n134, n135, n136, n137, n138, n139, n140, n141, n142, n143, n144, n145, n146, fi, n0, a1, bI_t, b1, hx, c1]
      · rw [hI_uI_s (by decide), c3 122 (by decide) (by decide) (by decide)]; exact x49
      · rw [hI_uI_s (by decide), c3 122 (by decide) (by decide) (by decide)]; exact x50
theorem op_parts (q : Nat) (h : Hp) (x y : Int32) (_ : q < 512) (i : Inv q h) : ∃ h1 h2 r, F_X11_parts h 0 x y = some (h1, r) ∧ F_X12_parts h1 122 x y = some (h2, r) ∧ Inv (q + 1) h2 := by
  obtain ⟨A, m, Mk, ok, rc, rm, hm, m1, m2, mk⟩ := id i.1
  have hA := ok.1
  have nope : ∀ s : Int32, F_X11_parts h 0 x y = some (uI h 0 10 s, -1) → (∀ h', Up h h' → F_X12_parts h' 122 x y = some (uI h' 122 1 s, -1)) → ∃ h1 h2 r, F_X11_parts h 0 x y = some (h1, r) ∧ F_X12_parts h1 122 x y = some (h2, r) ∧ Inv (q + 1) h2 := fun s a b => op_2 (f := fun h => F_X11_parts h 0 x y) (g := fun h => F_X12_parts h 122 x y) (s, -1) i a b
  have ic : ∀ (hx hy : Hp) (a b : Int32), F_X12_isField hx a b = F_X12_isField hy a b := fun _ _ _ _ => rfl
  rcases p_field (h := h) x y with ⟨d1, d2⟩ | ⟨⟨a, b, hab, hb, h6, rfl, rfl⟩, d1, d2⟩
  · refine nope 1 ?_ (fun h' u => ?_)
    · unfold F_X11_parts; rw [d1]; rfl
    · unfold F_X12_parts; rw [d2 h' u]; rfl
  have d2 : ∀ hx, F_X12_isField hx (nI a) (nI b) = some 1 := fun hx => (ic hx _ _ _).trans (d2 (uI h 0 10 0) (fun d hd => ⟨hI_uI_o (by omega), rfl⟩))
  obtain ⟨h1, c1, c2, c3, c4, c5, c6, c7⟩ := c_part ok rc hab hb h6
  have rm1 : RmH (uI h1 0 10 (nI 0)) 0 A := RmH_congr (by rw [hI_uI_o (by decide), c6 123 (by omega)]) rm
  obtain ⟨h2, e1, e2, e3, e4, e5, e6, e7, e8⟩ := m_parts ok rm1 hab hb h6 (d2 _)
  refine ⟨uI h1 0 10 (nI 0), h2, nI (resP A a b), ?_, e1, ?_⟩
  · have d1 : F_X11_isField h (nI a) (nI b) = some (nI 1) := d1
    unfold F_X11_parts
    simp (disch := omega) only [↓m1_n, li_n, li_0, li_1, lt_y, lt_n, le_y, le_n, eq_n, nL, nLe, nEq, nEm, mEn, nLm, mLn, nLem, mLen, nI_add, nI_mul, nI_sub, nI_m, ib_nI, nx_nI, gd_y, bnd_e, bind_y, ↓reduceIte, hI_uI_o, hI_uI_s, hI_uI_e, hL_uI, hI_uL, hL_uL_o, hL_uL_s, hL_uL_e, and1_a, and1_b, Bool.not_true, Bool.not_false, Nat.zero_add, Nat.add_zero, Nat.add_sub_cancel, eq_self, ne_b, g0_0, g0_1, g0_2, g0_3, g0_4, g0_5, g0_6, g0_7, g0_8, g0_9, n1, n2, g3_2, g3_3, g3_4, g3_5, g3_6, g3_7, g3_8, g3_9, n4, n5, n6, n7, n8, n9, g10_2, g10_3, g10_4, g10_5, n11, n12, n13, n14, g15_2, g15_3, g15_4, g15_5, n16, n17, n18, n19, g40_0, g40_1, g40_2, g44_0, g44_2, g44_3, g44_5, g44_6, g44_10, g51_3, g51_4, g51_5, g51_6, g51_7, g57_3, g57_4, g57_5, g57_6, g57_7, n120, n121, g122_0, g122_4, g122_5, g122_6, g122_7, g122_8, g122_18, g122_19, g122_20, g122_21, g122_24, g122_25, g122_28, g122_29, g122_31, g122_32, g122_33, g122_39, g122_40, g122_41, g122_45, g122_46, g122_47, g122_48, n123, n124, n125, n126, n127, n128, n129, n130, n131, n132, n133, n134, n135, n136, n137, n138, n139, n140, n141, n142, n143, n144, n145, n146, d1, c1, F_X11_answer]
  · refine Inv_pa (fun d p r s t => ?_) ?_ (fun k p => ?_) (fun k p r s => ?_) ?_ ?_ i
    · rw [e6 d s t, hI_uI_o p, c6 d r]
    · rw [e8, hL_uI, c7]
    · rw [e6 0 (by decide) (by omega), hI_uI_s p, c6 0 (by omega)]
    · rw [e7 k p r s, hI_uI_o (by decide), c6 122 (by omega)]
    · rw [e2, e6 0 (by decide) (by omega), hI_uI_e]
    · have y : ∀ d, d = 57 ∨ d = 58 → hI h2 d = hI h1 d := fun d hd => by rw [e6 d (by omega) (by omega), hI_uI_o (by omega)]
      refine Or.inr ⟨by rw [y 57 (Or.inl rfl)]; exact c2, oN A, hA, by rw [y 57 (Or.inl rfl)]; exact c3, e3, by rw [e4, y 57 (Or.inl rfl), c4], fun z k hk => ?_⟩
      rw [y 57 (Or.inl rfl), c4] at z
      have z : resP A a b ≠ 0 := fun t => z (by rw [t]; rfl)
      obtain ⟨f, hf, ef⟩ := deck_at ok hk
      rw [← ef, e5 z f hf, y 58 (Or.inr rfl), c5 z f hf]
