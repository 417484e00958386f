/-! ===== fewest, the call ===== -/
theorem hit1_t {A : Ho} {col : Nat} {t t' : Nat → Int64} (e : ∀ k, k < 13 → t k = t' k) : okB t = okB t' ∧ hit1 A col t = hit1 A col t' := by
  have o : okB t = okB t' := by
    funext c
    unfold okB
    rw [exB_congr (P := fun k => decide (t k ≠ Int64.ofInt (c k))) (Q := fun k => decide (t' k ≠ Int64.ofInt (c k))) 13 (fun k hk => by show decide (t k ≠ Int64.ofInt (c k)) = decide (t' k ≠ Int64.ofInt (c k)); rw [e k hk])]
  refine ⟨o, ?_⟩
  funext c i
  unfold hit1
  rw [o]
theorem tot2_t {A : Ho} {col : Nat} {t t' : Nat → Int64} {c : Nat → Int} (e : ∀ k, k < 13 → t k = t' k) : hbI A col t c = hbI A col t' c ∧ any2 A col t c = any2 A col t' c ∧ tot2 A col t c = tot2 A col t' c := by
  have o := (hit1_t (A := A) (col := col) e).2
  have e1 : hbI A col t c = hbI A col t' c := by
    funext i
    unfold hbI hitb
    rw [o]
  have e2 : ct2 A col t c = ct2 A col t' c := by
    funext i
    unfold ct2
    rw [e1]
  refine ⟨e1, ?_, ?_⟩
  · funext i
    unfold any2
    rw [e2]
  · funext m
    induction m with
    | zero => rfl
    | succ m ih => rw [tot2, tot2, ih, e2]
theorem resF_t {A : Ho} {col : Nat} {t t' : Nat → Int64} {c : Nat → Int} (e : ∀ k, k < 13 → t k = t' k) : resF A col t c = resF A col t' c := by
  unfold resF
  rw [(hit1_t (A := A) (col := col) e).1, (hit1_t (A := A) (col := col) e).2, (tot2_t (c := c) e).2.2]
theorem resF_s {A : Ho} {col l s : Nat} {t : Nat → Int64} {c : Nat → Int} (e : resF A col t c = some (l, s)) : (l = 1 → s = cnt (hit1 A col t c) (3 * oN A)) ∧ (l = 2 → s = tot2 A col t c (3 * oN A)) := by
  unfold resF at e
  by_cases o : okB t c = true
  · rw [if_pos o] at e
    cases e
    exact ⟨fun e => absurd e (by decide), fun e => absurd e (by decide)⟩
  rw [if_neg o] at e
  by_cases z1 : 0 < cnt (hit1 A col t c) (3 * oN A)
  · rw [if_pos z1] at e
    cases e
    exact ⟨fun _ => rfl, fun e => absurd e (by decide)⟩
  rw [if_neg z1] at e
  by_cases z2 : 0 < tot2 A col t c (3 * oN A)
  · rw [if_pos z2] at e
    cases e
    exact ⟨fun e => absurd e (by decide), fun _ => rfl⟩
  rw [if_neg z2] at e
  cases e
theorem Inv_mi {q : Nat} {h h' : Hp} (a : ∀ d, d ≠ 0 → (d < 51 ∨ 56 < d) → d ≠ 122 → (d < 140 ∨ 142 < d) → hI h' d = hI h d) (b : ∀ d, d ≠ 54 → hL h' d = hL h d) (e2 : ∀ k, k ≠ 10 → hI h' 0 k = hI h 0 k) (e3 : ∀ k, k ≠ 1 → k ≠ 42 → k ≠ 43 → k ≠ 44 → hI h' 122 k = hI h 122 k) (st : hI h' 122 1 = hI h' 0 10) (im : Imi h') (i : Inv q h) : Inv (q + 1) h' := by
  have E : ∀ d, d ≠ 0 → d ≠ 122 → (d < 51 ∨ 56 < d) → (d < 140 ∨ 142 < d) → hI h' d = hI h d ∧ hL h' d = hL h d := fun d p q r s => ⟨a d p r q s, b d (by omega)⟩
  obtain ⟨i1, i2, i3, i4, i5, i6, -, i8⟩ := i
  refine ⟨Iho_congr (fun d _ _ => (E d (by omega) (by omega) (by omega) (by omega)).1) (fun d _ _ => (E d (by omega) (by omega) (by omega) (by omega)).1) (E 123 (by decide) (by decide) (by decide) (by decide)).1 (e2 14 (by decide)) (e3 51 (by decide) (by decide) (by decide) (by decide)) i1.mono, Itr_congr (fun d _ _ => E d (by omega) (by omega) (by omega) (by omega)) (E 124 (by decide) (by decide) (by decide) (by decide)).1 (E 125 (by decide) (by decide) (by decide) (by decide)).1 (E 126 (by decide) (by decide) (by decide) (by decide)).2 i2, Itp_congr (e2 13 (by decide)) (e3 9 (by decide) (by decide) (by decide) (by decide)) (E 2 (by decide) (by decide) (by decide) (by decide)).1 (E 127 (by decide) (by decide) (by decide) (by decide)).1 i3, ⟨st, ?_, ?_, ?_, ?_⟩, Ipl_congr (E 44 (by decide) (by decide) (by decide) (by decide)).1 (E 50 (by decide) (by decide) (by decide) (by decide)).1 (E 139 (by decide) (by decide) (by decide) (by decide)).1 (e3 34 (by decide) (by decide) (by decide) (by decide)) (e3 35 (by decide) (by decide) (by decide) (by decide)) i5, Irn_congr (E 40 (by decide) (by decide) (by decide) (by decide)).1 (E 40 (by decide) (by decide) (by decide) (by decide)).2 (by rw [b 122 (by decide)]) (e3 37 (by decide) (by decide) (by decide) (by decide)) (e3 38 (by decide) (by decide) (by decide) (by decide)) i6, im, Ipa_congr (E 57 (by decide) (by decide) (by decide) (by decide)).1 (E 58 (by decide) (by decide) (by decide) (by decide)).1 (E 146 (by decide) (by decide) (by decide) (by decide)).1 (e3 49 (by decide) (by decide) (by decide) (by decide)) (e3 50 (by decide) (by decide) (by decide) (by decide)) i8⟩
  · rw [b 122 (by decide), b 0 (by decide)]; exact i4.2.1
  · rw [b 122 (by decide), b 0 (by decide)]; exact i4.2.2.1
  · rw [e3 15 (by decide) (by decide) (by decide) (by decide), e2 15 (by decide)]; exact i4.2.2.2.1
  · rw [e3 16 (by decide) (by decide) (by decide) (by decide), e2 16 (by decide)]; exact i4.2.2.2.2
theorem op_fewest (q : Nat) (h : Hp) (x y : Int32) (_ : q < 512) (i : Inv q h) : ∃ h1 h2 r, F_X11_fewest h 0 x y = some (h1, r) ∧ F_X12_fewest h1 122 x y = some (h2, r) ∧ Inv (q + 1) h2 := by
  obtain ⟨A, m, Mk, ok, rc, rm, hm, m1, m2, mk⟩ := id i.1
  have hA := ok.1
  have nope : ∀ s : Int32, F_X11_fewest h 0 x y = some (uI h 0 10 s, -1) → (∀ h', Up h h' → F_X12_fewest h' 122 x y = some (uI h' 122 1 s, -1)) → ∃ h1 h2 r, F_X11_fewest h 0 x y = some (h1, r) ∧ F_X12_fewest h1 122 x y = some (h2, r) ∧ Inv (q + 1) h2 := fun s a b => op_2 (f := fun h => F_X11_fewest h 0 x y) (g := fun h => F_X12_fewest h 122 x y) (s, -1) i a b
  unfold F_X11_fewest F_X12_fewest F_X11_rowStatus at *
  have ic : ∀ (hx hy : Hp) (b : Int32), F_X12_isColumn hx b = F_X12_isColumn hy b := fun _ _ _ => rfl
  rcases p_col (h := h) x with ⟨d1, d2⟩ | ⟨⟨col, hc, rfl⟩, d1, d2⟩
  · refine nope 1 ?_ (fun h' u => ?_)
    · rw [d1]; rfl
    · rw [d2 h' u]; rfl
  have d2 : ∀ hx, F_X12_isColumn hx (nI col) = some 1 := fun hx => (ic hx _ _).trans (d2 (uI h 0 10 0) (fun d hd => ⟨hI_uI_o (by omega), rfl⟩))
  rcases tr_x y with t1 | ⟨j, hj, rfl, t1⟩
  · refine nope 1 ?_ (fun h' u => ?_)
    · rw [d1]; simp only [Option.bind_some]; rw [(t1 h).1]; rfl
    · rw [d2 h']; simp only [Option.bind_some]; rw [(t1 h').2]; rfl
  have T1 := fun h => (t1 h).1
  have T2 := fun h => (t1 h).2
  have M : ∀ h', Up h h' → ∀ j, hI h' 125 j = hI h 125 j := fun h' u j => by rw [(u 125 (by decide)).1]
  rcases i.2.1 j hj with ⟨a1, a2⟩ | ⟨a1, n, s, a2, a3, a4, a5, a6, a7, a8⟩
  · refine nope 2 ?_ (fun h' u => ?_)
    · simp (disch := omega) only [↓m1_n, li_n, li_0, li_1, lt_y, lt_n, le_y, le_n, eq_n, nL, nLe, nEq, nEm, mEn, nLm, mLn, nLem, mLen, nI_add, nI_mul, nI_sub, nI_m, ib_nI, nx_nI, gd_y, bnd_e, bind_y, ↓reduceIte, hI_uI_o, hI_uI_s, hI_uI_e, hL_uI, hI_uL, hL_uL_o, hL_uL_s, hL_uL_e, and1_a, and1_b, Bool.not_true, Bool.not_false, Nat.zero_add, Nat.add_zero, Nat.add_sub_cancel, eq_self, ne_b, g0_0, g0_1, g0_2, g0_3, g0_4, g0_5, g0_6, g0_7, g0_8, g0_9, n1, n2, g3_2, g3_3, g3_4, g3_5, g3_6, g3_7, g3_8, g3_9, n4, n5, n6, n7, n8, n9, g10_2, g10_3, g10_4, g10_5, n11, n12, n13, n14, g15_2, g15_3, g15_4, g15_5, n16, n17, n18, n19, g40_0, g40_1, g40_2, g44_0, g44_2, g44_3, g44_5, g44_6, g44_10, g51_3, g51_4, g51_5, g51_6, g51_7, g57_3, g57_4, g57_5, g57_6, g57_7, n120, n121, g122_0, g122_4, g122_5, g122_6, g122_7, g122_8, g122_18, g122_19, g122_20, g122_21, g122_24, g122_25, g122_28, g122_29, g122_31, g122_32, g122_33, g122_39, g122_40, g122_41, g122_45, g122_46, g122_47, g122_48, n123, n124, n125, n126, n127, n128, n129, n130, n131, n132, n133, n134, n135, n136, n137, n138, n139, n140, n141, n142, n143, n144, n145, n146, d1, T1, gT j hj, a1, F_X11_refuse]
    · simp (disch := omega) only [↓m1_n, li_n, li_0, li_1, lt_y, lt_n, le_y, le_n, eq_n, nL, nLe, nEq, nEm, mEn, nLm, mLn, nLem, mLen, nI_add, nI_mul, nI_sub, nI_m, ib_nI, nx_nI, gd_y, bnd_e, bind_y, ↓reduceIte, hI_uI_o, hI_uI_s, hI_uI_e, hL_uI, hI_uL, hL_uL_o, hL_uL_s, hL_uL_e, and1_a, and1_b, Bool.not_true, Bool.not_false, Nat.zero_add, Nat.add_zero, Nat.add_sub_cancel, eq_self, ne_b, g0_0, g0_1, g0_2, g0_3, g0_4, g0_5, g0_6, g0_7, g0_8, g0_9, n1, n2, g3_2, g3_3, g3_4, g3_5, g3_6, g3_7, g3_8, g3_9, n4, n5, n6, n7, n8, n9, g10_2, g10_3, g10_4, g10_5, n11, n12, n13, n14, g15_2, g15_3, g15_4, g15_5, n16, n17, n18, n19, g40_0, g40_1, g40_2, g44_0, g44_2, g44_3, g44_5, g44_6, g44_10, g51_3, g51_4, g51_5, g51_6, g51_7, g57_3, g57_4, g57_5, g57_6, g57_7, n120, n121, g122_0, g122_4, g122_5, g122_6, g122_7, g122_8, g122_18, g122_19, g122_20, g122_21, g122_24, g122_25, g122_28, g122_29, g122_31, g122_32, g122_33, g122_39, g122_40, g122_41, g122_45, g122_46, g122_47, g122_48, n123, n124, n125, n126, n127, n128, n129, n130, n131, n132, n133, n134, n135, n136, n137, n138, n139, n140, n141, n142, n143, n144, n145, n146, d2, T2, M h' u, a2, F_X12_refuse]
  by_cases l8 : ¬ 13 ≤ n
  · refine nope 3 ?_ (fun h' u => ?_)
    · simp (disch := omega) only [↓m1_n, li_n, li_0, li_1, lt_y, lt_n, le_y, le_n, eq_n, nL, nLe, nEq, nEm, mEn, nLm, mLn, nLem, mLen, nI_add, nI_mul, nI_sub, nI_m, ib_nI, nx_nI, gd_y, bnd_e, bind_y, ↓reduceIte, hI_uI_o, hI_uI_s, hI_uI_e, hL_uI, hI_uL, hL_uL_o, hL_uL_s, hL_uL_e, and1_a, and1_b, Bool.not_true, Bool.not_false, Nat.zero_add, Nat.add_zero, Nat.add_sub_cancel, eq_self, ne_b, g0_0, g0_1, g0_2, g0_3, g0_4, g0_5, g0_6, g0_7, g0_8, g0_9, n1, n2, g3_2, g3_3, g3_4, g3_5, g3_6, g3_7, g3_8, g3_9, n4, n5, n6, n7, n8, n9, g10_2, g10_3, g10_4, g10_5, n11, n12, n13, n14, g15_2, g15_3, g15_4, g15_5, n16, n17, n18, n19, g40_0, g40_1, g40_2, g44_0, g44_2, g44_3, g44_5, g44_6, g44_10, g51_3, g51_4, g51_5, g51_6, g51_7, g57_3, g57_4, g57_5, g57_6, g57_7, n120, n121, g122_0, g122_4, g122_5, g122_6, g122_7, g122_8, g122_18, g122_19, g122_20, g122_21, g122_24, g122_25, g122_28, g122_29, g122_31, g122_32, g122_33, g122_39, g122_40, g122_41, g122_45, g122_46, g122_47, g122_48, n123, n124, n125, n126, n127, n128, n129, n130, n131, n132, n133, n134, n135, n136, n137, n138, n139, n140, n141, n142, n143, n144, n145, n146, d1, T1, gT j hj, a1, a4, F_X11_refuse]
    · simp (disch := omega) only [↓m1_n, li_n, li_0, li_1, lt_y, lt_n, le_y, le_n, eq_n, nL, nLe, nEq, nEm, mEn, nLm, mLn, nLem, mLen, nI_add, nI_mul, nI_sub, nI_m, ib_nI, nx_nI, gd_y, bnd_e, bind_y, ↓reduceIte, hI_uI_o, hI_uI_s, hI_uI_e, hL_uI, hI_uL, hL_uL_o, hL_uL_s, hL_uL_e, and1_a, and1_b, Bool.not_true, Bool.not_false, Nat.zero_add, Nat.add_zero, Nat.add_sub_cancel, eq_self, ne_b, g0_0, g0_1, g0_2, g0_3, g0_4, g0_5, g0_6, g0_7, g0_8, g0_9, n1, n2, g3_2, g3_3, g3_4, g3_5, g3_6, g3_7, g3_8, g3_9, n4, n5, n6, n7, n8, n9, g10_2, g10_3, g10_4, g10_5, n11, n12, n13, n14, g15_2, g15_3, g15_4, g15_5, n16, n17, n18, n19, g40_0, g40_1, g40_2, g44_0, g44_2, g44_3, g44_5, g44_6, g44_10, g51_3, g51_4, g51_5, g51_6, g51_7, g57_3, g57_4, g57_5, g57_6, g57_7, n120, n121, g122_0, g122_4, g122_5, g122_6, g122_7, g122_8, g122_18, g122_19, g122_20, g122_21, g122_24, g122_25, g122_28, g122_29, g122_31, g122_32, g122_33, g122_39, g122_40, g122_41, g122_45, g122_46, g122_47, g122_48, n123, n124, n125, n126, n127, n128, n129, n130, n131, n132, n133, n134, n135, n136, n137, n138, n139, n140, n141, n142, n143, n144, n145, n146, d2, T2, M h' u, a5, F_X12_refuse]
  have l8 : 13 ≤ n := by omega
  obtain ⟨h1, c1, c2, c3, c4, c5⟩ := c_srch ok rc hc hj
  have TE : ∀ k, k < 13 → hL h (64 + 2 * j) k = (fun k => hL h 126 (60 * j + k)) k := fun k hk => a8 k (by omega)
  -- the reference, from any heap that the component leaves
  have ref : ∀ v : Int32, ∃ h3 h4 h5 h6 l, L_X12_fewest_71 (uI (uI (uI h1 0 10 v) 122 43 (nI 0)) 122 44 (nI 0)) 122 (nI col) (nI j) (hI h1 122 43) (nI 0) = some h3 ∧ L_X12_fewest_95 h3 122 (nI col) (nI j) (hI h1 122 43) (nI 0) = some h4 ∧ F_X12_goesThrough h4 122 (nI col) (nI j) (nI 0) = some h5 ∧ L_X12_fewest_134 h5 122 (nI col) (nI j) (hI h1 122 43) (nI 0) = some (h6, nI l) ∧ FwM (uI h1 0 10 v) h6 ∧ (resF A col (hL h (64 + 2 * j)) (bcN A col (oN A)) = none → hI h6 122 43 = nI 0 ∧ hI h6 141 = hI h 141 ∧ hI h6 142 = hI h 142) ∧ ∀ l' s, resF A col (hL h (64 + 2 * j)) (bcN A col (oN A)) = some (l', s) → l' = l ∧ l ≤ 2 ∧ 0 < s ∧ s < 1000000 ∧ hI h6 122 43 = nI s ∧ (l = 1 → TR (vw h6) 0 (hit1 A col (hL h (64 + 2 * j)) (bcN A col (oN A))) 0 (3 * oN A)) ∧ (l = 2 → TT A col (hL h (64 + 2 * j)) (bcN A col (oN A)) (vw h6) (3 * oN A)) := by
    intro v
    obtain ⟨h3, e1, e2, e3, e4⟩ := m_71 (h := uI (uI (uI h1 0 10 v) 122 43 (nI 0)) 122 44 (nI 0)) (x1 := nI col) (x2 := nI j) (x3 := hI h1 122 43) hI_uI_e
    have f3 : FwM (uI h1 0 10 v) h3 := ⟨fun d p q r s => by rw [e3 d q, hI_uI_o p, hI_uI_o p], fun k p q => by rw [e3 122 (by decide), hI_uI_s q, hI_uI_s p], e4⟩
    have rm1 : RmH (uI h1 0 10 v) 0 A := RmH_congr (by rw [hI_uI_o (by decide), c2 123 (by decide) (by decide) (by decide) (by decide) (by decide)]) rm
    obtain ⟨h4, g1, g2, g3⟩ := m_95 (x2 := nI j) (x3 := hI h1 122 43) ok (f3.rm rm1) hc e2
    have f4 := f3.trans g3.fm
    have L4 : hL h4 126 = hL h 126 := by rw [f4.2.2, hL_uI, c3 126 (by decide)]
    have e43 : hI h4 122 43 = nI 0 := by rw [g3.2.1 43 (by decide), e3 122 (by decide), hI_uI_s (by decide), hI_uI_e]
    have bd : Bd 1000 (bcN A col (oN A)) := fun k => by have := bcN_bd (A := A) (col := col) (oN A) k; omega
    obtain ⟨h5, h6, l, k1, k2, k3, k4, k5⟩ := m_srch (x3 := hI h1 122 43) (t := fun k => hL h 126 (60 * j + k)) ok (f4.rm rm1) hc hj (by rw [L4]) g2 bd e43
    refine ⟨h3, h4, h5, h6, l, e1, g1, k1, k2, f4.trans k3, ?_, ?_⟩
    · intro z
      rw [resF_t TE] at z
      have := k4 z
      refine ⟨this.1, ?_, ?_⟩
      · rw [this.2.1, g3.1 141 (by decide) (by decide), e3 141 (by decide), hI_uI_o (by decide), hI_uI_o (by decide), hI_uI_o (by decide), c2 141 (by decide) (by decide) (by decide) (by decide) (by decide)]
      · rw [this.2.2, g3.1 142 (by decide) (by decide), e3 142 (by decide), hI_uI_o (by decide), hI_uI_o (by decide), hI_uI_o (by decide), c2 142 (by decide) (by decide) (by decide) (by decide) (by decide)]
    · intro l' s z
      rw [resF_t TE] at z
      obtain ⟨z1, z2, z3, z4, z5, z6, z7⟩ := k5 l' s z
      refine ⟨z1, z2, z3, z4, z5, fun e => ?_, fun e => ?_⟩
      · rw [(hit1_t TE).2]; exact z6 e
      · unfold TT
        rw [(tot2_t TE).1, (tot2_t TE).2.1]
        exact z7 e
  have q125 : ∀ v : Int32, hI (uI h1 0 10 v) 125 j = nI n := fun v => by rw [hI_uI_o (by decide), c2 125 (by decide) (by decide) (by decide) (by decide) (by decide), a5]
  cases er : resF A col (hL h (64 + 2 * j)) (bcN A col (oN A)) with
  | none =>
    obtain ⟨h3, h4, h5, h6, l, r1, r2, r3, r4, r5, r6, r7⟩ := ref (nI 6)
    rw [er] at c1
    have c4 := c4 er
    have r6 := r6 er
    refine ⟨uI h1 0 10 (nI 6), uI (uI h6 122 43 (hI h1 122 43)) 122 1 (nI 6), mN, ?_, ?_, ?_⟩
    · simp (disch := omega) only [↓m1_n, li_n, li_0, li_1, lt_y, lt_n, le_y, le_n, eq_n, nL, nLe, nEq, nEm, mEn, nLm, mLn, nLem, mLen, nI_add, nI_mul, nI_sub, nI_m, ib_nI, nx_nI, gd_y, bnd_e, bind_y, ↓reduceIte, hI_uI_o, hI_uI_s, hI_uI_e, hL_uI, hI_uL, hL_uL_o, hL_uL_s, hL_uL_e, and1_a, and1_b, Bool.not_true, Bool.not_false, Nat.zero_add, Nat.add_zero, Nat.add_sub_cancel, eq_self, ne_b, g0_0, g0_1, g0_2, g0_3, g0_4, g0_5, g0_6, g0_7, g0_8, g0_9, n1, n2, g3_2, g3_3, g3_4, g3_5, g3_6, g3_7, g3_8, g3_9, n4, n5, n6, n7, n8, n9, g10_2, g10_3, g10_4, g10_5, n11, n12, n13, n14, g15_2, g15_3, g15_4, g15_5, n16, n17, n18, n19, g40_0, g40_1, g40_2, g44_0, g44_2, g44_3, g44_5, g44_6, g44_10, g51_3, g51_4, g51_5, g51_6, g51_7, g57_3, g57_4, g57_5, g57_6, g57_7, n120, n121, g122_0, g122_4, g122_5, g122_6, g122_7, g122_8, g122_18, g122_19, g122_20, g122_21, g122_24, g122_25, g122_28, g122_29, g122_31, g122_32, g122_33, g122_39, g122_40, g122_41, g122_45, g122_46, g122_47, g122_48, n123, n124, n125, n126, n127, n128, n129, n130, n131, n132, n133, n134, n135, n136, n137, n138, n139, n140, n141, n142, n143, n144, n145, n146, d1, T1, gT j hj, gT3 j hj, a1, a4, c1, Option.isSome_none, Bool.false_eq_true, F_X11_refuse]
    · unfold J_X12_fewest_161
      simp (disch := omega) only [↓m1_n, li_n, li_0, li_1, lt_y, lt_n, le_y, le_n, eq_n, nL, nLe, nEq, nEm, mEn, nLm, mLn, nLem, mLen, nI_add, nI_mul, nI_sub, nI_m, ib_nI, nx_nI, gd_y, bnd_e, bind_y, ↓reduceIte, hI_uI_o, hI_uI_s, hI_uI_e, hL_uI, hI_uL, hL_uL_o, hL_uL_s, hL_uL_e, and1_a, and1_b, Bool.not_true, Bool.not_false, Nat.zero_add, Nat.add_zero, Nat.add_sub_cancel, eq_self, ne_b, g0_0, g0_1, g0_2, g0_3, g0_4, g0_5, g0_6, g0_7, g0_8, g0_9, n1, n2, g3_2, g3_3, g3_4, g3_5, g3_6, g3_7, g3_8, g3_9, n4, n5, n6, n7, n8, n9, g10_2, g10_3, g10_4, g10_5, n11, n12, n13, n14, g15_2, g15_3, g15_4, g15_5, n16, n17, n18, n19, g40_0, g40_1, g40_2, g44_0, g44_2, g44_3, g44_5, g44_6, g44_10, g51_3, g51_4, g51_5, g51_6, g51_7, g57_3, g57_4, g57_5, g57_6, g57_7, n120, n121, g122_0, g122_4, g122_5, g122_6, g122_7, g122_8, g122_18, g122_19, g122_20, g122_21, g122_24, g122_25, g122_28, g122_29, g122_31, g122_32, g122_33, g122_39, g122_40, g122_41, g122_45, g122_46, g122_47, g122_48, n123, n124, n125, n126, n127, n128, n129, n130, n131, n132, n133, n134, n135, n136, n137, n138, n139, n140, n141, n142, n143, n144, n145, n146, d2, T2, q125, r1, r2, r3, r4, r6.1, F_X12_refuse]
    · refine Inv_mi (fun d p q r s => ?_) (fun d p => ?_) (fun k p => ?_) (fun k p q r s => ?_) ?_ ?_ i
      · rw [hI_uI_o r, hI_uI_o r, r5.1 d r (by omega) (by omega) (by omega), hI_uI_o p, c2 d (by omega) (by omega) (by omega) (by omega) (by omega)]
      · rw [hL_uI, hL_uI, r5.2.2, hL_uI, c3 d p]
      · rw [hI_uI_o (by decide), hI_uI_o (by decide), r5.1 0 (by decide) (by decide) (by decide) (by decide), hI_uI_s p, c2 0 (by decide) (by decide) (by decide) (by decide) (by decide)]
      · rw [hI_uI_s p, hI_uI_s r, r5.2.1 k r s, hI_uI_o (by decide), c2 122 (by decide) (by decide) (by decide) (by decide) (by decide)]
      · rw [hI_uI_e, hI_uI_o (by decide), hI_uI_o (by decide), r5.1 0 (by decide) (by decide) (by decide) (by decide), hI_uI_e]
      · have i7 := i.2.2.2.2.2.2.1
        have b0 : ∀ k, k ≤ 2 → hI (uI (uI h6 122 43 (hI h1 122 43)) 122 1 (nI 6)) 51 k = hI h 51 k := fun k hk => by
          rw [hI_uI_o (by decide), hI_uI_o (by decide), r5.1 51 (by decide) (by decide) (by decide) (by decide), hI_uI_o (by decide), c4.1 k hk]
        have b1 : hI (uI (uI h6 122 43 (hI h1 122 43)) 122 1 (nI 6)) 52 = hI h 52 := by
          rw [hI_uI_o (by decide), hI_uI_o (by decide), r5.1 52 (by decide) (by decide) (by decide) (by decide), hI_uI_o (by decide), c4.2]
        have b2 : hI (uI (uI h6 122 43 (hI h1 122 43)) 122 1 (nI 6)) 122 42 = hI h 122 42 := by
          rw [hI_uI_s (by decide), hI_uI_s (by decide), r5.2.1 42 (by decide) (by decide), hI_uI_o (by decide), c2 122 (by decide) (by decide) (by decide) (by decide) (by decide)]
        have b3 : hI (uI (uI h6 122 43 (hI h1 122 43)) 122 1 (nI 6)) 122 43 = hI h 122 43 := by
          rw [hI_uI_s (by decide), hI_uI_e, c2 122 (by decide) (by decide) (by decide) (by decide) (by decide)]
        have b4 : hI (uI (uI h6 122 43 (hI h1 122 43)) 122 1 (nI 6)) 141 = hI h 141 := by
          rw [hI_uI_o (by decide), hI_uI_o (by decide), r6.2.1]
        have b5 : hI (uI (uI h6 122 43 (hI h1 122 43)) 122 1 (nI 6)) 142 = hI h 142 := by
          rw [hI_uI_o (by decide), hI_uI_o (by decide), r6.2.2]
        unfold Imi at *
        rw [b0 0 (by decide), b0 1 (by decide), b0 2 (by decide), b1, b2, b3, b4, b5]
        exact i7
  | some p =>
    obtain ⟨l', s'⟩ := p
    obtain ⟨h3, h4, h5, h6, l, r1, r2, r3, r4, r5, r6, r7⟩ := ref (nI 0)
    rw [er] at c1
    obtain ⟨f1, f2, f3, f4⟩ := c5 l' s' er
    obtain ⟨rfl, z2, z3, z4, z5, z6, z7⟩ := r7 l' s' er
    refine ⟨uI h1 0 10 (nI 0), uI (uI h6 122 42 (nI l')) 122 1 (nI 0), nI l', ?_, ?_, ?_⟩
    · simp (disch := omega) only [↓m1_n, li_n, li_0, li_1, lt_y, lt_n, le_y, le_n, eq_n, nL, nLe, nEq, nEm, mEn, nLm, mLn, nLem, mLen, nI_add, nI_mul, nI_sub, nI_m, ib_nI, nx_nI, gd_y, bnd_e, bind_y, ↓reduceIte, hI_uI_o, hI_uI_s, hI_uI_e, hL_uI, hI_uL, hL_uL_o, hL_uL_s, hL_uL_e, and1_a, and1_b, Bool.not_true, Bool.not_false, Nat.zero_add, Nat.add_zero, Nat.add_sub_cancel, eq_self, ne_b, g0_0, g0_1, g0_2, g0_3, g0_4, g0_5, g0_6, g0_7, g0_8, g0_9, n1, n2, g3_2, g3_3, g3_4, g3_5, g3_6, g3_7, g3_8, g3_9, n4, n5, n6, n7, n8, n9, g10_2, g10_3, g10_4, g10_5, n11, n12, n13, n14, g15_2, g15_3, g15_4, g15_5, n16, n17, n18, n19, g40_0, g40_1, g40_2, g44_0, g44_2, g44_3, g44_5, g44_6, g44_10, g51_3, g51_4, g51_5, g51_6, g51_7, g57_3, g57_4, g57_5, g57_6, g57_7, n120, n121, g122_0, g122_4, g122_5, g122_6, g122_7, g122_8, g122_18, g122_19, g122_20, g122_21, g122_24, g122_25, g122_28, g122_29, g122_31, g122_32, g122_33, g122_39, g122_40, g122_41, g122_45, g122_46, g122_47, g122_48, n123, n124, n125, n126, n127, n128, n129, n130, n131, n132, n133, n134, n135, n136, n137, n138, n139, n140, n141, n142, n143, n144, n145, n146, d1, T1, gT j hj, gT3 j hj, a1, a4, c1, Option.isSome_some, F_X11_answer, f2]
    · unfold J_X12_fewest_161
      simp (disch := omega) only [↓m1_n, li_n, li_0, li_1, lt_y, lt_n, le_y, le_n, eq_n, nL, nLe, nEq, nEm, mEn, nLm, mLn, nLem, mLen, nI_add, nI_mul, nI_sub, nI_m, ib_nI, nx_nI, gd_y, bnd_e, bind_y, ↓reduceIte, hI_uI_o, hI_uI_s, hI_uI_e, hL_uI, hI_uL, hL_uL_o, hL_uL_s, hL_uL_e, and1_a, and1_b, Bool.not_true, Bool.not_false, Nat.zero_add, Nat.add_zero, Nat.add_sub_cancel, eq_self, ne_b, g0_0, g0_1, g0_2, g0_3, g0_4, g0_5, g0_6, g0_7, g0_8, g0_9, n1, n2, g3_2, g3_3, g3_4, g3_5, g3_6, g3_7, g3_8, g3_9, n4, n5, n6, n7, n8, n9, g10_2, g10_3, g10_4, g10_5, n11, n12, n13, n14, g15_2, g15_3, g15_4, g15_5, n16, n17, n18, n19, g40_0, g40_1, g40_2, g44_0, g44_2, g44_3, g44_5, g44_6, g44_10, g51_3, g51_4, g51_5, g51_6, g51_7, g57_3, g57_4, g57_5, g57_6, g57_7, n120, n121, g122_0, g122_4, g122_5, g122_6, g122_7, g122_8, g122_18, g122_19, g122_20, g122_21, g122_24, g122_25, g122_28, g122_29, g122_31, g122_32, g122_33, g122_39, g122_40, g122_41, g122_45, g122_46, g122_47, g122_48, n123, n124, n125, n126, n127, n128, n129, n130, n131, n132, n133, n134, n135, n136, n137, n138, n139, n140, n141, n142, n143, n144, n145, n146, d2, T2, q125, r1, r2, r3, r4, z5, F_X12_gives]
    · refine Inv_mi (fun d p q r s => ?_) (fun d p => ?_) (fun k p => ?_) (fun k p q r s => ?_) ?_ ?_ i
      · rw [hI_uI_o r, hI_uI_o r, r5.1 d r (by omega) (by omega) (by omega), hI_uI_o p, c2 d (by omega) (by omega) (by omega) (by omega) (by omega)]
      · rw [hL_uI, hL_uI, r5.2.2, hL_uI, c3 d p]
      · rw [hI_uI_o (by decide), hI_uI_o (by decide), r5.1 0 (by decide) (by decide) (by decide) (by decide), hI_uI_s p, c2 0 (by decide) (by decide) (by decide) (by decide) (by decide)]
      · rw [hI_uI_s p, hI_uI_s q, r5.2.1 k r s, hI_uI_o (by decide), c2 122 (by decide) (by decide) (by decide) (by decide) (by decide)]
      · rw [hI_uI_e, hI_uI_o (by decide), hI_uI_o (by decide), r5.1 0 (by decide) (by decide) (by decide) (by decide), hI_uI_e]
      · have b0 : ∀ d, d = 51 ∨ d = 52 → hI (uI (uI h6 122 42 (nI l')) 122 1 (nI 0)) d = hI h1 d := fun d hd => by
          rw [hI_uI_o (by omega), hI_uI_o (by omega), r5.1 d (by omega) (by omega) (by omega) (by omega), hI_uI_o (by omega)]
        have b2 : hI (uI (uI h6 122 42 (nI l')) 122 1 (nI 0)) 122 42 = nI l' := by
          rw [hI_uI_s (by decide), hI_uI_e]
        have b3 : hI (uI (uI h6 122 42 (nI l')) 122 1 (nI 0)) 122 43 = nI s' := by
          rw [hI_uI_s (by decide), hI_uI_s (by decide), z5]
        have b4 : hI (uI (uI h6 122 42 (nI l')) 122 1 (nI 0)) 141 = hI h6 141 := by
          rw [hI_uI_o (by decide), hI_uI_o (by decide)]
        have b5 : hI (uI (uI h6 122 42 (nI l')) 122 1 (nI 0)) 142 = hI h6 142 := by
          rw [hI_uI_o (by decide), hI_uI_o (by decide)]
        refine Or.inr ⟨by rw [b0 51 (Or.inl rfl)]; exact f1, l', z2, by rw [b0 51 (Or.inl rfl)]; exact f2, b2, by rw [b3, b0 51 (Or.inl rfl), f3], fun k hk => ?_⟩
        rw [b4, b5, b0 52 (Or.inr rfl)]
        by_cases w1 : l' = 1
        · have k0 : k = 0 := by omega
          subst k0
          have u1 := f4.1 w1
          have u2 := z6 w1
          cases ef : fst1 (hit1 A col (hL h (64 + 2 * j)) (bcN A col (oN A))) (3 * oN A) 0 with
          | none =>
            have := (fst1_cnt _).mp ef
            have := (resF_s er).1 w1
            omega
          | some p =>
            have v1 := u1 p ef
            have v2 := u2 p ef
            rw [vw_0, vw_1, Nat.zero_add] at v2
            rw [v2.1, v2.2, Nat.mul_zero, Nat.zero_add, v1.1, v1.2]
            exact ⟨rfl, rfl⟩
        · have w2 : l' = 2 := by omega
          have u1 := f4.2 w2
          have u2 := z7 w2
          cases ef : fst1 (any2 A col (hL h (64 + 2 * j)) (bcN A col (oN A))) (3 * oN A) 0 with
          | none =>
            have := (tot2_0 _ _ _ _ _).mpr ef
            have := (resF_s er).2 w2
            omega
          | some p =>
            have v1 := u1 p ef
            have v2 := u2 p ef
            rw [vw_0, vw_1] at v2
            by_cases k0 : k = 0
            · subst k0
              rw [v2.1, v2.2.1, Nat.mul_zero, Nat.zero_add, v1.1, v1.2.1]
              exact ⟨rfl, rfl⟩
            · have k1 : k = 1 := by omega
              subst k1
              cases eg : fst1 (hbI A col (hL h (64 + 2 * j)) (bcN A col (oN A)) p) (bhN A (p / 3)) 0 with
              | none =>
                have g1 := (fst1_cnt _).mp eg
                have g2 := of_decide_eq_true (fst1_lt _ _ _ ef).2.2
                unfold ct2 at g2
                by_cases n13 : misV A col p = 13
                · rw [if_pos n13] at g2; exact absurd g2 (Nat.lt_irrefl 0)
                · rw [if_neg n13] at g2; omega
              | some p2 =>
                have v3 := v1.2.2 p2 eg
                have v4 := v2.2.2 p2 eg
                rw [vw_2, vw_3] at v4
                rw [v4.1, v4.2, v3.1, v3.2]
                exact ⟨rfl, rfl⟩
