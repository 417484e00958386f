/-! ===== plan, the call ===== -/
theorem Inv_pl {q : Nat} {h h' : Hp} (a : ∀ d, d ≠ 0 → (d < 41 ∨ 50 < d) → d ≠ 122 → (d < 133 ∨ 139 < d) → hI h' d = hI h d) (b : hL h' = hL h) (e2 : ∀ k, k ≠ 10 → hI h' 0 k = hI h 0 k) (e3 : ∀ k, k ≠ 1 → k ≠ 26 → k ≠ 27 → k ≠ 30 → k ≠ 34 → k ≠ 35 → hI h' 122 k = hI h 122 k) (st : hI h' 122 1 = hI h' 0 10) (ip : Ipl h') (i : Inv q h) : Inv (q + 1) h' := by
  have E : ∀ d, d ≠ 0 → d ≠ 122 → (d < 41 ∨ 50 < d) → (d < 133 ∨ 139 < d) → hI h' d = hI h d ∧ hL h' d = hL h d := fun d p q r s => ⟨a d p r q s, by rw [b]⟩
  have K : ∀ k, 37 ≤ k ∨ k = 9 ∨ k = 15 ∨ k = 16 → hI h' 122 k = hI h 122 k := fun k hk => e3 k (by omega) (by omega) (by omega) (by omega) (by omega) (by omega)
  obtain ⟨i1, i2, i3, i4, -, i6, i7, i8⟩ := i
  refine ⟨Iho_congr (fun d _ _ => (E d (by omega) (by omega) (by omega) (by omega)).1) (fun d _ _ => (E d (by omega) (by omega) (by omega) (by omega)).1) (E 123 (by decide) (by decide) (by decide) (by decide)).1 (e2 14 (by decide)) (K 51 (by decide)) i1.mono, Itr_congr (fun d _ _ => E d (by omega) (by omega) (by omega) (by omega)) (E 124 (by decide) (by decide) (by decide) (by decide)).1 (E 125 (by decide) (by decide) (by decide) (by decide)).1 (E 126 (by decide) (by decide) (by decide) (by decide)).2 i2, Itp_congr (e2 13 (by decide)) (K 9 (by decide)) (E 2 (by decide) (by decide) (by decide) (by decide)).1 (E 127 (by decide) (by decide) (by decide) (by decide)).1 i3, ⟨st, ?_, ?_, ?_, ?_⟩, ip, Irn_congr (E 40 (by decide) (by decide) (by decide) (by decide)).1 (E 40 (by decide) (by decide) (by decide) (by decide)).2 (by rw [b]) (K 37 (by decide)) (K 38 (by decide)) i6, ?_, Ipa_congr (E 57 (by decide) (by decide) (by decide) (by decide)).1 (E 58 (by decide) (by decide) (by decide) (by decide)).1 (E 146 (by decide) (by decide) (by decide) (by decide)).1 (K 49 (by decide)) (K 50 (by decide)) i8⟩
  · rw [b]; exact i4.2.1
  · rw [b]; exact i4.2.2.1
  · rw [K 15 (by decide), e2 15 (by decide)]; exact i4.2.2.2.1
  · rw [K 16 (by decide), e2 16 (by decide)]; exact i4.2.2.2.2
  · unfold Imi at *
    rw [(E 51 (by decide) (by decide) (by decide) (by decide)).1, (E 52 (by decide) (by decide) (by decide) (by decide)).1, (E 141 (by decide) (by decide) (by decide) (by decide)).1, (E 142 (by decide) (by decide) (by decide) (by decide)).1, K 42 (by decide), K 43 (by decide)]
    exact i7
theorem op_plan (q : Nat) (h : Hp) (x y : Int32) (_ : q < 512) (i : Inv q h) : ∃ h1 h2 r, F_X11_plan h 0 x y = some (h1, r) ∧ F_X12_plan h1 122 x y = some (h2, r) ∧ Inv (q + 1) h2 := by
  obtain ⟨A, m, Mk, ok, rc, rm, hm, m1, m2, mk⟩ := id i.1
  have hA := ok.1
  rcases key_x i x y with ⟨s, s0, s1, e1, e2⟩ | ⟨j, n, g, hj, nn1, n4, rfl, rfl, hg, e1, e2⟩
  · obtain ⟨h2, x1, x2⟩ := e2 (uI h 0 10 s) (Up_uI (by decide))
    refine ⟨uI h 0 10 s, uI h2 122 1 s, -1, ?_, ?_, ?_⟩
    · unfold F_X11_plan
      rw [e1, Option.bind_some, if_neg s0]
      rfl
    · unfold F_X12_plan
      rw [x1, Option.bind_some]
      dsimp only
      rw [if_neg (Int32.not_le.mpr s1)]
      rfl
    · refine Inv_fx ((Fx_s.trans x2.fx).trans (Fx_m (by unfold Kv; omega))) ?_ i
      rw [hI_uI_e, hI_uI_o (by decide), x2.1 0 (by decide) (by decide) (by decide), hI_uI_e]
  · obtain ⟨h1, a1, a2, a3, a4, a5⟩ := c_takeKey ok rc hj n4 hg
    have hg' : ∀ k, k < n → g k < 24 := fun k hk => (hg k hk).1
    have hcl : ∀ i, clP (inK g n) i < 8 := fun i => clP_lt
    have d4 := cnt_inK (g := g) n
    have d1 := cnt_inK1 (g := g) nn1
    obtain ⟨h2, b1, b2, b3, b4⟩ := c_gather (h := h1) (g := g) n4 hg' a3 a4
    have rc1 := a2.rc rc
    have rc2 : RcH h2 3 A := RcH_congr (fun d _ _ => b2.1 d (by omega) (by omega)) rc1
    obtain ⟨h3, r, c1, c2, c3⟩ := c_seek (h := h2) (rk := rnk A g n) (cl := clP (inK g n)) ok rc2 (show 0 < cnt (inK g n) 8 from d1) (by omega) hcl b3 b4 (fun x hx => by rw [b2.1 46 (by decide) (by decide)]; exact a5 x hx) (fun c => rnk_lt n4)
    have EC : ∀ d, (d < 41 ∨ 50 < d) → hI h3 d = hI h d := fun d hd => by
      rw [c2.1 d (by omega) (by omega) (by omega) (by omega) (by omega) (by omega), b2.1 d (by omega) (by omega), a2.1 d (by omega) (by omega) (by omega)]
    have LC : hL h3 = hL h := by rw [c2.2.2, b2.2.2, a2.2.2]
    have S44 : ∀ k, 7 ≤ k → k ≤ 9 → hI h2 44 k = hI h 44 k := fun k k1 k2 => by rw [b2.2.1 k (by omega), a2.2.1 k (by omega)]
    have S50 : hI h2 50 = hI h 50 := by rw [b2.1 50 (by decide) (by decide), a2.1 50 (by decide) (by decide) (by decide)]
    generalize hd : cnt (inK g n) 8 = d at *
    generalize hcc : clP (inK g n) = cl at *
    have ref : ∀ v : Int32, ∃ h7, (∀ d, d ≠ 122 → (d < 133 ∨ 139 < d) → hI h7 d = hI (uI h3 0 10 v) d) ∧ (∀ k, k ≠ 26 → k ≠ 27 → k ≠ 30 → hI h7 122 k = hI h 122 k) ∧ hL h7 = hL h ∧ ((F_X12_plan (uI h3 0 10 v) 122 (nI j) (nI n) = some (uI h7 122 1 (nI 6), mN) ∧ hI h7 139 = hI h 139 ∧ ∀ k, k < 6 → selR (vlR A (rnk A g n) cl d k) (d ^ k) = none) ∨ ∃ m p, F_X12_plan (uI h3 0 10 v) 122 (nI j) (nI n) = some (uI (uI (uI h7 122 34 (nI m)) 122 35 (nI p.1)) 122 1 (nI 0), nI m) ∧ m < 6 ∧ (∀ k, k < m → selR (vlR A (rnk A g n) cl d k) (d ^ k) = none) ∧ selR (vlR A (rnk A g n) cl d m) (d ^ m) = some p ∧ ∀ k, k < m → hI h7 139 k = nI (rwN cl d m p.2 k)) := by
      intro v
      have u : Up h (uI h3 0 10 v) := fun d hd => ⟨by rw [hI_uI_o (by omega), EC d (by omega)], by rw [hL_uI, LC]⟩
      obtain ⟨h5, x1, x2, x3, x4⟩ := e2 _ u
      obtain ⟨h6, y1, y2, y3, y4⟩ := m_gath (h := h5) (g := g) n4 x3 (fun k hk => (x4 k hk).1)
      rw [hd] at y1 y4
      rw [hcc] at y4
      have rm6 : RmH h6 0 A := RmH_congr (by rw [y2 123 (by decide), x2.1 123 (by decide) (by decide) (by decide)]) (u.rm rm)
      obtain ⟨h7, z1, z2⟩ := m_seek (h := h6) (g := g) (n := n) (cl := cl) ok rm6 d1 (by omega) hcl y4 n4 hg' (by rw [y2 122 (by decide)]; exact x3) (fun k hk => by rw [y2 135 (by decide), y2 136 (by decide)]; exact x4 k hk)
      refine ⟨h7, fun d q1 q2 => ?_, fun k q1 q2 q3 => ?_, ?_, ?_⟩
      · rw [z1.1 d (by omega) (by omega) (by omega) (by omega) q1, y2 d (by omega), x2.1 d (by omega) (by omega) q1]
      · rw [z1.2.1 k q1 q2, y2 122 (by decide), x2.2.1 k q3, (u 122 (by decide)).1]
      · rw [z1.2.2, y3, x2.2.2, hL_uI, LC]
      · have P : F_X12_plan (uI h3 0 10 v) 122 (nI j) (nI n) = L_X12_plan_107 h6 122 (nI d) (nI 1) (nI 0) := by
          unfold F_X12_plan
          rw [x1, Option.bind_some]
          dsimp only
          rw [if_pos (by decide)]
          have y1' : L_X12_plan_23 h5 122 0 0 = some (h6, nI d) := y1
          rw [y1', Option.bind_some]
          rfl
        rw [P]
        rcases z2 with ⟨w1, w2, w3⟩ | ⟨m', p, w1, w2, w3, w4, w5⟩
        · exact Or.inl ⟨w1, by rw [w2, y2 139 (by decide), x2.1 139 (by decide) (by decide) (by decide), (u 139 (by decide)).1], w3⟩
        · exact Or.inr ⟨m', p, w1, w2, w3, w4, w5⟩
    have SE : F_X6_search h1 44 3 40 = some (h3, r) := by
      unfold F_X6_search
      rw [b1, Option.bind_some]
      exact c1
    have S0 : ∀ V : Hp, (∀ d, d ≠ 122 → (d < 133 ∨ 139 < d) → hI V d = hI (uI h3 0 10 (hI V 0 10)) d) → True := fun _ _ => trivial
    rcases c3 with ⟨rfl, t1, t2, t3⟩ | ⟨rfl, m', p, t1, t2, t3, t4, t5, t6, t7⟩
    · obtain ⟨h7, v1, v2, v3, v4⟩ := ref (nI 6)
      have bt := sel_both (A := A) (rk := rnk A g n) (cl := cl) d1 (d + 1) (fun k hk => t3 k (by omega))
      rcases v4 with ⟨w1, w2, w3⟩ | ⟨m2, p2, w1, w2, w3, w4, w5⟩
      · refine ⟨uI h3 0 10 (nI 6), uI h7 122 1 (nI 6), mN, ?_, w1, ?_⟩
        · unfold F_X11_plan F_X11_refuse
          simp (disch := omega) only [↓m1_n, li_n, li_0, li_1, lt_y, lt_n, le_y, le_n, eq_n, nL, nLe, nEq, nEm, mEn, nLm, mLn, nLem, mLen, nI_add, nI_mul, nI_sub, nI_m, ib_nI, nx_nI, gd_y, bnd_e, bind_y, ↓reduceIte, hI_uI_o, hI_uI_s, hI_uI_e, hL_uI, hI_uL, hL_uL_o, hL_uL_s, hL_uL_e, and1_a, and1_b, Bool.not_true, Bool.not_false, Nat.zero_add, Nat.add_zero, Nat.add_sub_cancel, eq_self, ne_b, g0_0, g0_1, g0_2, g0_3, g0_4, g0_5, g0_6, g0_7, g0_8, g0_9, n1, n2, g3_2, g3_3, g3_4, g3_5, g3_6, g3_7, g3_8, g3_9, n4, n5, n6, n7, n8, n9, g10_2, g10_3, g10_4, g10_5, n11, n12, n13, n14, g15_2, g15_3, g15_4, g15_5, n16, n17, n18, n19, g40_0, g40_1, g40_2, g44_0, g44_2, g44_3, g44_5, g44_6, g44_10, g51_3, g51_4, g51_5, g51_6, g51_7, g57_3, g57_4, g57_5, g57_6, g57_7, n120, n121, g122_0, g122_4, g122_5, g122_6, g122_7, g122_8, g122_18, g122_19, g122_20, g122_21, g122_24, g122_25, g122_28, g122_29, g122_31, g122_32, g122_33, g122_39, g122_40, g122_41, g122_45, g122_46, g122_47, g122_48, n123, n124, n125, n126, n127, n128, n129, n130, n131, n132, n133, n134, n135, n136, n137, n138, n139, n140, n141, n142, n143, n144, n145, n146, n45, n46, n47, n48, n49, n50, decide_false, e1, gT j hj, gT3 j hj, a1, SE]
        · refine Inv_pl (fun d q1 q2 q3 q4 => ?_) ?_ (fun k q1 => ?_) (fun k q1 q2 q3 q4 q5 q6 => ?_) ?_ ?_ i
          · rw [hI_uI_o q3, v1 d q3 q4, hI_uI_o q1, EC d q2]
          · rw [hL_uI, v3]
          · rw [hI_uI_o (by decide), v1 0 (by decide) (by decide), hI_uI_s q1, EC 0 (by decide)]
          · rw [hI_uI_s q1, v2 k q2 q3 q4]
          · rw [hI_uI_e, hI_uI_o (by decide), v1 0 (by decide) (by decide), hI_uI_e]
          · have i5 := i.2.2.2.2.1
            have o44 : ∀ k, 7 ≤ k → k ≤ 9 → hI (uI h7 122 1 (nI 6)) 44 k = hI h 44 k := fun k k1 k2 => by
              rw [hI_uI_o (by decide), v1 44 (by decide) (by decide), hI_uI_o (by decide), t1, S44 k k1 k2]
            have o50 : hI (uI h7 122 1 (nI 6)) 50 = hI h 50 := by
              rw [hI_uI_o (by decide), v1 50 (by decide) (by decide), hI_uI_o (by decide), t2, S50]
            have o139 : hI (uI h7 122 1 (nI 6)) 139 = hI h 139 := by rw [hI_uI_o (by decide), w2]
            have o34 : ∀ k, k = 34 ∨ k = 35 → hI (uI h7 122 1 (nI 6)) 122 k = hI h 122 k := fun k hk => by
              rw [hI_uI_s (by omega), v2 k (by omega) (by omega) (by omega)]
            unfold Ipl at *
            rw [o44 7 (by decide) (by decide), o44 8 (by decide) (by decide), o44 9 (by decide) (by decide), o50, o139, o34 34 (by decide), o34 35 (by decide)]
            exact i5
      · exfalso
        by_cases l : m2 ≤ d
        · rw [bt m2 (by omega)] at w4
          cases w4
        · have := sel_big (A := A) (rk := rnk A g n) (cl := cl) (m := m2) d1 (by omega)
          rw [sel_eq d1 (fun _ => w3 (m2 - 1) (by omega)), w4] at this
          cases this
    · obtain ⟨h7, v1, v2, v3, v4⟩ := ref (nI 0)
      have bt := sel_both (A := A) (rk := rnk A g n) (cl := cl) d1 m' t2
      have t3' : selR (vlR A (rnk A g n) cl d m') (d ^ m') = some p := by
        rw [← sel_eq d1 (fun _ => bt (m' - 1) (by omega))]; exact t3
      rcases v4 with ⟨w1, w2, w3⟩ | ⟨m2, p2, w1, w2, w3, w4, w5⟩
      · exfalso
        rw [w3 m' (by omega)] at t3'
        cases t3'
      · have em : m2 = m' := by
          rcases Nat.lt_trichotomy m2 m' with l | l | l
          · rw [bt m2 l] at w4; cases w4
          · exact l
          · rw [w3 m' l] at t3'; cases t3'
        subst em
        rw [t3'] at w4
        cases w4
        refine ⟨uI h3 0 10 (nI 0), _, nI m2, ?_, w1, ?_⟩
        · unfold F_X11_plan F_X11_answer
          simp (disch := omega) only [↓m1_n, li_n, li_0, li_1, lt_y, lt_n, le_y, le_n, eq_n, nL, nLe, nEq, nEm, mEn, nLm, mLn, nLem, mLen, nI_add, nI_mul, nI_sub, nI_m, ib_nI, nx_nI, gd_y, bnd_e, bind_y, ↓reduceIte, hI_uI_o, hI_uI_s, hI_uI_e, hL_uI, hI_uL, hL_uL_o, hL_uL_s, hL_uL_e, and1_a, and1_b, Bool.not_true, Bool.not_false, Nat.zero_add, Nat.add_zero, Nat.add_sub_cancel, eq_self, ne_b, g0_0, g0_1, g0_2, g0_3, g0_4, g0_5, g0_6, g0_7, g0_8, g0_9, n1, n2, g3_2, g3_3, g3_4, g3_5, g3_6, g3_7, g3_8, g3_9, n4, n5, n6, n7, n8, n9, g10_2, g10_3, g10_4, g10_5, n11, n12, n13, n14, g15_2, g15_3, g15_4, g15_5, n16, n17, n18, n19, g40_0, g40_1, g40_2, g44_0, g44_2, g44_3, g44_5, g44_6, g44_10, g51_3, g51_4, g51_5, g51_6, g51_7, g57_3, g57_4, g57_5, g57_6, g57_7, n120, n121, g122_0, g122_4, g122_5, g122_6, g122_7, g122_8, g122_18, g122_19, g122_20, g122_21, g122_24, g122_25, g122_28, g122_29, g122_31, g122_32, g122_33, g122_39, g122_40, g122_41, g122_45, g122_46, g122_47, g122_48, n123, n124, n125, n126, n127, n128, n129, n130, n131, n132, n133, n134, n135, n136, n137, n138, n139, n140, n141, n142, n143, n144, n145, n146, n45, n46, n47, n48, n49, n50, decide_false, e1, gT j hj, gT3 j hj, a1, SE, t5]
        · refine Inv_pl (fun d q1 q2 q3 q4 => ?_) ?_ (fun k q1 => ?_) (fun k q1 q2 q3 q4 q5 q6 => ?_) ?_ ?_ i
          · rw [hI_uI_o q3, hI_uI_o q3, hI_uI_o q3, v1 d q3 q4, hI_uI_o q1, EC d q2]
          · rw [hL_uI, hL_uI, hL_uI, v3]
          · rw [hI_uI_o (by decide), hI_uI_o (by decide), hI_uI_o (by decide), v1 0 (by decide) (by decide), hI_uI_s q1, EC 0 (by decide)]
          · rw [hI_uI_s q1, hI_uI_s q6, hI_uI_s q5, v2 k q2 q3 q4]
          · rw [hI_uI_e, hI_uI_o (by decide), hI_uI_o (by decide), hI_uI_o (by decide), v1 0 (by decide) (by decide), hI_uI_e]
          · have o44 : ∀ X, X = 44 ∨ X = 50 → hI (uI (uI (uI h7 122 34 (nI m2)) 122 35 (nI p.1)) 122 1 (nI 0)) X = hI h3 X := fun X hX => by
              rw [hI_uI_o (by omega), hI_uI_o (by omega), hI_uI_o (by omega), v1 X (by omega) (by omega), hI_uI_o (by omega)]
            have o139 : hI (uI (uI (uI h7 122 34 (nI m2)) 122 35 (nI p.1)) 122 1 (nI 0)) 139 = hI h7 139 := by
              rw [hI_uI_o (by decide), hI_uI_o (by decide), hI_uI_o (by decide)]
            unfold Ipl
            rw [o44 44 (by decide), o44 50 (by decide), o139]
            refine Or.inr ⟨t4, m2, by omega, t5, by rw [hI_uI_s (by decide), hI_uI_s (by decide), hI_uI_e], by rw [hI_uI_s (by decide), hI_uI_e, t6], fun k hk => ?_⟩
            rw [w5 k hk, t7 k hk]
