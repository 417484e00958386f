/-! ===== parts: the reference's ways, all cards ===== -/
def MP (h : Hp) (A : Ho) (a0 a1 : Nat → Bool) (lt : Nat → Nat → Bool) (x1 x2 : Int32) : Prop := RmH h 0 A ∧ (∀ c, c < oN A → (a0 (c + 1) = true) = ((oK A (oD A c) = mN ∨ oK A (oD A c) = nI 0) ∧ (nI (oD A c) = x1 → x2 = nI 0)) ∧ (a1 (c + 1) = true) = ((oK A (oD A c) = mN ∨ oK A (oD A c) = nI 1) ∧ (nI (oD A c) = x1 → x2 = nI 1))) ∧ (∀ x c, x ≠ 0 → x < c → c ≤ oN A → (hI h 143 c ≤ hI h 143 x) = (lt x c = false)) ∧ ∀ c, lt 0 c = true
theorem MP_c {h h' : Hp} {A : Ho} {a0 a1 : Nat → Bool} {lt : Nat → Nat → Bool} {x1 x2 : Int32} (e1 : hI h' 123 = hI h 123) (e2 : hI h' 143 = hI h 143) (p : MP h A a0 a1 lt x1 x2) : MP h' A a0 a1 lt x1 x2 := by
  refine ⟨RmH_congr e1 p.1, p.2.1, ?_, p.2.2.2⟩
  rw [e2]
  exact p.2.2.1
theorem m_w93 {h : Hp} {A : Ho} {q c : Nat} {a0 a1 : Nat → Bool} {lt : Nat → Nat → Bool} {x1 x2 x3 : Int32} {W : Nat → Nat} (ok : HoOk q A) (p : MP h A a0 a1 lt x1 x2) (hc : c < oN A) (tw : TBw h 144 W) (tm : TBw h 145 (fun _ => 0)) (sp : ∀ k, k < 961 → W k ≠ 0 → k / 31 < c + 1 ∧ k % 31 < c + 1) (wb : ∀ k, k < 961 → W k ≤ 1073741824) : ∃ h', L_X12_waysOf_93 h 122 x1 x2 x3 (nI (c + 1)) (nI (oD A c)) (nI 0) = some h' ∧ TBw h' 145 (fun r => smN (ctW (a0 (c + 1)) (a1 (c + 1)) lt (c + 1) W r) 961) ∧ (∀ e, e ≠ 145 → hI h' e = hI h e) ∧ hL h' = hL h := by
  have hA := ok.1
  have key := iterW_inv (f := fun s : Hp × Int32 => B_X12_waysOf_93 s.1 122 x1 x2 x3 (nI (c + 1)) (nI (oD A c)) s.2) (fun m s => s.2 = nI m ∧ TBw s.1 145 (fun r => smN (ctW (a0 (c + 1)) (a1 (c + 1)) lt (c + 1) W r) m) ∧ (∀ e, e ≠ 145 → hI s.1 e = hI h e) ∧ hL s.1 = hL h) (fun r => TBw r 145 (fun r => smN (ctW (a0 (c + 1)) (a1 (c + 1)) lt (c + 1) W r) 961) ∧ (∀ e, e ≠ 145 → hI r e = hI h e) ∧ hL r = hL h) 961 (fun m s hm P => ?_) (fun s P => ?_) (s := (h, nI 0)) ⟨rfl, tm, fun _ _ => rfl, rfl⟩
  · exact key
  · obtain ⟨hx, x5⟩ := s
    obtain ⟨e5, p1, p2, p3⟩ := P
    have e5 : x5 = nI m := e5
    subst e5
    have p2 : ∀ e, e ≠ 145 → hI hx e = hI h e := p2
    have wm : hI hx 144 m = nI (W m) := by rw [p2 144 (by decide)]; exact tw m hm
    have wl := wb m hm
    show ∃ s', B_X12_waysOf_93 hx 122 x1 x2 x3 (nI (c + 1)) (nI (oD A c)) (nI m) = _ ∧ _
    by_cases w0 : W m = 0
    · refine ⟨(hx, nI (m + 1)), ?_, rfl, fun r hr => ?_, p2, p3⟩
      · unfold B_X12_waysOf_93
        rw [w0] at wm
        simp (disch := omega) only [↓m1_n, li_n, li_0, li_1, lt_y, lt_n, le_y, le_n, eq_n, nL, nLe, nEq, nEm, mEn, nLm, mLn, nLem, mLen, nI_add, nI_mul, nI_sub, nI_m, ib_nI, nx_nI, gd_y, bnd_e, bind_y, ↓reduceIte, hI_uI_o, hI_uI_s, hI_uI_e, hL_uI, hI_uL, hL_uL_o, hL_uL_s, hL_uL_e, and1_a, and1_b, Bool.not_true, Bool.not_false, Nat.zero_add, Nat.add_zero, Nat.add_sub_cancel, eq_self, ne_b, g0_0, g0_1, g0_2, g0_3, g0_4, g0_5, g0_6, g0_7, g0_8, g0_9, n1, n2, g3_2, g3_3, g3_4, g3_5, g3_6, g3_7, g3_8, g3_9, n4, n5, n6, n7, n8, n9, g10_2, g10_3, g10_4, g10_5, n11, n12, n13, n14, g15_2, g15_3, g15_4, g15_5, n16, n17, n18, n19, g40_0, g40_1, g40_2, g44_0, g44_2, g44_3, g44_5, g44_6, g44_10, g51_3, g51_4, g51_5, g51_6, g51_7, g57_3, g57_4, g57_5, g57_6, g57_7, n120, n121, g122_0, g122_4, g122_5, g122_6, g122_7, g122_8, g122_18, g122_19, g122_20, g122_21, g122_24, g122_25, g122_28, g122_29, g122_31, g122_32, g122_33, g122_39, g122_40, g122_41, g122_45, g122_46, g122_47, g122_48, n123, n124, n125, n126, n127, n128, n129, n130, n131, n132, n133, n134, n135, n136, n137, n138, n139, n140, n141, n142, n143, n144, n145, n146, n144, wm]
      · have : ctW (a0 (c + 1)) (a1 (c + 1)) lt (c + 1) W r m = 0 := by
          unfold ctW
          rw [w0]
          split <;> split <;> rfl
        show hI hx 145 r = nI (smN (ctW (a0 (c + 1)) (a1 (c + 1)) lt (c + 1) W r) m + ctW (a0 (c + 1)) (a1 (c + 1)) lt (c + 1) W r m)
        rw [this, Nat.add_zero]
        exact p1 r hr
    · have s := sp m hm w0
      have px := MP_c (p2 123 (by decide)) (p2 143 (by decide)) p
      have dl := (ok.2.1 c hc).2.2.2.2
      obtain ⟨h1, b1, b2, b3, b4⟩ := m_131 (x3 := x3) (k := m) (fun hy ey => mIn ok (RmH_congr ey px.1) dl) (px.2.1 c hc).1 (px.2.1 c hc).2 (by omega : c + 1 < 31) hm s.1 s.2 (px.2.2.2 (c + 1)) (fun l l1 l2 => px.2.2.1 l (c + 1) l1 l2 (by omega)) (fun k hk => by rw [p2 144 (by decide)]; exact tw k hk) p1
      have dv : nI m / nI 31 = nI (m / 31) := pdv (by omega) (by decide) (by decide)
      have rv : m - m / 31 * 31 = m % 31 := by omega
      refine ⟨(h1, nI (m + 1)), ?_, rfl, b2, fun e he => (b3 e he).trans (p2 e he), b4.trans p3⟩
      unfold B_X12_waysOf_93
      simp (disch := omega) only [↓m1_n, li_n, li_0, li_1, lt_y, lt_n, le_y, le_n, eq_n, nL, nLe, nEq, nEm, mEn, nLm, mLn, nLem, mLen, nI_add, nI_mul, nI_sub, nI_m, ib_nI, nx_nI, gd_y, bnd_e, bind_y, ↓reduceIte, hI_uI_o, hI_uI_s, hI_uI_e, hL_uI, hI_uL, hL_uL_o, hL_uL_s, hL_uL_e, and1_a, and1_b, Bool.not_true, Bool.not_false, Nat.zero_add, Nat.add_zero, Nat.add_sub_cancel, eq_self, ne_b, g0_0, g0_1, g0_2, g0_3, g0_4, g0_5, g0_6, g0_7, g0_8, g0_9, n1, n2, g3_2, g3_3, g3_4, g3_5, g3_6, g3_7, g3_8, g3_9, n4, n5, n6, n7, n8, n9, g10_2, g10_3, g10_4, g10_5, n11, n12, n13, n14, g15_2, g15_3, g15_4, g15_5, n16, n17, n18, n19, g40_0, g40_1, g40_2, g44_0, g44_2, g44_3, g44_5, g44_6, g44_10, g51_3, g51_4, g51_5, g51_6, g51_7, g57_3, g57_4, g57_5, g57_6, g57_7, n120, n121, g122_0, g122_4, g122_5, g122_6, g122_7, g122_8, g122_18, g122_19, g122_20, g122_21, g122_24, g122_25, g122_28, g122_29, g122_31, g122_32, g122_33, g122_39, g122_40, g122_41, g122_45, g122_46, g122_47, g122_48, n123, n124, n125, n126, n127, n128, n129, n130, n131, n132, n133, n134, n135, n136, n137, n138, n139, n140, n141, n142, n143, n144, n145, n146, n144, wm, w0, dv, rv, b1]
  · obtain ⟨hx, x5⟩ := s
    obtain ⟨e5, P⟩ := P
    have e5 : x5 = nI 961 := e5
    subst e5
    refine ⟨hx, ?_, P⟩
    show B_X12_waysOf_93 hx 122 x1 x2 x3 (nI (c + 1)) (nI (oD A c)) (nI 961) = _
    unfold B_X12_waysOf_93
    simp (disch := omega) only [↓m1_n, li_n, li_0, li_1, lt_y, lt_n, le_y, le_n, eq_n, nL, nLe, nEq, nEm, mEn, nLm, mLn, nLem, mLen, nI_add, nI_mul, nI_sub, nI_m, ib_nI, nx_nI, gd_y, bnd_e, bind_y, ↓reduceIte, hI_uI_o, hI_uI_s, hI_uI_e, hL_uI, hI_uL, hL_uL_o, hL_uL_s, hL_uL_e, and1_a, and1_b, Bool.not_true, Bool.not_false, Nat.zero_add, Nat.add_zero, Nat.add_sub_cancel, eq_self, ne_b, g0_0, g0_1, g0_2, g0_3, g0_4, g0_5, g0_6, g0_7, g0_8, g0_9, n1, n2, g3_2, g3_3, g3_4, g3_5, g3_6, g3_7, g3_8, g3_9, n4, n5, n6, n7, n8, n9, g10_2, g10_3, g10_4, g10_5, n11, n12, n13, n14, g15_2, g15_3, g15_4, g15_5, n16, n17, n18, n19, g40_0, g40_1, g40_2, g44_0, g44_2, g44_3, g44_5, g44_6, g44_10, g51_3, g51_4, g51_5, g51_6, g51_7, g57_3, g57_4, g57_5, g57_6, g57_7, n120, n121, g122_0, g122_4, g122_5, g122_6, g122_7, g122_8, g122_18, g122_19, g122_20, g122_21, g122_24, g122_25, g122_28, g122_29, g122_31, g122_32, g122_33, g122_39, g122_40, g122_41, g122_45, g122_46, g122_47, g122_48, n123, n124, n125, n126, n127, n128, n129, n130, n131, n132, n133, n134, n135, n136, n137, n138, n139, n140, n141, n142, n143, n144, n145, n146]
theorem smN_mem {f : Nat → Nat} : ∀ n k, k < n → f k ≤ smN f n := by
  intro n
  induction n with
  | zero => intro k h; exact absurd h (Nat.not_lt_zero k)
  | succ n ih =>
    intro k hk
    rw [smN]
    by_cases e : k = n
    · subst e; omega
    · have := ih k (by omega)
      omega
theorem tW_le {a0 a1 : Nat → Bool} {lt : Nat → Nat → Bool} {c k : Nat} (hc : c < 31) (hk : k < 961) : tW a0 a1 lt c k ≤ 1073741824 := by
  refine Nat.le_trans (smN_mem 961 k hk) ?_
  rw [tW_sum hc]
  by_cases z : c = 0
  · rw [if_pos z]; omega
  · rw [if_neg z]
    refine Nat.le_trans (wt_le _ _ _ _) ?_
    exact Nat.pow_le_pow_right (n := 2) (by decide) (by omega : c - 1 + 1 ≤ 30)
theorem m_ways {h : Hp} {A : Ho} {q : Nat} {a0 a1 : Nat → Bool} {lt : Nat → Nat → Bool} {x1 x2 : Int32} (ok : HoOk q A) (p : MP h A a0 a1 lt x1 x2) : ∃ h', F_X12_waysOf h 122 x1 x2 = some (h', nI (if oN A = 0 then 1 else wt a0 a1 lt (oN A - 1))) ∧ (∀ e, e ≠ 144 → e ≠ 145 → hI h' e = hI h e) ∧ hL h' = hL h := by
  have hA := ok.1
  obtain ⟨h1, a1', a2, a3, a4⟩ := m_w10 (h := h) (x1 := x1) (x2 := x2) (x3 := nI (oN A))
  have key := iterW_inv (f := fun s : Hp × Int32 => B_X12_waysOf_44 s.1 122 x1 x2 (nI (oN A)) s.2) (fun m s => s.2 = nI (m + 1) ∧ TBw s.1 144 (tW a0 a1 lt m) ∧ (∀ e, e ≠ 144 → e ≠ 145 → hI s.1 e = hI h e) ∧ hL s.1 = hL h) (fun r => TBw r 144 (tW a0 a1 lt (oN A)) ∧ (∀ e, e ≠ 144 → e ≠ 145 → hI r e = hI h e) ∧ hL r = hL h) (oN A) (fun m s hm P => ?_) (fun s P => ?_) (s := (h1, nI 1)) ⟨rfl, a2, fun e p _ => a3 e p, a4⟩
  · obtain ⟨h2, k1, k2, k3, k4⟩ := key
    have k1 : L_X12_waysOf_44 h1 122 x1 x2 (nI (oN A)) (nI 1) = some h2 := k1
    have k5 := m_w316 k2
    rw [tW_sum (by omega)] at k5
    refine ⟨h2, ?_, k3, k4⟩
    have n0 := mNc p.1
    unfold F_X12_waysOf
    generalize (if oN A = 0 then 1 else wt a0 a1 lt (oN A - 1)) = v at *
    simp (disch := omega) only [↓m1_n, li_n, li_0, li_1, lt_y, lt_n, le_y, le_n, eq_n, nL, nLe, nEq, nEm, mEn, nLm, mLn, nLem, mLen, nI_add, nI_mul, nI_sub, nI_m, ib_nI, nx_nI, gd_y, bnd_e, bind_y, ↓reduceIte, hI_uI_o, hI_uI_s, hI_uI_e, hL_uI, hI_uL, hL_uL_o, hL_uL_s, hL_uL_e, and1_a, and1_b, Bool.not_true, Bool.not_false, Nat.zero_add, Nat.add_zero, Nat.add_sub_cancel, eq_self, ne_b, g0_0, g0_1, g0_2, g0_3, g0_4, g0_5, g0_6, g0_7, g0_8, g0_9, n1, n2, g3_2, g3_3, g3_4, g3_5, g3_6, g3_7, g3_8, g3_9, n4, n5, n6, n7, n8, n9, g10_2, g10_3, g10_4, g10_5, n11, n12, n13, n14, g15_2, g15_3, g15_4, g15_5, n16, n17, n18, n19, g40_0, g40_1, g40_2, g44_0, g44_2, g44_3, g44_5, g44_6, g44_10, g51_3, g51_4, g51_5, g51_6, g51_7, g57_3, g57_4, g57_5, g57_6, g57_7, n120, n121, g122_0, g122_4, g122_5, g122_6, g122_7, g122_8, g122_18, g122_19, g122_20, g122_21, g122_24, g122_25, g122_28, g122_29, g122_31, g122_32, g122_33, g122_39, g122_40, g122_41, g122_45, g122_46, g122_47, g122_48, n123, n124, n125, n126, n127, n128, n129, n130, n131, n132, n133, n134, n135, n136, n137, n138, n139, n140, n141, n142, n143, n144, n145, n146, n0, a1', k1, k5]
  · obtain ⟨hx, x5⟩ := s
    obtain ⟨e5, p1, p2, p3⟩ := P
    have e5 : x5 = nI (m + 1) := e5
    subst e5
    have p1 : TBw hx 144 (tW a0 a1 lt m) := p1
    have p2 : ∀ e, e ≠ 144 → e ≠ 145 → hI hx e = hI h e := p2
    have px := MP_c (p2 123 (by decide) (by decide)) (p2 143 (by decide) (by decide)) p
    have dx := mDe px.1 hm
    have e338 : 338 + (m + 1) - 1 = 338 + m := by omega
    obtain ⟨h2, b1, b2, b3, b4⟩ := m_w68 (h := hx) (x1 := x1) (x2 := x2) (x3 := nI (oN A)) (x4 := nI (m + 1)) (x5 := nI (oD A m))
    have p4 := MP_c (b3 123 (by decide)) (b3 143 (by decide)) px
    obtain ⟨h3, c1, c2, c3, c4⟩ := m_w93 (x3 := nI (oN A)) ok p4 hm (fun k hk => by rw [b3 144 (by decide)]; exact p1 k hk) b2 (fun k _ z => by have := tW_sup z; omega) (fun k hk => tW_le (by omega) hk)
    have c2' : TBw h3 145 (tW a0 a1 lt (m + 1)) := fun r hr => by
      rw [c2 r hr]
      exact congrArg nI (tW_step (by omega) hr (p.2.2.2 1))
    obtain ⟨h4, d1, d2, d3, d4⟩ := m_w276 (x1 := x1) (x2 := x2) (x3 := nI (oN A)) (x4 := nI (m + 1)) c2'
    refine ⟨(h4, nI (m + 1 + 1)), ?_, rfl, d2, fun e z1 z2 => by rw [d3 e z1, c3 e z2, b3 e z2]; exact p2 e z1 z2, d4.trans (c4.trans (b4.trans p3))⟩
    show B_X12_waysOf_44 hx 122 x1 x2 (nI (oN A)) (nI (m + 1)) = _
    unfold B_X12_waysOf_44
    simp (disch := omega) only [↓m1_n, li_n, li_0, li_1, lt_y, lt_n, le_y, le_n, eq_n, nL, nLe, nEq, nEm, mEn, nLm, mLn, nLem, mLen, nI_add, nI_mul, nI_sub, nI_m, ib_nI, nx_nI, gd_y, bnd_e, bind_y, ↓reduceIte, hI_uI_o, hI_uI_s, hI_uI_e, hL_uI, hI_uL, hL_uL_o, hL_uL_s, hL_uL_e, and1_a, and1_b, Bool.not_true, Bool.not_false, Nat.zero_add, Nat.add_zero, Nat.add_sub_cancel, eq_self, ne_b, g0_0, g0_1, g0_2, g0_3, g0_4, g0_5, g0_6, g0_7, g0_8, g0_9, n1, n2, g3_2, g3_3, g3_4, g3_5, g3_6, g3_7, g3_8, g3_9, n4, n5, n6, n7, n8, n9, g10_2, g10_3, g10_4, g10_5, n11, n12, n13, n14, g15_2, g15_3, g15_4, g15_5, n16, n17, n18, n19, g40_0, g40_1, g40_2, g44_0, g44_2, g44_3, g44_5, g44_6, g44_10, g51_3, g51_4, g51_5, g51_6, g51_7, g57_3, g57_4, g57_5, g57_6, g57_7, n120, n121, g122_0, g122_4, g122_5, g122_6, g122_7, g122_8, g122_18, g122_19, g122_20, g122_21, g122_24, g122_25, g122_28, g122_29, g122_31, g122_32, g122_33, g122_39, g122_40, g122_41, g122_45, g122_46, g122_47, g122_48, n123, n124, n125, n126, n127, n128, n129, n130, n131, n132, n133, n134, n135, n136, n137, n138, n139, n140, n141, n142, n143, n144, n145, n146, e338, dx, b1, c1, d1]
  · obtain ⟨hx, x5⟩ := s
    obtain ⟨e5, P⟩ := P
    have e5 : x5 = nI (oN A + 1) := e5
    subst e5
    refine ⟨hx, ?_, P⟩
    show B_X12_waysOf_44 hx 122 x1 x2 (nI (oN A)) (nI (oN A + 1)) = _
    unfold B_X12_waysOf_44
    simp (disch := omega) only [↓m1_n, li_n, li_0, li_1, lt_y, lt_n, le_y, le_n, eq_n, nL, nLe, nEq, nEm, mEn, nLm, mLn, nLem, mLen, nI_add, nI_mul, nI_sub, nI_m, ib_nI, nx_nI, gd_y, bnd_e, bind_y, ↓reduceIte, hI_uI_o, hI_uI_s, hI_uI_e, hL_uI, hI_uL, hL_uL_o, hL_uL_s, hL_uL_e, and1_a, and1_b, Bool.not_true, Bool.not_false, Nat.zero_add, Nat.add_zero, Nat.add_sub_cancel, eq_self, ne_b, g0_0, g0_1, g0_2, g0_3, g0_4, g0_5, g0_6, g0_7, g0_8, g0_9, n1, n2, g3_2, g3_3, g3_4, g3_5, g3_6, g3_7, g3_8, g3_9, n4, n5, n6, n7, n8, n9, g10_2, g10_3, g10_4, g10_5, n11, n12, n13, n14, g15_2, g15_3, g15_4, g15_5, n16, n17, n18, n19, g40_0, g40_1, g40_2, g44_0, g44_2, g44_3, g44_5, g44_6, g44_10, g51_3, g51_4, g51_5, g51_6, g51_7, g57_3, g57_4, g57_5, g57_6, g57_7, n120, n121, g122_0, g122_4, g122_5, g122_6, g122_7, g122_8, g122_18, g122_19, g122_20, g122_21, g122_24, g122_25, g122_28, g122_29, g122_31, g122_32, g122_33, g122_39, g122_40, g122_41, g122_45, g122_46, g122_47, g122_48, n123, n124, n125, n126, n127, n128, n129, n130, n131, n132, n133, n134, n135, n136, n137, n138, n139, n140, n141, n142, n143, n144, n145, n146]
