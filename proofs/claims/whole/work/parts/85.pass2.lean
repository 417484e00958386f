/-! ===== pass, the reference and the call ===== -/
theorem exB_srt {R D : Nat → Nat} {t c : Nat} : exB (wrB (srt R D t) c) t = exB (wrB D c) t := by
  have : (exB (wrB (srt R D t) c) t = true) ↔ (exB (wrB D c) t = true) := by
    rw [exB_iff, exB_iff]
    constructor
    · rintro ⟨y, hy, e⟩
      obtain ⟨k, hk, rfl⟩ := psn_sur (R := R) hy
      refine ⟨k, hk, ?_⟩
      unfold wrB at *
      rw [srt_psn hk] at e
      exact e
    · rintro ⟨k, hk, e⟩
      refine ⟨psn R t k, psn_lt hk, ?_⟩
      unfold wrB at *
      rw [srt_psn hk]
      exact e
  cases e1 : exB (wrB (srt R D t) c) t <;> cases e2 : exB (wrB D c) t <;> simp [e1, e2] at this <;> rfl
/-- the reference's frame of what moves the deck -/
def FrD (h h' : Hp) : Prop := (∀ d, d ≠ 123 → d ≠ 133 → d ≠ 134 → d ≠ 122 → hI h' d = hI h d) ∧ (∀ k, k ≠ 26 → k ≠ 27 → hI h' 122 k = hI h 122 k) ∧ (∀ k, 368 ≤ k → hI h' 123 k = hI h 123 k) ∧ hL h' = hL h
theorem FrD.rf {h : Hp} : FrD h h := ⟨fun _ _ _ _ _ => rfl, fun _ _ _ => rfl, fun _ _ => rfl, rfl⟩
theorem FrD.trans {a b c : Hp} (x : FrD a b) (y : FrD b c) : FrD a c := ⟨fun d p q r s => (y.1 d p q r s).trans (x.1 d p q r s), fun k p q => (y.2.1 k p q).trans (x.2.1 k p q), fun k p => (y.2.2.1 k p).trans (x.2.2.1 k p), y.2.2.2.trans x.2.2.2⟩
theorem m_passDeck {h : Hp} {A : Ho} {q col : Nat} {b : Bool} (ok : HoOk q A) (rm : RmH h 0 A) (hc : col < 8) : ∃ h', F_X12_passesDeck h 122 (nI col) (bI b) = some (h', nI (pH A col b)) ∧ RmH h' 0 (passA A col b) ∧ FrD h h' := by
  have hA := ok.1
  have ht : pT A col b ≤ oN A := thr_le
  obtain ⟨h1, a1, a2, a3, a4⟩ := m_takes ok rm
  have rm1 : RmH h1 0 A := RmH_congr (a3 123 (by decide)) rm
  obtain ⟨h2, b1, b2, b3, b4, b5⟩ := m_passes (b := b) (col := col) (D := oD A) ok rm1 hc (fun k hk => ⟨a2 k hk, (ok.2.1 k hk).2.2.2.2⟩)
  have rm2 : RmH h2 0 A := b2.rm rm1
  have b3' : hI h2 122 26 = nI (pT A col b) := b3
  have b4' : hI h2 122 27 = nI (pH A col b) := b4
  have b5' : ∀ y, y < oN A → hI h2 134 y = nI (srt (rdD A col) (oD A) (pT A col b) y) := b5
  obtain ⟨h3, c1, c2, c3, c4, c5⟩ := m_lays (h := h2) (n := oN A) (D := srt (rdD A col) (oD A) (pT A col b)) hA (mNc rm2) b5'
  have D1 : ∀ k, k < oN A → srt (rdD A col) (oD A) (pT A col b) k < oN A := fun k hk => srt_lt ht (fun k hk => (ok.2.1 k hk).2.2.2.2) hk
  have e26 : hI h3 122 26 = nI (pT A col b) := by rw [c3 122 (by decide)]; exact b3'
  have e27 : hI h3 122 27 = nI (pH A col b) := by rw [c3 122 (by decide)]; exact b4'
  have W3 : ∀ c, c < oN A → hI h3 123 (18 + 11 * c) = nI (oW A c) := fun c hc => by
    rw [c4 (18 + 11 * c) (by omega)]
    have := (rm2.1.2.2 c hc).2.2.2.1
    rw [Nat.zero_add] at this
    exact this
  obtain ⟨h4, d1, d2, d3, d4, d5⟩ := m_wear (h := h3) (t := pT A col b) (D := srt (rdD A col) (oD A) (pT A col b)) ok ht (fun i k hi hk e => srt_inj ht ok.2.2.1 hi hk e) (fun k hk => ⟨by rw [c3 134 (by decide)]; exact b5' k hk, D1 k hk⟩) e26 W3
  have f26 : hI h4 122 26 = nI (pT A col b) := by rw [d3 122 (by decide)]; exact e26
  have f27 : hI h4 122 27 = nI (pH A col b) := by rw [d3 122 (by decide)]; exact e27
  have fM : hI h4 123 1 = oM A := by rw [d4 1 (fun c _ => by omega), c4 1 (by omega)]; exact rm2.1.2.1
  refine ⟨uI h4 123 1 (oM A + nI (pT A col b + 5 * pH A col b)), ?_, ?_, ?_⟩
  · unfold F_X12_passesDeck
    simp (disch := omega) only [↓m1_n, li_n, li_0, li_1, lt_y, lt_n, le_y, le_n, eq_n, nL, nLe, nEq, nEm, mEn, nLm, mLn, nLem, mLen, nI_add, nI_mul, nI_sub, nI_m, ib_nI, nx_nI, gd_y, bnd_e, bind_y, ↓reduceIte, hI_uI_o, hI_uI_s, hI_uI_e, hL_uI, hI_uL, hL_uL_o, hL_uL_s, hL_uL_e, and1_a, and1_b, Bool.not_true, Bool.not_false, Nat.zero_add, Nat.add_zero, Nat.add_sub_cancel, eq_self, ne_b, g0_0, g0_1, g0_2, g0_3, g0_4, g0_5, g0_6, g0_7, g0_8, g0_9, n1, n2, g3_2, g3_3, g3_4, g3_5, g3_6, g3_7, g3_8, g3_9, n4, n5, n6, n7, n8, n9, g10_2, g10_3, g10_4, g10_5, n11, n12, n13, n14, g15_2, g15_3, g15_4, g15_5, n16, n17, n18, n19, g40_0, g40_1, g40_2, g44_0, g44_2, g44_3, g44_5, g44_6, g44_10, g51_3, g51_4, g51_5, g51_6, g51_7, g57_3, g57_4, g57_5, g57_6, g57_7, n120, n121, g122_0, g122_4, g122_5, g122_6, g122_7, g122_8, g122_18, g122_19, g122_20, g122_21, g122_24, g122_25, g122_28, g122_29, g122_31, g122_32, g122_33, g122_39, g122_40, g122_41, g122_45, g122_46, g122_47, g122_48, n123, n124, n125, n126, n127, n128, n129, n130, n131, n132, n133, n134, n135, n136, n137, n138, n139, n140, n141, n142, n143, n144, n145, n146, a1, b1, c1, d1, f26, f27, fM]
  · refine RmH_wdm ok rm hI_uI_e (fun i hi => ?_) (fun i hi => ?_) (fun k k1 k2 k3 k4 => ?_)
    · rw [hI_uI_s (by omega), d2 i hi]
      unfold wrW
      rw [exB_srt]
    · rw [hI_uI_s (by omega), d4 (338 + i) (fun c hc => by omega)]
      exact c2 i hi
    · rw [hI_uI_s k1, d4 k k2, c4 k k3, b2.1 123 (by decide) (by decide) (by decide), a3 123 (by decide)]
  · refine ⟨fun d x1 x2 x3 x4 => ?_, fun k k1 k2 => ?_, fun k hk => ?_, ?_⟩
    · rw [hI_uI_o x1, d3 d x1, c3 d x1, b2.1 d x2 x3 x4, a3 d x3]
    · rw [hI_uI_o (by decide), d3 122 (by decide), c3 122 (by decide), b2.2.1 k k1 k2, a3 122 (by decide)]
    · rw [hI_uI_s (by omega), d4 k (fun c hc => by omega), c4 k (by omega), b2.1 123 (by decide) (by decide) (by decide), a3 123 (by decide)]
    · rw [hL_uI, d5, c5, b2.2.2, a4]
theorem passA_ok {A : Ho} {q col : Nat} {b : Bool} (ok : HoOk q A) : HoOk (q + 1) (passA A col b) := by
  have ht : pT A col b ≤ oN A := thr_le
  obtain ⟨o1, o2, o3, o4, o5⟩ := ok.mono
  refine ⟨o1, fun i hi => ?_, fun i j hi hj e => srt_inj ht ok.2.2.1 hi hj e, o4, o5⟩
  obtain ⟨y1, y2, y3, y4, y5⟩ := o2 i hi
  refine ⟨y1, y2, y3, ?_, srt_lt ht (fun k hk => (ok.2.1 k hk).2.2.2.2) hi⟩
  have y := (ok.2.1 i hi).2.2.2.1
  show oW A i + (if exB (wrB (oD A) i) (pT A col b) then 1 else 0) ≤ _
  by_cases e : exB (wrB (oD A) i) (pT A col b) = true
  · rw [if_pos e]; omega
  · rw [if_neg e]; omega
/-- as Fx, but for the house -/
def Fy (h h' : Hp) : Prop := (∀ d, ¬ Sc d → ¬ (3 ≤ d ∧ d ≤ 19) → d ≠ 123 → d ≠ 0 → d ≠ 122 → d ≠ 40 → d ≠ 44 → d ≠ 51 → d ≠ 57 → hI h' d = hI h d ∧ hL h' d = hL h d) ∧ (∀ k, 13 ≤ k → k ≤ 16 → hI h' 0 k = hI h 0 k) ∧ (∀ k, Kv k → hI h' 122 k = hI h 122 k) ∧ (∀ k, k = 3 ∨ k = 5 ∨ k = 6 → hI h' 40 k = hI h 40 k) ∧ (∀ k, 7 ≤ k → k ≤ 9 → hI h' 44 k = hI h 44 k) ∧ (∀ k, k ≤ 2 → hI h' 51 k = hI h 51 k) ∧ (∀ k, k ≤ 2 → hI h' 57 k = hI h 57 k) ∧ hL h' 0 = hL h 0 ∧ hL h' 122 = hL h 122 ∧ hL h' 40 = hL h 40
/-- of a heap in which only scratch cells, the house, the status and fields of the reference's object have changed -/
theorem Fy_of {h h' : Hp} (e : ∀ d, ¬ Sc d → ¬ (3 ≤ d ∧ d ≤ 19) → d ≠ 123 → d ≠ 0 → d ≠ 122 → hI h' d = hI h d) (z : ∀ k, 13 ≤ k → k ≤ 16 → hI h' 0 k = hI h 0 k) (kv : ∀ k, Kv k → hI h' 122 k = hI h 122 k) (l : hL h' = hL h) : Fy h h' := by
  have E : ∀ d, d = 40 ∨ d = 44 ∨ d = 51 ∨ d = 57 → hI h' d = hI h d := fun d hd => e d (by unfold Sc; omega) (by omega) (by omega) (by omega) (by omega)
  exact ⟨fun d a b c d0 d1 _ _ _ _ => ⟨e d a b c d0 d1, by rw [l]⟩, z, kv, fun k _ => by rw [E 40 (by omega)], fun k _ _ => by rw [E 44 (by omega)], fun k _ => by rw [E 51 (by omega)], fun k _ => by rw [E 57 (by omega)], by rw [l], by rw [l], by rw [l]⟩
theorem Inv_ho {q : Nat} {h h' : Hp} {A A' : Ho} {m : Nat} {Mk : Nat → Ho} (f : Fy h h') (st : hI h' 122 1 = hI h' 0 10) (hm : m ≤ 3) (m1 : hI h 0 14 = nI m) (m2 : hI h 122 51 = nI m) (mk : ∀ j, j < m → HoOk q (Mk j) ∧ RcH h (71 + 17 * j) (Mk j) ∧ RmH h (800 + 800 * j) (Mk j)) (e2 : ∀ k, 800 ≤ k → k < 3200 → hI h' 123 k = hI h 123 k) (ok' : HoOk (q + 1) A') (rc' : RcH h' 3 A') (rm' : RmH h' 0 A') (i : Inv q h) : Inv (q + 1) h' := by
  obtain ⟨i1, i2, i3, i4, i5, i6, i7, i8⟩ := i
  obtain ⟨f1, f2, f3, f4, f5, f6, f7, f8, f9, f10⟩ := f
  have E : ∀ d, d = 2 ∨ d = 50 ∨ d = 52 ∨ d = 58 ∨ (63 ≤ d ∧ d ≤ 121) ∨ (124 ≤ d ∧ d ≤ 127) ∨ d = 139 ∨ d = 141 ∨ d = 142 ∨ d = 146 → hI h' d = hI h d ∧ hL h' d = hL h d := fun d hd => f1 d (by unfold Sc; omega) (by omega) (by omega) (by omega) (by omega) (by omega) (by omega) (by omega) (by omega)
  have K : ∀ k, k = 9 ∨ k = 15 ∨ k = 16 ∨ k = 34 ∨ k = 35 ∨ k = 37 ∨ k = 38 ∨ k = 42 ∨ k = 43 ∨ k = 49 ∨ k = 50 ∨ k = 51 → hI h' 122 k = hI h 122 k := f3
  refine ⟨Iho_set ok' rc' rm' hm (by rw [f2 14 (by decide) (by decide)]; exact m1) (by rw [K 51 (by decide)]; exact m2) mk (fun d a b => (E d (by omega)).1) e2, Itr_congr (fun d _ _ => E d (by omega)) (E 124 (by decide)).1 (E 125 (by decide)).1 (E 126 (by decide)).2 i2, Itp_congr (f2 13 (by decide) (by decide)) (K 9 (by decide)) (E 2 (by decide)).1 (E 127 (by decide)).1 i3, ⟨st, by rw [f9, f8]; exact i4.2.1, by rw [f9, f8]; exact i4.2.2.1, by rw [K 15 (by decide), f2 15 (by decide) (by decide)]; exact i4.2.2.2.1, by rw [K 16 (by decide), f2 16 (by decide) (by decide)]; exact i4.2.2.2.2⟩, ?_, ?_, ?_, ?_⟩
  · unfold Ipl at *
    rw [f5 7 (by decide) (by decide), f5 8 (by decide) (by decide), f5 9 (by decide) (by decide), K 34 (by decide), K 35 (by decide), (E 50 (by decide)).1, (E 139 (by decide)).1]
    exact i5
  · unfold Irn at *
    rw [f4 3 (by decide), f4 5 (by decide), f4 6 (by decide), K 37 (by decide), K 38 (by decide), f10, f9]
    exact i6
  · unfold Imi at *
    rw [f6 0 (by decide), f6 1 (by decide), f6 2 (by decide), K 42 (by decide), K 43 (by decide), (E 52 (by decide)).1, (E 141 (by decide)).1, (E 142 (by decide)).1]
    exact i7
  · unfold Ipa at *
    rw [f7 0 (by decide), f7 1 (by decide), f7 2 (by decide), K 49 (by decide), K 50 (by decide), (E 58 (by decide)).1, (E 146 (by decide)).1]
    exact i8
theorem op_pass (q : Nat) (h : Hp) (x y : Int32) (_ : q < 512) (i : Inv q h) (hy : y = 0 ∨ y = 1) : ∃ h1 h2 r, F_X11_pass h 0 x y = some (h1, r) ∧ F_X12_pass h1 122 x y = some (h2, r) ∧ Inv (q + 1) h2 := by
  obtain ⟨A, m, Mk, ok, rc, rm, hm, m1, m2, mk⟩ := id i.1
  rcases p_col (h := h) x with ⟨c1, c2⟩ | ⟨⟨k, hk, rfl⟩, c1, c2⟩
  · refine op_2 (f := fun h => F_X11_pass h 0 x y) (g := fun h => F_X12_pass h 122 x y) (1, -1) i ?_ (fun h' u => ?_)
    · show F_X11_pass h 0 x y = _
      unfold F_X11_pass
      rw [c1]; rfl
    · show F_X12_pass h' 122 x y = _
      unfold F_X12_pass
      rw [c2 h' u]; rfl
  · obtain ⟨b, rfl⟩ : ∃ b : Bool, y = bI b := by
      rcases hy with e | e
      · exact ⟨false, e⟩
      · exact ⟨true, e⟩
    obtain ⟨h1, a1, a2, a3, a4⟩ := c_send (b := b) ok rc hk
    have u : Up h (uI h1 0 10 (nI 0)) := fun d hd => ⟨by simp (disch := omega) only [↓m1_n, li_n, li_0, li_1, lt_y, lt_n, le_y, le_n, eq_n, nL, nLe, nEq, nEm, mEn, nLm, mLn, nLem, mLen, nI_add, nI_mul, nI_sub, nI_m, ib_nI, nx_nI, gd_y, bnd_e, bind_y, ↓reduceIte, hI_uI_o, hI_uI_s, hI_uI_e, hL_uI, hI_uL, hL_uL_o, hL_uL_s, hL_uL_e, and1_a, and1_b, Bool.not_true, Bool.not_false, Nat.zero_add, Nat.add_zero, Nat.add_sub_cancel, eq_self, ne_b, g0_0, g0_1, g0_2, g0_3, g0_4, g0_5, g0_6, g0_7, g0_8, g0_9, n1, n2, g3_2, g3_3, g3_4, g3_5, g3_6, g3_7, g3_8, g3_9, n4, n5, n6, n7, n8, n9, g10_2, g10_3, g10_4, g10_5, n11, n12, n13, n14, g15_2, g15_3, g15_4, g15_5, n16, n17, n18, n19, g40_0, g40_1, g40_2, g44_0, g44_2, g44_3, g44_5, g44_6, g44_10, g51_3, g51_4, g51_5, g51_6, g51_7, g57_3, g57_4, g57_5, g57_6, g57_7, n120, n121, g122_0, g122_4, g122_5, g122_6, g122_7, g122_8, g122_18, g122_19, g122_20, g122_21, g122_24, g122_25, g122_28, g122_29, g122_31, g122_32, g122_33, g122_39, g122_40, g122_41, g122_45, g122_46, g122_47, g122_48, n123, n124, n125, n126, n127, n128, n129, n130, n131, n132, n133, n134, n135, n136, n137, n138, n139, n140, n141, n142, n143, n144, n145, n146, a3], by simp (disch := omega) only [↓m1_n, li_n, li_0, li_1, lt_y, lt_n, le_y, le_n, eq_n, nL, nLe, nEq, nEm, mEn, nLm, mLn, nLem, mLen, nI_add, nI_mul, nI_sub, nI_m, ib_nI, nx_nI, gd_y, bnd_e, bind_y, ↓reduceIte, hI_uI_o, hI_uI_s, hI_uI_e, hL_uI, hI_uL, hL_uL_o, hL_uL_s, hL_uL_e, and1_a, and1_b, Bool.not_true, Bool.not_false, Nat.zero_add, Nat.add_zero, Nat.add_sub_cancel, eq_self, ne_b, g0_0, g0_1, g0_2, g0_3, g0_4, g0_5, g0_6, g0_7, g0_8, g0_9, n1, n2, g3_2, g3_3, g3_4, g3_5, g3_6, g3_7, g3_8, g3_9, n4, n5, n6, n7, n8, n9, g10_2, g10_3, g10_4, g10_5, n11, n12, n13, n14, g15_2, g15_3, g15_4, g15_5, n16, n17, n18, n19, g40_0, g40_1, g40_2, g44_0, g44_2, g44_3, g44_5, g44_6, g44_10, g51_3, g51_4, g51_5, g51_6, g51_7, g57_3, g57_4, g57_5, g57_6, g57_7, n120, n121, g122_0, g122_4, g122_5, g122_6, g122_7, g122_8, g122_18, g122_19, g122_20, g122_21, g122_24, g122_25, g122_28, g122_29, g122_31, g122_32, g122_33, g122_39, g122_40, g122_41, g122_45, g122_46, g122_47, g122_48, n123, n124, n125, n126, n127, n128, n129, n130, n131, n132, n133, n134, n135, n136, n137, n138, n139, n140, n141, n142, n143, n144, n145, n146, a4]⟩
    obtain ⟨h2, b1, b2, b3, b4, b5, b6⟩ := m_passDeck (b := b) ok (u.rm rm) hk
    have c2' := fun h' u => c2 h' u
    refine ⟨uI h1 0 10 (nI 0), uI h2 122 1 (nI 0), nI (pH A k b), ?_, ?_, ?_⟩
    · unfold F_X11_pass F_X11_answer
      simp (disch := omega) only [↓m1_n, li_n, li_0, li_1, lt_y, lt_n, le_y, le_n, eq_n, nL, nLe, nEq, nEm, mEn, nLm, mLn, nLem, mLen, nI_add, nI_mul, nI_sub, nI_m, ib_nI, nx_nI, gd_y, bnd_e, bind_y, ↓reduceIte, hI_uI_o, hI_uI_s, hI_uI_e, hL_uI, hI_uL, hL_uL_o, hL_uL_s, hL_uL_e, and1_a, and1_b, Bool.not_true, Bool.not_false, Nat.zero_add, Nat.add_zero, Nat.add_sub_cancel, eq_self, ne_b, g0_0, g0_1, g0_2, g0_3, g0_4, g0_5, g0_6, g0_7, g0_8, g0_9, n1, n2, g3_2, g3_3, g3_4, g3_5, g3_6, g3_7, g3_8, g3_9, n4, n5, n6, n7, n8, n9, g10_2, g10_3, g10_4, g10_5, n11, n12, n13, n14, g15_2, g15_3, g15_4, g15_5, n16, n17, n18, n19, g40_0, g40_1, g40_2, g44_0, g44_2, g44_3, g44_5, g44_6, g44_10, g51_3, g51_4, g51_5, g51_6, g51_7, g57_3, g57_4, g57_5, g57_6, g57_7, n120, n121, g122_0, g122_4, g122_5, g122_6, g122_7, g122_8, g122_18, g122_19, g122_20, g122_21, g122_24, g122_25, g122_28, g122_29, g122_31, g122_32, g122_33, g122_39, g122_40, g122_41, g122_45, g122_46, g122_47, g122_48, n123, n124, n125, n126, n127, n128, n129, n130, n131, n132, n133, n134, n135, n136, n137, n138, n139, n140, n141, n142, n143, n144, n145, n146, c1, a1]
    · unfold F_X12_pass F_X12_gives
      simp (disch := omega) only [↓m1_n, li_n, li_0, li_1, lt_y, lt_n, le_y, le_n, eq_n, nL, nLe, nEq, nEm, mEn, nLm, mLn, nLem, mLen, nI_add, nI_mul, nI_sub, nI_m, ib_nI, nx_nI, gd_y, bnd_e, bind_y, ↓reduceIte, hI_uI_o, hI_uI_s, hI_uI_e, hL_uI, hI_uL, hL_uL_o, hL_uL_s, hL_uL_e, and1_a, and1_b, Bool.not_true, Bool.not_false, Nat.zero_add, Nat.add_zero, Nat.add_sub_cancel, eq_self, ne_b, g0_0, g0_1, g0_2, g0_3, g0_4, g0_5, g0_6, g0_7, g0_8, g0_9, n1, n2, g3_2, g3_3, g3_4, g3_5, g3_6, g3_7, g3_8, g3_9, n4, n5, n6, n7, n8, n9, g10_2, g10_3, g10_4, g10_5, n11, n12, n13, n14, g15_2, g15_3, g15_4, g15_5, n16, n17, n18, n19, g40_0, g40_1, g40_2, g44_0, g44_2, g44_3, g44_5, g44_6, g44_10, g51_3, g51_4, g51_5, g51_6, g51_7, g57_3, g57_4, g57_5, g57_6, g57_7, n120, n121, g122_0, g122_4, g122_5, g122_6, g122_7, g122_8, g122_18, g122_19, g122_20, g122_21, g122_24, g122_25, g122_28, g122_29, g122_31, g122_32, g122_33, g122_39, g122_40, g122_41, g122_45, g122_46, g122_47, g122_48, n123, n124, n125, n126, n127, n128, n129, n130, n131, n132, n133, n134, n135, n136, n137, n138, n139, n140, n141, n142, n143, n144, n145, n146, c2 _ u, b1]
    · refine Inv_ho (A := A) (A' := passA A k b) (Fy_of (fun d s1 s2 s3 s4 s5 => ?_) (fun k k1 k2 => ?_) (fun k hk => ?_) ?_) ?_ hm m1 m2 mk (fun k k1 k2 => ?_) (passA_ok ok) ?_ ?_ i
      · unfold Sc at s1
        rw [hI_uI_o s5, b3 d s3 (by omega) (by omega) s5, hI_uI_o s4, a3 d (by omega) (by omega) (by omega) (by omega) (by omega)]
      · rw [hI_uI_o (by decide), b3 0 (by decide) (by decide) (by decide) (by decide), hI_uI_s (by omega), a3 0 (by decide) (by decide) (by decide) (by decide) (by decide)]
      · unfold Kv at hk
        rw [hI_uI_s (by omega), b4 k (by omega) (by omega), hI_uI_o (by decide), a3 122 (by decide) (by decide) (by decide) (by decide) (by decide)]
      · rw [hL_uI, b6, hL_uI, a4]
      · rw [hI_uI_e, hI_uI_o (by decide), b3 0 (by decide) (by decide) (by decide) (by decide), hI_uI_e]
      · rw [hI_uI_o (by decide), b5 k (by omega), hI_uI_o (by decide), a3 123 (by decide) (by decide) (by decide) (by decide) (by decide)]
      · exact RcH_congr (fun d d1 d2 => by rw [hI_uI_o (by omega), b3 d (by omega) (by omega) (by omega) (by omega), hI_uI_o (by omega)]) a2
      · exact RmH_congr (hI_uI_o (by decide)) b2
