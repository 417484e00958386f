/-! ===== book: the state of both readers, a code ===== -/
def FcB (h h' : Hp) : Prop := (∀ d, d < 21 ∨ 39 < d → hI h' d = hI h d) ∧ ∀ d, d ≠ 29 → d ≠ 30 → hL h' d = hL h d
def FmB (h h' : Hp) : Prop := (∀ d, d ≠ 122 → d ≠ 123 → d ≠ 128 → d ≠ 131 → hI h' d = hI h d) ∧ (∀ k, k ≤ 9 ∨ k = 15 ∨ 26 ≤ k → hI h' 122 k = hI h 122 k) ∧ (∀ k, k < 3200 → hI h' 123 k = hI h 123 k) ∧ ∀ d, d ≠ 129 → d ≠ 130 → hL h' d = hL h d
theorem FcB.rf {h : Hp} : FcB h h := ⟨fun _ _ => rfl, fun _ _ _ => rfl⟩
theorem FmB.rf {h : Hp} : FmB h h := ⟨fun _ _ _ _ _ => rfl, fun _ _ => rfl, fun _ _ => rfl, fun _ _ _ => rfl⟩
theorem FcB.trans {a b c : Hp} (x : FcB a b) (y : FcB b c) : FcB a c := ⟨fun d p => (y.1 d p).trans (x.1 d p), fun d p q => (y.2 d p q).trans (x.2 d p q)⟩
theorem FmB.trans {a b c : Hp} (x : FmB a b) (y : FmB b c) : FmB a c := ⟨fun d p q r s => (y.1 d p q r s).trans (x.1 d p q r s), fun k p => (y.2.1 k p).trans (x.2.1 k p), fun k p => (y.2.2.1 k p).trans (x.2.2.1 k p), fun d p q => (y.2.2.2 d p q).trans (x.2.2.2 d p q)⟩
theorem FcB.u {h : Hp} {c k : Nat} {v : Int32} (hc : 21 ≤ c ∧ c ≤ 39) : FcB h (uI h c k v) := ⟨fun d hd => hI_uI_o (by omega), fun _ _ _ => rfl⟩
theorem FcB.l {h : Hp} {c k : Nat} {v : Int64} (hc : c = 29 ∨ c = 30) : FcB h (uL h c k v) := ⟨fun _ _ => rfl, fun d p q => hL_uL_o (by omega)⟩
theorem FcB.ad {h : Hp} {c n p : Nat} {f : Nat → Nat} (hc : 21 ≤ c ∧ c ≤ 39) : FcB h (adC h c f n p) := ⟨fun d hd => adC_o (by omega), fun _ _ _ => rfl⟩
theorem FcB.fl {h : Hp} {c k s : Nat} (hc : 21 ≤ c ∧ c ≤ 39) : FcB h (flC h c k s) := (FcB.u hc).trans (FcB.u hc)
theorem FmB.u {h : Hp} {k : Nat} {v : Int32} (hk : 3200 ≤ k) : FmB h (uI h 123 k v) := ⟨fun d _ x _ _ => hI_uI_o x, fun k _ => by rw [hI_uI_o (by decide)], fun j hj => hI_uI_s (by omega), fun _ _ _ => rfl⟩
theorem FmB.s {h : Hp} {k : Nat} {v : Int32} (hk : 10 ≤ k ∧ k ≤ 25 ∧ k ≠ 15) : FmB h (uI h 122 k v) := ⟨fun d x _ _ _ => hI_uI_o x, fun j hj => hI_uI_s (by omega), fun j hj => by rw [hI_uI_o (by decide)], fun _ _ _ => rfl⟩
theorem FmB.l {h : Hp} {c k : Nat} {v : Int64} (hc : c = 129 ∨ c = 130) : FmB h (uL h c k v) := ⟨fun _ _ _ _ _ => rfl, fun _ _ => rfl, fun _ _ => rfl, fun d p q => hL_uL_o (by omega)⟩
theorem FmB.ad {h : Hp} {n p : Nat} {f : Nat → Nat} : FmB h (adM h f n p) := ⟨fun d x _ _ _ => adM_o x, fun k hk => adM_s (by omega) (by omega) (by omega) (by omega), fun k _ => by rw [adM_o (by decide)], fun _ _ _ => rfl⟩
theorem FmB.fl {h : Hp} {k s : Nat} : FmB h (flM h k s) := (FmB.s (by decide)).trans (FmB.s (by decide))
/-- the same fault told by both -/
def FltB (c : Nat) (hc hm : Hp) : Prop := ∃ k s, 0 < k ∧ k < 10 ∧ hI hc c 5 = nI k ∧ hI hc c 6 = nI s ∧ hI hm 122 17 = nI k ∧ hI hm 122 16 = nI s
theorem FltB_fl {c k s : Nat} {hc hm : Hp} (h0 : 0 < k) (h9 : k < 10) : FltB c (flC hc c k s) (flM hm k s) := ⟨k, s, h0, h9, by unfold flC; rw [hI_uI_s (by decide), hI_uI_e], by unfold flC; rw [hI_uI_e], by unfold flM; rw [hI_uI_s (by decide), hI_uI_e], by unfold flM; rw [hI_uI_e]⟩
theorem mis_b {f : Nat → Nat} {n p : Nat} : 0 < misK f n p ∧ misK f n p < 10 := by unfold misK; split <;> omega
theorem fln_b {f : Nat → Nat} {n p : Nat} : 0 < flN f n p ∧ flN f n p < 10 := by
  have := mis_b (f := f) (n := n) (p := p)
  unfold flN
  split <;> omega
def BS (hc hm : Hp) (f : Nat → Nat) (n p : Nat) (B : Bk) (C M : Nat → Nat) : Prop := Rd hc 22 f n p ∧ hI hc 22 5 = nI 0 ∧ hI hc 22 6 = mN ∧ RcB hc 24 B ∧ hI hc 21 4 = nI (bJ B) ∧ RdM hm f n p ∧ hI hm 122 17 = nI 0 ∧ hI hm 122 16 = mN ∧ RmB hm 3200 B ∧ BkOk B ∧ NmX hc hm 29 129 f n (bC B) C ∧ NmX hc hm 30 130 f n (bM B) M
def OutB (hc hm : Hp) (f : Nat → Nat) (n p : Nat) (hc' hm' : Hp) (r : Int32) : Prop := FcB hc hc' ∧ FmB hm hm' ∧ ((r = nI 0 ∧ FltB 22 hc' hm') ∨ (r = nI 1 ∧ ∃ p' B' C' M', p < p' ∧ BS hc' hm' f n p' B' C' M'))
theorem OutB.fault {hc hm hc' hm' : Hp} {f : Nat → Nat} {n p k s : Nat} (x : FcB hc hc') (y : FmB hm hm') (h0 : 0 < k) (h9 : k < 10) : OutB hc hm f n p (flC hc' 22 k s) (flM hm' k s) (nI 0) := ⟨x.trans (FcB.fl (by decide)), y.trans FmB.fl, Or.inl ⟨rfl, FltB_fl h0 h9⟩⟩
theorem jnF_cg {B B' : Bk} {m c : Nat} (e1 : bJa B' = bJa B) (e2 : bJb B' = bJb B) : ∀ n k, (∀ j, k ≤ j → j < k + n → bMc B' (bJb B j) = bMc B (bJb B j)) → jnF B' m c n k = jnF B m c n k := by
  intro n
  induction n with
  | zero => intro k _; rfl
  | succ n ih =>
    intro k h
    rw [jnF, jnF, e1, e2, h k (Nat.le_refl _) (by omega), ih (k + 1) (fun j h1 h2 => h j (by omega) (by omega))]
def upN (g : Nat → Nat) (k v j : Nat) : Nat := if j = k then v else g j
theorem upN_e {g : Nat → Nat} {k v : Nat} : upN g k v k = v := if_pos rfl
theorem upN_s {g : Nat → Nat} {k v j : Nat} (h : j ≠ k) : upN g k v j = g j := if_neg h
def bkC (B : Bk) (y : Nat) : Bk := (bC B + 1, upN (bY B) (bC B) y, bM B, bMc B, bMh B, bJ B, bJa B, bJb B)
theorem code_x {hc hm : Hp} {f : Nat → Nat} {n p : Nat} {B : Bk} {C M : Nat → Nat} (s : BS hc hm f n p B C M) (k1 : tK f n p = 1) : ∃ hc' hm' r, F_X1_readCode hc 21 = some hc' ∧ (F_X12_aCode hm 122).bind (fun r5 => J_X12_part_47 r5.1 122 r5.2) = some (hm', r) ∧ OutB hc hm f n p hc' hm' r := by
  obtain ⟨rd, f5, f6, rcB, j4, rm, g17, g16, rmB, ok, nC, nM⟩ := s
  have b := rd.rb f5
  have mb := rm.mb g17
  obtain ⟨o1, o2, o3, o4, o5, o6⟩ := id ok
  have A0 := rd.go.1
  have D0 := rm.go.1
  have c0 := rcB.1
  have m0 : hI hm 123 3202 = nI (bC B) := rmB.1
  have q0 := tE_b (f := f) rd.2.1
  obtain ⟨p1, hp1⟩ : ∃ p1, p1 = tE f n p := ⟨_, rfl⟩
  have l0 : p < p1 := by
    have := (tK_1 rd.2.1 k1).1
    have := tS_b (f := f) rd.2.1
    omega
  rw [← hp1] at A0 D0 q0
  have q1 := tE_b (f := f) (p := p1) q0.2.1
  have s1 := tS_b (f := f) (p := p1) q0.2.1
  obtain ⟨p2, hp2⟩ : ∃ p2, p2 = tE f n p1 := ⟨_, rfl⟩
  rw [← hp2] at q1
  have q2 := tE_b (f := f) (p := p2) q1.2.1
  have s2 := tS_b (f := f) (p := p2) q1.2.1
  obtain ⟨p3, hp3⟩ : ∃ p3, p3 = tE f n p2 := ⟨_, rfl⟩
  rw [← hp3] at q2
  have q3 := tE_b (f := f) (p := p3) q2.2.1
  have s3 := tS_b (f := f) (p := p3) q2.2.1
  obtain ⟨p4, hp4⟩ : ∃ p4, p4 = tE f n p3 := ⟨_, rfl⟩
  rw [← hp4] at q3
  have q4 := tE_b (f := f) (p := p4) q3.2.1
  have s4 := tS_b (f := f) (p := p4) q3.2.1
  unfold F_X1_readCode F_X12_aCode J_X12_part_47
  by_cases c4 : bC B = 4
  · refine ⟨_, _, _, ?_, ?_, OutB.fault (k := 6) (s := tS f n p) FcB.rf FmB.rf (by decide) (by decide)⟩
    · simp (disch := omega) only [↓m1_n, li_n, li_0, li_1, lt_y, lt_n, le_y, le_n, eq_n, nL, nLe, nEq, nEm, mEn, nLm, mLn, nLem, mLen, nI_add, nI_mul, nI_sub, nI_m, ib_nI, nx_nI, gd_y, bnd_e, bind_y, ↓reduceIte, hI_uI_o, hI_uI_s, hI_uI_e, hL_uI, hI_uL, hL_uL_o, hL_uL_s, hL_uL_e, and1_a, and1_b, Bool.not_true, Bool.not_false, Nat.zero_add, Nat.add_zero, Nat.add_sub_cancel, eq_self, ne_b, g0_0, g0_1, g0_2, g0_3, g0_4, g0_5, g0_6, g0_7, g0_8, g0_9, n1, n2, g3_2, g3_3, g3_4, g3_5, g3_6, g3_7, g3_8, g3_9, n4, n5, n6, n7, n8, n9, g10_2, g10_3, g10_4, g10_5, n11, n12, n13, n14, g15_2, g15_3, g15_4, g15_5, n16, n17, n18, n19, g40_0, g40_1, g40_2, g44_0, g44_2, g44_3, g44_5, g44_6, g44_10, g51_3, g51_4, g51_5, g51_6, g51_7, g57_3, g57_4, g57_5, g57_6, g57_7, n120, n121, g122_0, g122_4, g122_5, g122_6, g122_7, g122_8, g122_18, g122_19, g122_20, g122_21, g122_24, g122_25, g122_28, g122_29, g122_31, g122_32, g122_33, g122_39, g122_40, g122_41, g122_45, g122_46, g122_47, g122_48, n123, n124, n125, n126, n127, n128, n129, n130, n131, n132, n133, n134, n135, n136, n137, n138, n139, n140, n141, n142, n143, n144, n145, n146, n45, n46, n47, n48, n49, n50, decide_false, Bool.false_eq_true, n20, g21_0, g21_1, g21_2, g21_3, n23, g24_2, g24_3, g24_4, g24_5, n25, n26, n27, n28, n29, n30, g31_0, g31_1, g31_2, n33, g34_2, g34_3, g34_4, g34_5, n35, n36, n37, n38, n39, adC_o, adC_s, adC_L, adM_o, adM_s, adM_L, c0, c4, c_tell (k := 6) rd f5]
    · simp (disch := omega) only [↓m1_n, li_n, li_0, li_1, lt_y, lt_n, le_y, le_n, eq_n, nL, nLe, nEq, nEm, mEn, nLm, mLn, nLem, mLen, nI_add, nI_mul, nI_sub, nI_m, ib_nI, nx_nI, gd_y, bnd_e, bind_y, ↓reduceIte, hI_uI_o, hI_uI_s, hI_uI_e, hL_uI, hI_uL, hL_uL_o, hL_uL_s, hL_uL_e, and1_a, and1_b, Bool.not_true, Bool.not_false, Nat.zero_add, Nat.add_zero, Nat.add_sub_cancel, eq_self, ne_b, g0_0, g0_1, g0_2, g0_3, g0_4, g0_5, g0_6, g0_7, g0_8, g0_9, n1, n2, g3_2, g3_3, g3_4, g3_5, g3_6, g3_7, g3_8, g3_9, n4, n5, n6, n7, n8, n9, g10_2, g10_3, g10_4, g10_5, n11, n12, n13, n14, g15_2, g15_3, g15_4, g15_5, n16, n17, n18, n19, g40_0, g40_1, g40_2, g44_0, g44_2, g44_3, g44_5, g44_6, g44_10, g51_3, g51_4, g51_5, g51_6, g51_7, g57_3, g57_4, g57_5, g57_6, g57_7, n120, n121, g122_0, g122_4, g122_5, g122_6, g122_7, g122_8, g122_18, g122_19, g122_20, g122_21, g122_24, g122_25, g122_28, g122_29, g122_31, g122_32, g122_33, g122_39, g122_40, g122_41, g122_45, g122_46, g122_47, g122_48, n123, n124, n125, n126, n127, n128, n129, n130, n131, n132, n133, n134, n135, n136, n137, n138, n139, n140, n141, n142, n143, n144, n145, n146, n45, n46, n47, n48, n49, n50, decide_false, Bool.false_eq_true, n20, g21_0, g21_1, g21_2, g21_3, n23, g24_2, g24_3, g24_4, g24_5, n25, n26, n27, n28, n29, n30, g31_0, g31_1, g31_2, n33, g34_2, g34_3, g34_4, g34_5, n35, n36, n37, n38, n39, adC_o, adC_s, adC_L, adM_o, adM_s, adM_L, m0, c4, m_failK (k := 6) rm g17 (by omega)]
  have r1 := b.rd (q := p1) q0.2.1
  have t1 := mb.rd (q := p1) q0.2.1
  cases ok1 : okN f n p1 with
  | false =>
    refine ⟨_, _, _, ?_, ?_, OutB.fault (k := misK f n p1) (s := tS f n p1) (FcB.ad (h := hc) (c := 22) (f := f) (n := n) (p := p1) (by decide)) (FmB.ad (h := hm) (f := f) (n := n) (p := p1)) mis_b.1 mis_b.2⟩
    · simp (disch := omega) only [↓m1_n, li_n, li_0, li_1, lt_y, lt_n, le_y, le_n, eq_n, nL, nLe, nEq, nEm, mEn, nLm, mLn, nLem, mLen, nI_add, nI_mul, nI_sub, nI_m, ib_nI, nx_nI, gd_y, bnd_e, bind_y, ↓reduceIte, hI_uI_o, hI_uI_s, hI_uI_e, hL_uI, hI_uL, hL_uL_o, hL_uL_s, hL_uL_e, and1_a, and1_b, Bool.not_true, Bool.not_false, Nat.zero_add, Nat.add_zero, Nat.add_sub_cancel, eq_self, ne_b, g0_0, g0_1, g0_2, g0_3, g0_4, g0_5, g0_6, g0_7, g0_8, g0_9, n1, n2, g3_2, g3_3, g3_4, g3_5, g3_6, g3_7, g3_8, g3_9, n4, n5, n6, n7, n8, n9, g10_2, g10_3, g10_4, g10_5, n11, n12, n13, n14, g15_2, g15_3, g15_4, g15_5, n16, n17, n18, n19, g40_0, g40_1, g40_2, g44_0, g44_2, g44_3, g44_5, g44_6, g44_10, g51_3, g51_4, g51_5, g51_6, g51_7, g57_3, g57_4, g57_5, g57_6, g57_7, n120, n121, g122_0, g122_4, g122_5, g122_6, g122_7, g122_8, g122_18, g122_19, g122_20, g122_21, g122_24, g122_25, g122_28, g122_29, g122_31, g122_32, g122_33, g122_39, g122_40, g122_41, g122_45, g122_46, g122_47, g122_48, n123, n124, n125, n126, n127, n128, n129, n130, n131, n132, n133, n134, n135, n136, n137, n138, n139, n140, n141, n142, n143, n144, n145, n146, n45, n46, n47, n48, n49, n50, decide_false, Bool.false_eq_true, n20, g21_0, g21_1, g21_2, g21_3, n23, g24_2, g24_3, g24_4, g24_5, n25, n26, n27, n28, n29, n30, g31_0, g31_1, g31_2, n33, g34_2, g34_3, g34_4, g34_5, n35, n36, n37, n38, n39, adC_o, adC_s, adC_L, adM_o, adM_s, adM_L, c0, A0, c_name r1 b.e5, ok1]
    · simp (disch := omega) only [↓m1_n, li_n, li_0, li_1, lt_y, lt_n, le_y, le_n, eq_n, nL, nLe, nEq, nEm, mEn, nLm, mLn, nLem, mLen, nI_add, nI_mul, nI_sub, nI_m, ib_nI, nx_nI, gd_y, bnd_e, bind_y, ↓reduceIte, hI_uI_o, hI_uI_s, hI_uI_e, hL_uI, hI_uL, hL_uL_o, hL_uL_s, hL_uL_e, and1_a, and1_b, Bool.not_true, Bool.not_false, Nat.zero_add, Nat.add_zero, Nat.add_sub_cancel, eq_self, ne_b, g0_0, g0_1, g0_2, g0_3, g0_4, g0_5, g0_6, g0_7, g0_8, g0_9, n1, n2, g3_2, g3_3, g3_4, g3_5, g3_6, g3_7, g3_8, g3_9, n4, n5, n6, n7, n8, n9, g10_2, g10_3, g10_4, g10_5, n11, n12, n13, n14, g15_2, g15_3, g15_4, g15_5, n16, n17, n18, n19, g40_0, g40_1, g40_2, g44_0, g44_2, g44_3, g44_5, g44_6, g44_10, g51_3, g51_4, g51_5, g51_6, g51_7, g57_3, g57_4, g57_5, g57_6, g57_7, n120, n121, g122_0, g122_4, g122_5, g122_6, g122_7, g122_8, g122_18, g122_19, g122_20, g122_21, g122_24, g122_25, g122_28, g122_29, g122_31, g122_32, g122_33, g122_39, g122_40, g122_41, g122_45, g122_46, g122_47, g122_48, n123, n124, n125, n126, n127, n128, n129, n130, n131, n132, n133, n134, n135, n136, n137, n138, n139, n140, n141, n142, n143, n144, n145, n146, n45, n46, n47, n48, n49, n50, decide_false, Bool.false_eq_true, n20, g21_0, g21_1, g21_2, g21_3, n23, g24_2, g24_3, g24_4, g24_5, n25, n26, n27, n28, n29, n30, g31_0, g31_1, g31_2, n33, g34_2, g34_3, g34_4, g34_5, n35, n36, n37, n38, n39, adC_o, adC_s, adC_L, adM_o, adM_s, adM_L, m0, c4, D0, m_name t1, ok1, m_fail2 t1 mb.e7]
  | true =>
  obtain ⟨k11, l1⟩ := okN_k ok1
  have H1 : F_X7_nameHere (adC hc 22 f n p1) 22 = some (lN (nmC f n p1)) := c_nameH r1 k11 l1
  have G1 : F_X12_nameHere (adM hm f n p1) 122 = some (lN (nmM f n p1)) := m_nameH t1 k11 l1
  have X1 : F_X1_find (adC hc 22 f n p1) 29 (nI (bC B)) (lN (nmC f n p1)) = some (oI (fnd f n C (bC B) p1)) := fnd_c (hc := adC hc 22 f n p1) (hm := hm) (xm := 129) nC (by decide +kernel) (by rw [n29]; exact o1) q0.2.1 ok1
  have Y1 : F_X12_find (adM hm f n p1) 129 (nI (bC B)) (lN (nmM f n p1)) = some (oI (fnd f n C (bC B) p1)) := fnd_m (hc := hc) (hm := adM hm f n p1) (xc := 29) nC (by decide +kernel) (by rw [n129]; exact o1) q0.2.1 ok1
  cases ef : fnd f n C (bC B) p1 with
  | some j =>
    have hj := fst1_lt _ _ _ ef
    rw [ef, oI_some] at X1 Y1
    refine ⟨_, _, _, ?_, ?_, OutB.fault (k := 3) (s := tS f n p1) (FcB.ad (h := hc) (c := 22) (f := f) (n := n) (p := p1) (by decide)) (FmB.ad (h := hm) (f := f) (n := n) (p := p1)) (by decide) (by decide)⟩
    · simp (disch := omega) only [↓m1_n, li_n, li_0, li_1, lt_y, lt_n, le_y, le_n, eq_n, nL, nLe, nEq, nEm, mEn, nLm, mLn, nLem, mLen, nI_add, nI_mul, nI_sub, nI_m, ib_nI, nx_nI, gd_y, bnd_e, bind_y, ↓reduceIte, hI_uI_o, hI_uI_s, hI_uI_e, hL_uI, hI_uL, hL_uL_o, hL_uL_s, hL_uL_e, and1_a, and1_b, Bool.not_true, Bool.not_false, Nat.zero_add, Nat.add_zero, Nat.add_sub_cancel, eq_self, ne_b, g0_0, g0_1, g0_2, g0_3, g0_4, g0_5, g0_6, g0_7, g0_8, g0_9, n1, n2, g3_2, g3_3, g3_4, g3_5, g3_6, g3_7, g3_8, g3_9, n4, n5, n6, n7, n8, n9, g10_2, g10_3, g10_4, g10_5, n11, n12, n13, n14, g15_2, g15_3, g15_4, g15_5, n16, n17, n18, n19, g40_0, g40_1, g40_2, g44_0, g44_2, g44_3, g44_5, g44_6, g44_10, g51_3, g51_4, g51_5, g51_6, g51_7, g57_3, g57_4, g57_5, g57_6, g57_7, n120, n121, g122_0, g122_4, g122_5, g122_6, g122_7, g122_8, g122_18, g122_19, g122_20, g122_21, g122_24, g122_25, g122_28, g122_29, g122_31, g122_32, g122_33, g122_39, g122_40, g122_41, g122_45, g122_46, g122_47, g122_48, n123, n124, n125, n126, n127, n128, n129, n130, n131, n132, n133, n134, n135, n136, n137, n138, n139, n140, n141, n142, n143, n144, n145, n146, n45, n46, n47, n48, n49, n50, decide_false, Bool.false_eq_true, n20, g21_0, g21_1, g21_2, g21_3, n23, g24_2, g24_3, g24_4, g24_5, n25, n26, n27, n28, n29, n30, g31_0, g31_1, g31_2, n33, g34_2, g34_3, g34_4, g34_5, n35, n36, n37, n38, n39, adC_o, adC_s, adC_L, adM_o, adM_s, adM_L, c0, A0, c_name r1 b.e5, ok1, H1, X1, c_tell (k := 3) r1 b.e5]
    · simp (disch := omega) only [↓m1_n, li_n, li_0, li_1, lt_y, lt_n, le_y, le_n, eq_n, nL, nLe, nEq, nEm, mEn, nLm, mLn, nLem, mLen, nI_add, nI_mul, nI_sub, nI_m, ib_nI, nx_nI, gd_y, bnd_e, bind_y, ↓reduceIte, hI_uI_o, hI_uI_s, hI_uI_e, hL_uI, hI_uL, hL_uL_o, hL_uL_s, hL_uL_e, and1_a, and1_b, Bool.not_true, Bool.not_false, Nat.zero_add, Nat.add_zero, Nat.add_sub_cancel, eq_self, ne_b, g0_0, g0_1, g0_2, g0_3, g0_4, g0_5, g0_6, g0_7, g0_8, g0_9, n1, n2, g3_2, g3_3, g3_4, g3_5, g3_6, g3_7, g3_8, g3_9, n4, n5, n6, n7, n8, n9, g10_2, g10_3, g10_4, g10_5, n11, n12, n13, n14, g15_2, g15_3, g15_4, g15_5, n16, n17, n18, n19, g40_0, g40_1, g40_2, g44_0, g44_2, g44_3, g44_5, g44_6, g44_10, g51_3, g51_4, g51_5, g51_6, g51_7, g57_3, g57_4, g57_5, g57_6, g57_7, n120, n121, g122_0, g122_4, g122_5, g122_6, g122_7, g122_8, g122_18, g122_19, g122_20, g122_21, g122_24, g122_25, g122_28, g122_29, g122_31, g122_32, g122_33, g122_39, g122_40, g122_41, g122_45, g122_46, g122_47, g122_48, n123, n124, n125, n126, n127, n128, n129, n130, n131, n132, n133, n134, n135, n136, n137, n138, n139, n140, n141, n142, n143, n144, n145, n146, n45, n46, n47, n48, n49, n50, decide_false, Bool.false_eq_true, n20, g21_0, g21_1, g21_2, g21_3, n23, g24_2, g24_3, g24_4, g24_5, n25, n26, n27, n28, n29, n30, g31_0, g31_1, g31_2, n33, g34_2, g34_3, g34_4, g34_5, n35, n36, n37, n38, n39, adC_o, adC_s, adC_L, adM_o, adM_s, adM_L, m0, c4, D0, m_name t1, ok1, G1, Y1, m_failK (k := 3) t1 mb.e7 (by omega)]
  | none =>
  rw [ef, oI_none] at X1 Y1
  have A1 : F_X7_advance (adC hc 22 f n p1) 22 = some (adC hc 22 f n p2) := by rw [hp2]; exact b.go q0.2.1
  have r2 := b.rd (q := p2) q1.2.1
  have mb2 : Mb (uL hm 129 (bC B) (lN (nmM f n p1))) f n := mb.uL
  have D1 : F_X12_ahead (uL (adM hm f n p1) 129 (bC B) (lN (nmM f n p1))) 122 = some (adM (uL hm 129 (bC B) (lN (nmM f n p1))) f n p2) := by rw [uL_adM, hp2]; exact mb2.go q0.2.1
  have t2 := mb2.rd (q := p2) q1.2.1
  have F1 : FmB hm (uL hm 129 (bC B) (lN (nmM f n p1))) := FmB.l (by decide)
  cases w2 : wdB f n p2 1 with
  | false =>
    have nb : ¬ bkW f n p2 = nI 3 := fun e => by rw [bk_i.2.2.2.1.mp e] at w2; exact absurd w2 (by decide)
    refine ⟨_, _, _, ?_, ?_, OutB.fault (k := misK f n p2) (s := tS f n p2) (FcB.ad (h := hc) (c := 22) (f := f) (n := n) (p := p2) (by decide)) (F1.trans (FmB.ad (f := f) (n := n) (p := p2))) mis_b.1 mis_b.2⟩
    · simp (disch := omega) only [↓m1_n, li_n, li_0, li_1, lt_y, lt_n, le_y, le_n, eq_n, nL, nLe, nEq, nEm, mEn, nLm, mLn, nLem, mLen, nI_add, nI_mul, nI_sub, nI_m, ib_nI, nx_nI, gd_y, bnd_e, bind_y, ↓reduceIte, hI_uI_o, hI_uI_s, hI_uI_e, hL_uI, hI_uL, hL_uL_o, hL_uL_s, hL_uL_e, and1_a, and1_b, Bool.not_true, Bool.not_false, Nat.zero_add, Nat.add_zero, Nat.add_sub_cancel, eq_self, ne_b, g0_0, g0_1, g0_2, g0_3, g0_4, g0_5, g0_6, g0_7, g0_8, g0_9, n1, n2, g3_2, g3_3, g3_4, g3_5, g3_6, g3_7, g3_8, g3_9, n4, n5, n6, n7, n8, n9, g10_2, g10_3, g10_4, g10_5, n11, n12, n13, n14, g15_2, g15_3, g15_4, g15_5, n16, n17, n18, n19, g40_0, g40_1, g40_2, g44_0, g44_2, g44_3, g44_5, g44_6, g44_10, g51_3, g51_4, g51_5, g51_6, g51_7, g57_3, g57_4, g57_5, g57_6, g57_7, n120, n121, g122_0, g122_4, g122_5, g122_6, g122_7, g122_8, g122_18, g122_19, g122_20, g122_21, g122_24, g122_25, g122_28, g122_29, g122_31, g122_32, g122_33, g122_39, g122_40, g122_41, g122_45, g122_46, g122_47, g122_48, n123, n124, n125, n126, n127, n128, n129, n130, n131, n132, n133, n134, n135, n136, n137, n138, n139, n140, n141, n142, n143, n144, n145, n146, n45, n46, n47, n48, n49, n50, decide_false, Bool.false_eq_true, n20, g21_0, g21_1, g21_2, g21_3, n23, g24_2, g24_3, g24_4, g24_5, n25, n26, n27, n28, n29, n30, g31_0, g31_1, g31_2, n33, g34_2, g34_3, g34_4, g34_5, n35, n36, n37, n38, n39, adC_o, adC_s, adC_L, adM_o, adM_s, adM_L, c0, A0, c_name r1 b.e5, ok1, H1, X1, A1, c_word (w := 1) r2 b.e5 (by decide), w2]
    · simp (disch := omega) only [↓m1_n, li_n, li_0, li_1, lt_y, lt_n, le_y, le_n, eq_n, nL, nLe, nEq, nEm, mEn, nLm, mLn, nLem, mLen, nI_add, nI_mul, nI_sub, nI_m, ib_nI, nx_nI, gd_y, bnd_e, bind_y, ↓reduceIte, hI_uI_o, hI_uI_s, hI_uI_e, hL_uI, hI_uL, hL_uL_o, hL_uL_s, hL_uL_e, and1_a, and1_b, Bool.not_true, Bool.not_false, Nat.zero_add, Nat.add_zero, Nat.add_sub_cancel, eq_self, ne_b, g0_0, g0_1, g0_2, g0_3, g0_4, g0_5, g0_6, g0_7, g0_8, g0_9, n1, n2, g3_2, g3_3, g3_4, g3_5, g3_6, g3_7, g3_8, g3_9, n4, n5, n6, n7, n8, n9, g10_2, g10_3, g10_4, g10_5, n11, n12, n13, n14, g15_2, g15_3, g15_4, g15_5, n16, n17, n18, n19, g40_0, g40_1, g40_2, g44_0, g44_2, g44_3, g44_5, g44_6, g44_10, g51_3, g51_4, g51_5, g51_6, g51_7, g57_3, g57_4, g57_5, g57_6, g57_7, n120, n121, g122_0, g122_4, g122_5, g122_6, g122_7, g122_8, g122_18, g122_19, g122_20, g122_21, g122_24, g122_25, g122_28, g122_29, g122_31, g122_32, g122_33, g122_39, g122_40, g122_41, g122_45, g122_46, g122_47, g122_48, n123, n124, n125, n126, n127, n128, n129, n130, n131, n132, n133, n134, n135, n136, n137, n138, n139, n140, n141, n142, n143, n144, n145, n146, n45, n46, n47, n48, n49, n50, decide_false, Bool.false_eq_true, n20, g21_0, g21_1, g21_2, g21_3, n23, g24_2, g24_3, g24_4, g24_5, n25, n26, n27, n28, n29, n30, g31_0, g31_1, g31_2, n33, g34_2, g34_3, g34_4, g34_5, n35, n36, n37, n38, n39, adC_o, adC_s, adC_L, adM_o, adM_s, adM_L, m0, c4, D0, m_name t1, ok1, G1, Y1, D1, m_bkW t2, nb, m_fail2 t2 mb2.e7]
  | true =>
  have yb : bkW f n p2 = nI 3 := bk_i.2.2.2.1.mpr w2
  have W2 : F_X7_takeWord (adC hc 22 f n p2) 22 1 = some (adC hc 22 f n p3, nI 1) := by
    rw [c_word r2 b.e5 (by decide), w2, if_pos rfl, adC_ad, hp3]
  have r3 := b.rd (q := p3) q2.2.1
  have D2 : F_X12_ahead (adM (uL hm 129 (bC B) (lN (nmM f n p1))) f n p2) 122 = some (adM (uL hm 129 (bC B) (lN (nmM f n p1))) f n p3) := by rw [hp3]; exact mb2.go q1.2.1
  have mb3 : Mb (uI (uL hm 129 (bC B) (lN (nmM f n p1))) 123 3202 (nI (bC B + 1))) f n := mb2.uI (by decide) (by decide)
  have t3 := mb3.rd (q := p3) q2.2.1
  have N3 := m_num (a := 0) (b := 99) (to := 3568 + bC B) t3 mb3.e7 (by decide) (by decide) (by omega)
  rw [← uI_adM (by decide)] at N3
  have F2 : FmB hm (uI (uL hm 129 (bC B) (lN (nmM f n p1))) 123 3202 (nI (bC B + 1))) := F1.trans (FmB.u (by decide))
  cases i3 : inN f n p3 0 99 with
  | false =>
    rw [i3, if_neg Bool.false_ne_true] at N3
    refine ⟨_, _, _, ?_, ?_, OutB.fault (k := flN f n p3) (s := tS f n p3) (FcB.ad (h := hc) (c := 22) (f := f) (n := n) (p := p3) (by decide)) (F2.trans (FmB.ad (f := f) (n := n) (p := p3))) fln_b.1 fln_b.2⟩
    · simp (disch := omega) only [↓m1_n, li_n, li_0, li_1, lt_y, lt_n, le_y, le_n, eq_n, nL, nLe, nEq, nEm, mEn, nLm, mLn, nLem, mLen, nI_add, nI_mul, nI_sub, nI_m, ib_nI, nx_nI, gd_y, bnd_e, bind_y, ↓reduceIte, hI_uI_o, hI_uI_s, hI_uI_e, hL_uI, hI_uL, hL_uL_o, hL_uL_s, hL_uL_e, and1_a, and1_b, Bool.not_true, Bool.not_false, Nat.zero_add, Nat.add_zero, Nat.add_sub_cancel, eq_self, ne_b, g0_0, g0_1, g0_2, g0_3, g0_4, g0_5, g0_6, g0_7, g0_8, g0_9, n1, n2, g3_2, g3_3, g3_4, g3_5, g3_6, g3_7, g3_8, g3_9, n4, n5, n6, n7, n8, n9, g10_2, g10_3, g10_4, g10_5, n11, n12, n13, n14, g15_2, g15_3, g15_4, g15_5, n16, n17, n18, n19, g40_0, g40_1, g40_2, g44_0, g44_2, g44_3, g44_5, g44_6, g44_10, g51_3, g51_4, g51_5, g51_6, g51_7, g57_3, g57_4, g57_5, g57_6, g57_7, n120, n121, g122_0, g122_4, g122_5, g122_6, g122_7, g122_8, g122_18, g122_19, g122_20, g122_21, g122_24, g122_25, g122_28, g122_29, g122_31, g122_32, g122_33, g122_39, g122_40, g122_41, g122_45, g122_46, g122_47, g122_48, n123, n124, n125, n126, n127, n128, n129, n130, n131, n132, n133, n134, n135, n136, n137, n138, n139, n140, n141, n142, n143, n144, n145, n146, n45, n46, n47, n48, n49, n50, decide_false, Bool.false_eq_true, n20, g21_0, g21_1, g21_2, g21_3, n23, g24_2, g24_3, g24_4, g24_5, n25, n26, n27, n28, n29, n30, g31_0, g31_1, g31_2, n33, g34_2, g34_3, g34_4, g34_5, n35, n36, n37, n38, n39, adC_o, adC_s, adC_L, adM_o, adM_s, adM_L, c0, A0, c_name r1 b.e5, ok1, H1, X1, A1, W2, c_num (a := 0) (b := 99) r3 b.e5 (by decide) (by decide), i3]
    · rw [← uI_adM (by decide)]
      simp (disch := omega) only [↓m1_n, li_n, li_0, li_1, lt_y, lt_n, le_y, le_n, eq_n, nL, nLe, nEq, nEm, mEn, nLm, mLn, nLem, mLen, nI_add, nI_mul, nI_sub, nI_m, ib_nI, nx_nI, gd_y, bnd_e, bind_y, ↓reduceIte, hI_uI_o, hI_uI_s, hI_uI_e, hL_uI, hI_uL, hL_uL_o, hL_uL_s, hL_uL_e, and1_a, and1_b, Bool.not_true, Bool.not_false, Nat.zero_add, Nat.add_zero, Nat.add_sub_cancel, eq_self, ne_b, g0_0, g0_1, g0_2, g0_3, g0_4, g0_5, g0_6, g0_7, g0_8, g0_9, n1, n2, g3_2, g3_3, g3_4, g3_5, g3_6, g3_7, g3_8, g3_9, n4, n5, n6, n7, n8, n9, g10_2, g10_3, g10_4, g10_5, n11, n12, n13, n14, g15_2, g15_3, g15_4, g15_5, n16, n17, n18, n19, g40_0, g40_1, g40_2, g44_0, g44_2, g44_3, g44_5, g44_6, g44_10, g51_3, g51_4, g51_5, g51_6, g51_7, g57_3, g57_4, g57_5, g57_6, g57_7, n120, n121, g122_0, g122_4, g122_5, g122_6, g122_7, g122_8, g122_18, g122_19, g122_20, g122_21, g122_24, g122_25, g122_28, g122_29, g122_31, g122_32, g122_33, g122_39, g122_40, g122_41, g122_45, g122_46, g122_47, g122_48, n123, n124, n125, n126, n127, n128, n129, n130, n131, n132, n133, n134, n135, n136, n137, n138, n139, n140, n141, n142, n143, n144, n145, n146, n45, n46, n47, n48, n49, n50, decide_false, Bool.false_eq_true, n20, g21_0, g21_1, g21_2, g21_3, n23, g24_2, g24_3, g24_4, g24_5, n25, n26, n27, n28, n29, n30, g31_0, g31_1, g31_2, n33, g34_2, g34_3, g34_4, g34_5, n35, n36, n37, n38, n39, adC_o, adC_s, adC_L, adM_o, adM_s, adM_L, m0, c4, D0, m_name t1, ok1, G1, Y1, D1, m_bkW t2, yb, D2, N3]
  | true =>
  rw [i3, if_pos rfl, uI_adM (by decide), uI_adM (by decide), adM_ad, ← hp4, ← uI_adM (by decide)] at N3
  have i3' := i3
  unfold inN at i3'
  rw [Bool.and_eq_true] at i3'
  have k32 := of_decide_eq_true i3'.1
  have v99 := (of_decide_eq_true i3'.2).2
  have A3 : F_X7_advance (adC hc 22 f n p3) 22 = some (adC hc 22 f n p4) := by rw [hp4]; exact b.go q2.2.1
  have r4 := b.rd (q := p4) q3.2.1
  have mb4 : Mb (uI (uI (uL hm 129 (bC B) (lN (nmM f n p1))) 123 3202 (nI (bC B + 1))) 123 (3568 + bC B) (nI (tV f n p3))) f n := mb3.uI (by decide) (by decide)
  have t4 := mb4.rd (q := p4) q3.2.1
  have S4 := m_sign t4 mb4.e7
  have F3 : FmB hm (uI (uI (uL hm 129 (bC B) (lN (nmM f n p1))) 123 3202 (nI (bC B + 1))) 123 (3568 + bC B) (nI (tV f n p3))) := F2.trans (FmB.u (by omega))
  obtain ⟨p5, hp5⟩ : ∃ p5, p5 = tE f n p4 := ⟨_, rfl⟩
  rw [← hp5] at q4
  by_cases k43 : tK f n p4 = 3
  · rw [if_pos k43, adM_ad, ← hp5] at S4
    have C4 : F_X7_takeSign (adC hc 22 f n p4) 22 = some (adC hc 22 f n p5, nI 1) := by rw [c_sign r4 b.e5, if_pos k43, adC_ad, ← hp5]
    have r5 := b.rd (q := p5) q4.2.1
    have t5 := mb4.rd (q := p5) q4.2.1
    obtain ⟨hx, hhx⟩ : ∃ hx, hx = uI (uI (uL (adC hc 22 f n p5) 29 (bC B) (lN (nmC f n p1))) 25 (bC B) (nI (tV f n p3))) 24 0 (nI (bC B + 1)) := ⟨_, rfl⟩
    obtain ⟨hy, hhy⟩ : ∃ hy, hy = adM (uI (uI (uL hm 129 (bC B) (lN (nmM f n p1))) 123 3202 (nI (bC B + 1))) 123 (3568 + bC B) (nI (tV f n p3))) f n p5 := ⟨_, rfl⟩
    refine ⟨hx, hy, nI 1, ?_, ?_, ?_⟩
    · unfold F_X0_addCode
      simp (disch := omega) only [↓m1_n, li_n, li_0, li_1, lt_y, lt_n, le_y, le_n, eq_n, nL, nLe, nEq, nEm, mEn, nLm, mLn, nLem, mLen, nI_add, nI_mul, nI_sub, nI_m, ib_nI, nx_nI, gd_y, bnd_e, bind_y, ↓reduceIte, hI_uI_o, hI_uI_s, hI_uI_e, hL_uI, hI_uL, hL_uL_o, hL_uL_s, hL_uL_e, and1_a, and1_b, Bool.not_true, Bool.not_false, Nat.zero_add, Nat.add_zero, Nat.add_sub_cancel, eq_self, ne_b, g0_0, g0_1, g0_2, g0_3, g0_4, g0_5, g0_6, g0_7, g0_8, g0_9, n1, n2, g3_2, g3_3, g3_4, g3_5, g3_6, g3_7, g3_8, g3_9, n4, n5, n6, n7, n8, n9, g10_2, g10_3, g10_4, g10_5, n11, n12, n13, n14, g15_2, g15_3, g15_4, g15_5, n16, n17, n18, n19, g40_0, g40_1, g40_2, g44_0, g44_2, g44_3, g44_5, g44_6, g44_10, g51_3, g51_4, g51_5, g51_6, g51_7, g57_3, g57_4, g57_5, g57_6, g57_7, n120, n121, g122_0, g122_4, g122_5, g122_6, g122_7, g122_8, g122_18, g122_19, g122_20, g122_21, g122_24, g122_25, g122_28, g122_29, g122_31, g122_32, g122_33, g122_39, g122_40, g122_41, g122_45, g122_46, g122_47, g122_48, n123, n124, n125, n126, n127, n128, n129, n130, n131, n132, n133, n134, n135, n136, n137, n138, n139, n140, n141, n142, n143, n144, n145, n146, n45, n46, n47, n48, n49, n50, decide_false, Bool.false_eq_true, n20, g21_0, g21_1, g21_2, g21_3, n23, g24_2, g24_3, g24_4, g24_5, n25, n26, n27, n28, n29, n30, g31_0, g31_1, g31_2, n33, g34_2, g34_3, g34_4, g34_5, n35, n36, n37, n38, n39, adC_o, adC_s, adC_L, adM_o, adM_s, adM_L, c0, A0, c_name r1 b.e5, ok1, H1, X1, A1, W2, c_num (a := 0) (b := 99) r3 b.e5 (by decide) (by decide), i3, c_numH r3 k32, A3, C4, hhx]
    · simp (disch := omega) only [↓m1_n, li_n, li_0, li_1, lt_y, lt_n, le_y, le_n, eq_n, nL, nLe, nEq, nEm, mEn, nLm, mLn, nLem, mLen, nI_add, nI_mul, nI_sub, nI_m, ib_nI, nx_nI, gd_y, bnd_e, bind_y, ↓reduceIte, hI_uI_o, hI_uI_s, hI_uI_e, hL_uI, hI_uL, hL_uL_o, hL_uL_s, hL_uL_e, and1_a, and1_b, Bool.not_true, Bool.not_false, Nat.zero_add, Nat.add_zero, Nat.add_sub_cancel, eq_self, ne_b, g0_0, g0_1, g0_2, g0_3, g0_4, g0_5, g0_6, g0_7, g0_8, g0_9, n1, n2, g3_2, g3_3, g3_4, g3_5, g3_6, g3_7, g3_8, g3_9, n4, n5, n6, n7, n8, n9, g10_2, g10_3, g10_4, g10_5, n11, n12, n13, n14, g15_2, g15_3, g15_4, g15_5, n16, n17, n18, n19, g40_0, g40_1, g40_2, g44_0, g44_2, g44_3, g44_5, g44_6, g44_10, g51_3, g51_4, g51_5, g51_6, g51_7, g57_3, g57_4, g57_5, g57_6, g57_7, n120, n121, g122_0, g122_4, g122_5, g122_6, g122_7, g122_8, g122_18, g122_19, g122_20, g122_21, g122_24, g122_25, g122_28, g122_29, g122_31, g122_32, g122_33, g122_39, g122_40, g122_41, g122_45, g122_46, g122_47, g122_48, n123, n124, n125, n126, n127, n128, n129, n130, n131, n132, n133, n134, n135, n136, n137, n138, n139, n140, n141, n142, n143, n144, n145, n146, n45, n46, n47, n48, n49, n50, decide_false, Bool.false_eq_true, n20, g21_0, g21_1, g21_2, g21_3, n23, g24_2, g24_3, g24_4, g24_5, n25, n26, n27, n28, n29, n30, g31_0, g31_1, g31_2, n33, g34_2, g34_3, g34_4, g34_5, n35, n36, n37, n38, n39, adC_o, adC_s, adC_L, adM_o, adM_s, adM_L, m0, c4, D0, m_name t1, ok1, G1, Y1, D1, m_bkW t2, yb, D2, N3, S4, hhy]
    · have ex : ∀ d, d ≠ 22 → d ≠ 24 → d ≠ 25 → hI hx d = hI hc d := fun d x y z => by rw [hhx, hI_uI_o y, hI_uI_o z, hI_uL, adC_o x]
      have ey : ∀ d, d ≠ 122 → d ≠ 123 → hI hy d = hI hm d := fun d x y => by rw [hhy, adM_o x, hI_uI_o y, hI_uI_o y, hI_uL]
      have ey3 : ∀ k, k ≠ 3202 → k ≠ 3568 + bC B → hI hy 123 k = hI hm 123 k := fun k x y => by rw [hhy, adM_o (by decide), hI_uI_s y, hI_uI_s x, hI_uL]
      refine ⟨⟨fun d hd => ex d (by omega) (by omega) (by omega), fun d x y => by rw [hhx]; exact hL_uL_o x⟩, by rw [hhy]; exact F3.trans FmB.ad, Or.inr ⟨rfl, p5, bkC B (tV f n p3), upN C (bC B) p1, M, by omega, ?_, ?_, ?_, ?_, ?_, ?_, ?_, ?_, ?_, ?_, ?_, ?_⟩⟩
      · exact r5.cg (by rw [hhx, hI_uI_o (by decide), hI_uI_o (by decide), hI_uL]) (by rw [hhx]; rfl) (fun k _ _ => by rw [hhx, hI_uI_o (by decide), hI_uI_o (by decide), hI_uL])
      · rw [hhx, hI_uI_o (by decide), hI_uI_o (by decide), hI_uL, adC_s (by decide) (by decide) (by decide)]; exact f5
      · rw [hhx, hI_uI_o (by decide), hI_uI_o (by decide), hI_uL, adC_s (by decide) (by decide) (by decide)]; exact f6
      · refine ⟨by rw [hhx, hI_uI_e]; rfl, by rw [hhx, hI_uI_s (by decide), hI_uI_o (by decide), hI_uL, adC_o (by decide)]; exact rcB.2.1, fun k hk => ?_, fun m hm' => ?_⟩
        · have hk : k < bC B + 1 := hk
          show hI hx 25 k = nI (upN (bY B) (bC B) (tV f n p3) k)
          rw [hhx, hI_uI_o (by decide)]
          by_cases x : k = bC B
          · rw [x, hI_uI_e, upN_e]
          · rw [hI_uI_s x, hI_uL, adC_o (by decide), upN_s x]
            exact rcB.2.2.1 k (by omega)
        · have z := rcB.2.2.2 m hm'
          rw [ex 26 (by decide) (by decide) (by decide), ex 27 (by decide) (by decide) (by decide), ex 28 (by decide) (by decide) (by decide)]
          refine ⟨z.1, z.2.1, fun d hd => ?_⟩
          rw [show jn (bkC B (tV f n p3)) m d = jn B m d from jnF_cg (B := B) (B' := bkC B (tV f n p3)) rfl rfl (bJ B) 0 (fun _ _ _ => rfl)]
          exact z.2.2 d hd
      · rw [ex 21 (by decide) (by decide) (by decide)]; exact j4
      · rw [hhy]; exact t5
      · rw [hhy]; exact mb4.e7
      · rw [hhy, adM_s (by decide) (by decide) (by decide) (by decide), hI_uI_o (by decide), hI_uI_o (by decide), hI_uL]; exact g16
      · refine ⟨by rw [hhy, adM_o (by decide), hI_uI_s (by omega), hI_uI_e]; rfl, by rw [ey3 _ (by decide) (by omega)]; exact rmB.2.1, by rw [ey3 _ (by decide) (by omega)]; exact rmB.2.2.1, fun k hk => ?_, fun m hm' => ?_, fun k hk => ?_⟩
        · have hk : k < bC B + 1 := hk
          show hI hy 123 (3200 + 368 + k) = nI (upN (bY B) (bC B) (tV f n p3) k)
          by_cases x : k = bC B
          · rw [x, upN_e, hhy, adM_o (by decide), show 3200 + 368 + bC B = 3568 + bC B by omega, hI_uI_e]
          · rw [upN_s x, ey3 _ (by omega) (by omega)]
            exact rmB.2.2.2.1 k (by omega)
        · have hm' : m < bM B := hm'
          rw [ey3 _ (by omega) (by omega), ey3 _ (by omega) (by omega)]
          exact rmB.2.2.2.2.1 m hm'
        · have hk : k < bJ B := hk
          rw [ey3 _ (by omega) (by omega), ey3 _ (by omega) (by omega)]
          exact rmB.2.2.2.2.2 k hk
      · refine ⟨by show bC B + 1 ≤ 4; omega, o2, o3, fun k hk => ?_, fun m hm' => ?_, o6⟩
        · have hk : k < bC B + 1 := hk
          show upN (bY B) (bC B) (tV f n p3) k ≤ 99
          by_cases x : k = bC B
          · rw [x, upN_e]; exact v99
          · rw [upN_s x]; exact o4 k (by omega)
        · have z := o5 m hm'
          exact ⟨by show bMc B m < bC B + 1; omega, z.2⟩
      · intro k hk
        have hk : k < bC B + 1 := hk
        by_cases x : k = bC B
        · subst x
          rw [upN_e]
          refine ⟨q0.2.1, ok1, ?_, ?_⟩
          · rw [hhx]; exact hL_uL_e
          · rw [hhy]; exact hL_uL_e
        · rw [upN_s x]
          have z := nC k (by omega)
          refine ⟨z.1, z.2.1, ?_, ?_⟩
          · rw [hhx]; exact (hL_uL_s x).trans z.2.2.1
          · rw [hhy]; exact (hL_uL_s x).trans z.2.2.2
      · intro k hk
        have z := nM k hk
        refine ⟨z.1, z.2.1, ?_, ?_⟩
        · rw [hhx]; exact (congrFun (hL_uL_o (by decide)) k).trans z.2.2.1
        · rw [hhy]; exact (congrFun (hL_uL_o (by decide)) k).trans z.2.2.2
  · rw [if_neg k43] at S4
    refine ⟨_, _, _, ?_, ?_, OutB.fault (k := misK f n p4) (s := tS f n p4) (FcB.ad (h := hc) (c := 22) (f := f) (n := n) (p := p4) (by decide)) (F3.trans (FmB.ad (f := f) (n := n) (p := p4))) mis_b.1 mis_b.2⟩
    · simp (disch := omega) only [↓m1_n, li_n, li_0, li_1, lt_y, lt_n, le_y, le_n, eq_n, nL, nLe, nEq, nEm, mEn, nLm, mLn, nLem, mLen, nI_add, nI_mul, nI_sub, nI_m, ib_nI, nx_nI, gd_y, bnd_e, bind_y, ↓reduceIte, hI_uI_o, hI_uI_s, hI_uI_e, hL_uI, hI_uL, hL_uL_o, hL_uL_s, hL_uL_e, and1_a, and1_b, Bool.not_true, Bool.not_false, Nat.zero_add, Nat.add_zero, Nat.add_sub_cancel, eq_self, ne_b, g0_0, g0_1, g0_2, g0_3, g0_4, g0_5, g0_6, g0_7, g0_8, g0_9, n1, n2, g3_2, g3_3, g3_4, g3_5, g3_6, g3_7, g3_8, g3_9, n4, n5, n6, n7, n8, n9, g10_2, g10_3, g10_4, g10_5, n11, n12, n13, n14, g15_2, g15_3, g15_4, g15_5, n16, n17, n18, n19, g40_0, g40_1, g40_2, g44_0, g44_2, g44_3, g44_5, g44_6, g44_10, g51_3, g51_4, g51_5, g51_6, g51_7, g57_3, g57_4, g57_5, g57_6, g57_7, n120, n121, g122_0, g122_4, g122_5, g122_6, g122_7, g122_8, g122_18, g122_19, g122_20, g122_21, g122_24, g122_25, g122_28, g122_29, g122_31, g122_32, g122_33, g122_39, g122_40, g122_41, g122_45, g122_46, g122_47, g122_48, n123, n124, n125, n126, n127, n128, n129, n130, n131, n132, n133, n134, n135, n136, n137, n138, n139, n140, n141, n142, n143, n144, n145, n146, n45, n46, n47, n48, n49, n50, decide_false, Bool.false_eq_true, n20, g21_0, g21_1, g21_2, g21_3, n23, g24_2, g24_3, g24_4, g24_5, n25, n26, n27, n28, n29, n30, g31_0, g31_1, g31_2, n33, g34_2, g34_3, g34_4, g34_5, n35, n36, n37, n38, n39, adC_o, adC_s, adC_L, adM_o, adM_s, adM_L, c0, A0, c_name r1 b.e5, ok1, H1, X1, A1, W2, c_num (a := 0) (b := 99) r3 b.e5 (by decide) (by decide), i3, c_numH r3 k32, A3, c_sign r4 b.e5, k43]
    · simp (disch := omega) only [↓m1_n, li_n, li_0, li_1, lt_y, lt_n, le_y, le_n, eq_n, nL, nLe, nEq, nEm, mEn, nLm, mLn, nLem, mLen, nI_add, nI_mul, nI_sub, nI_m, ib_nI, nx_nI, gd_y, bnd_e, bind_y, ↓reduceIte, hI_uI_o, hI_uI_s, hI_uI_e, hL_uI, hI_uL, hL_uL_o, hL_uL_s, hL_uL_e, and1_a, and1_b, Bool.not_true, Bool.not_false, Nat.zero_add, Nat.add_zero, Nat.add_sub_cancel, eq_self, ne_b, g0_0, g0_1, g0_2, g0_3, g0_4, g0_5, g0_6, g0_7, g0_8, g0_9, n1, n2, g3_2, g3_3, g3_4, g3_5, g3_6, g3_7, g3_8, g3_9, n4, n5, n6, n7, n8, n9, g10_2, g10_3, g10_4, g10_5, n11, n12, n13, n14, g15_2, g15_3, g15_4, g15_5, n16, n17, n18, n19, g40_0, g40_1, g40_2, g44_0, g44_2, g44_3, g44_5, g44_6, g44_10, g51_3, g51_4, g51_5, g51_6, g51_7, g57_3, g57_4, g57_5, g57_6, g57_7, n120, n121, g122_0, g122_4, g122_5, g122_6, g122_7, g122_8, g122_18, g122_19, g122_20, g122_21, g122_24, g122_25, g122_28, g122_29, g122_31, g122_32, g122_33, g122_39, g122_40, g122_41, g122_45, g122_46, g122_47, g122_48, n123, n124, n125, n126, n127, n128, n129, n130, n131, n132, n133, n134, n135, n136, n137, n138, n139, n140, n141, n142, n143, n144, n145, n146, n45, n46, n47, n48, n49, n50, decide_false, Bool.false_eq_true, n20, g21_0, g21_1, g21_2, g21_3, n23, g24_2, g24_3, g24_4, g24_5, n25, n26, n27, n28, n29, n30, g31_0, g31_1, g31_2, n33, g34_2, g34_3, g34_4, g34_5, n35, n36, n37, n38, n39, adC_o, adC_s, adC_L, adM_o, adM_s, adM_L, m0, c4, D0, m_name t1, ok1, G1, Y1, D1, m_bkW t2, yb, D2, N3, S4]
