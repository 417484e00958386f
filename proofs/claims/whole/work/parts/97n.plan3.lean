/-! ===== plan: the key's columns ===== -/
theorem fst1_no {P : Nat → Bool} : ∀ n a, fst1 P n a = none → ∀ j, a ≤ j → j < a + n → P j = false := by
  intro n
  induction n with
  | zero => intro a _ j h1 h2; omega
  | succ n ih =>
    intro a h j h1 h2
    unfold fst1 at h
    by_cases e : P a = true
    · rw [if_pos e] at h; cases h
    · rw [if_neg e] at h
      by_cases c : j = a
      · subst c
        cases x : P j with
        | true => exact absurd x e
        | false => rfl
      · exact ih (a + 1) h j (by omega) (by omega)
def inK (g : Nat → Nat) (n c : Nat) : Bool := exB (fun k => decide (g k % 8 = c)) n
def clP (P : Nat → Bool) (j : Nat) : Nat := (fst1 (fun c => P c && decide (cnt P c = j)) 8 0).getD 0
theorem clP_lt {P : Nat → Bool} {j : Nat} : clP P j < 8 := by
  unfold clP
  cases e : fst1 (fun c => P c && decide (cnt P c = j)) 8 0 with
  | none => exact (by decide : 0 < 8)
  | some c =>
    have := fst1_lt _ _ _ e
    show c < 8
    omega
theorem clP_eq {P : Nat → Bool} {c : Nat} (hc : c < 8) (hp : P c = true) : clP P (cnt P c) = c := by
  unfold clP
  obtain ⟨k, hk⟩ := fst1_ex (P := fun x => P x && decide (cnt P x = cnt P c)) 8 0 c (by omega) (by omega) (by simp [hp])
  have h2 := fst1_lt _ _ _ hk
  rw [Bool.and_eq_true] at h2
  have h3 : cnt P k = cnt P c := of_decide_eq_true h2.2.2.2
  rw [hk]
  show k = c
  rcases Nat.lt_trichotomy k c with l | l | l
  · have := cnt_lt l h2.2.2.1
    omega
  · exact l
  · have := cnt_lt l hp
    omega
theorem cnt_or1 {P : Nat → Bool} {a : Nat} : ∀ N, cnt (fun c => P c || decide (a = c)) N ≤ cnt P N + if a < N then 1 else 0 := by
  intro N
  induction N with
  | zero => exact Nat.zero_le _
  | succ N ih =>
    rw [cnt, cnt]
    by_cases e : a = N
    · subst e
      rw [if_neg (Nat.lt_irrefl _)] at ih
      rw [if_pos (Nat.lt_succ_self _)]
      have : (if (P a || decide (a = a)) = true then 1 else 0) ≤ 1 := by
        by_cases c : (P a || decide (a = a)) = true
        · rw [if_pos c]; exact Nat.le_refl _
        · rw [if_neg c]; exact Nat.zero_le _
      omega
    · have e1 : (P N || decide (a = N)) = P N := by rw [decide_eq_false e, Bool.or_false]
      rw [e1]
      by_cases l : a < N
      · rw [if_pos l] at ih
        rw [if_pos (show a < N + 1 by omega)]
        omega
      · rw [if_neg l] at ih
        rw [if_neg (show ¬ a < N + 1 by omega)]
        omega
theorem cnt_inK {g : Nat → Nat} : ∀ n, cnt (inK g n) 8 ≤ n := by
  intro n
  induction n with
  | zero => exact Nat.le_of_eq rfl
  | succ n ih =>
    have h := cnt_or1 (P := inK g n) (a := g n % 8) 8
    have l : (if g n % 8 < 8 then 1 else 0) ≤ 1 := by
      by_cases c : g n % 8 < 8
      · rw [if_pos c]; exact Nat.le_refl _
      · rw [if_neg c]; exact Nat.zero_le _
    show cnt (fun c => inK g n c || decide (g n % 8 = c)) 8 ≤ _
    omega
theorem cnt_inK1 {g : Nat → Nat} {n : Nat} (hn : 1 ≤ n) : 1 ≤ cnt (inK g n) 8 := by
  have : inK g n (g 0 % 8) = true := (exB_iff n).mpr ⟨0, hn, decide_eq_true rfl⟩
  have := cnt_lt (n := 8) (Nat.mod_lt (g 0) (by decide)) this
  omega
theorem c_inKey {h : Hp} {g : Nat → Nat} {n c : Nat} (hn : n ≤ 4) (hc : c < 8) (hg : ∀ k, k < n → g k < 24) (e1 : hI h 44 1 = nI n) (e2 : ∀ k, k < n → hI h 45 k = nI (g k)) : F_X6_inKey h 44 (nI c) = some (if inK g n c then nI 1 else nI 0) := by
  unfold inK
  rw [← fst1_exB]
  refine iterW_fst (fun j => nI j) (fun k => decide (g k % 8 = c)) (fun _ => nI 1) (nI 0) n 0 (fun j _ hj => ?_) ?_
  · show B_X6_inKey_2 _ _ _ _ = _
    unfold B_X6_inKey_2
    have hgj := hg j (by omega)
    have r1 : nI (g j) / nI 8 = nI (g j / 8) := pk_div (by omega) (by decide) (by decide)
    have r2 : nI (g j) - nI (g j / 8 * 8) = nI (g j % 8) := by rw [← nI_mul, ← r1]; exact pk_rem (by omega) (by decide) (by decide)
    simp (disch := omega) only [↓m1_n, li_n, li_0, li_1, lt_y, lt_n, le_y, le_n, eq_n, nL, nLe, nEq, nEm, mEn, nLm, mLn, nLem, mLen, nI_add, nI_mul, nI_sub, nI_m, ib_nI, nx_nI, gd_y, bnd_e, bind_y, ↓reduceIte, hI_uI_o, hI_uI_s, hI_uI_e, hL_uI, hI_uL, hL_uL_o, hL_uL_s, hL_uL_e, and1_a, and1_b, Bool.not_true, Bool.not_false, Nat.zero_add, Nat.add_zero, Nat.add_sub_cancel, eq_self, ne_b, g0_0, g0_1, g0_2, g0_3, g0_4, g0_5, g0_6, g0_7, g0_8, g0_9, n1, n2, g3_2, g3_3, g3_4, g3_5, g3_6, g3_7, g3_8, g3_9, n4, n5, n6, n7, n8, n9, g10_2, g10_3, g10_4, g10_5, n11, n12, n13, n14, g15_2, g15_3, g15_4, g15_5, n16, n17, n18, n19, g40_0, g40_1, g40_2, g44_0, g44_2, g44_3, g44_5, g44_6, g44_10, g51_3, g51_4, g51_5, g51_6, g51_7, g57_3, g57_4, g57_5, g57_6, g57_7, n120, n121, g122_0, g122_4, g122_5, g122_6, g122_7, g122_8, g122_18, g122_19, g122_20, g122_21, g122_24, g122_25, g122_28, g122_29, g122_31, g122_32, g122_33, g122_39, g122_40, g122_41, g122_45, g122_46, g122_47, g122_48, n123, n124, n125, n126, n127, n128, n129, n130, n131, n132, n133, n134, n135, n136, n137, n138, n139, n140, n141, n142, n143, n144, n145, n146, n45, n46, n47, n48, n49, n50, decide_false, e1, e2 j (by omega), r1, r2]
    by_cases x : g j % 8 = c <;> simp [x]
  · show B_X6_inKey_2 _ _ _ _ = _
    unfold B_X6_inKey_2
    simp (disch := omega) only [↓m1_n, li_n, li_0, li_1, lt_y, lt_n, le_y, le_n, eq_n, nL, nLe, nEq, nEm, mEn, nLm, mLn, nLem, mLen, nI_add, nI_mul, nI_sub, nI_m, ib_nI, nx_nI, gd_y, bnd_e, bind_y, ↓reduceIte, hI_uI_o, hI_uI_s, hI_uI_e, hL_uI, hI_uL, hL_uL_o, hL_uL_s, hL_uL_e, and1_a, and1_b, Bool.not_true, Bool.not_false, Nat.zero_add, Nat.add_zero, Nat.add_sub_cancel, eq_self, ne_b, g0_0, g0_1, g0_2, g0_3, g0_4, g0_5, g0_6, g0_7, g0_8, g0_9, n1, n2, g3_2, g3_3, g3_4, g3_5, g3_6, g3_7, g3_8, g3_9, n4, n5, n6, n7, n8, n9, g10_2, g10_3, g10_4, g10_5, n11, n12, n13, n14, g15_2, g15_3, g15_4, g15_5, n16, n17, n18, n19, g40_0, g40_1, g40_2, g44_0, g44_2, g44_3, g44_5, g44_6, g44_10, g51_3, g51_4, g51_5, g51_6, g51_7, g57_3, g57_4, g57_5, g57_6, g57_7, n120, n121, g122_0, g122_4, g122_5, g122_6, g122_7, g122_8, g122_18, g122_19, g122_20, g122_21, g122_24, g122_25, g122_28, g122_29, g122_31, g122_32, g122_33, g122_39, g122_40, g122_41, g122_45, g122_46, g122_47, g122_48, n123, n124, n125, n126, n127, n128, n129, n130, n131, n132, n133, n134, n135, n136, n137, n138, n139, n140, n141, n142, n143, n144, n145, n146, n45, n46, n47, n48, n49, n50, decide_false, e1]
def FrJ (h h' : Hp) : Prop := (∀ d, d ≠ 44 → d ≠ 47 → hI h' d = hI h d) ∧ (∀ k, k ≠ 4 → hI h' 44 k = hI h 44 k) ∧ hL h' = hL h
theorem c_gather {h : Hp} {g : Nat → Nat} {n : Nat} (hn : n ≤ 4) (hg : ∀ k, k < n → g k < 24) (e1 : hI h 44 1 = nI n) (e2 : ∀ k, k < n → hI h 45 k = nI (g k)) : ∃ h', F_X6_gatherColumns h 44 = some h' ∧ FrJ h h' ∧ hI h' 44 4 = nI (cnt (inK g n) 8) ∧ ∀ j, j < cnt (inK g n) 8 → hI h' 47 j = nI (clP (inK g n) j) := by
  have c8 := cnt_inK (g := g) n
  refine iterW_inv (fun c s => s.2 = nI c ∧ FrJ h s.1 ∧ hI s.1 44 4 = nI (cnt (inK g n) c) ∧ ∀ j, j < cnt (inK g n) c → hI s.1 47 j = nI (clP (inK g n) j)) _ 8 (fun c s hc p => ?_) (fun s p => ?_) ⟨rfl, ⟨fun d a _ => hI_uI_o a, fun k a => hI_uI_s a, rfl⟩, hI_uI_e, fun j hj => absurd hj (Nat.not_lt_zero j)⟩
  · obtain ⟨p1, p2, p3, p4⟩ := p
    have K := c_inKey (h := s.1) hn hc hg (by rw [p2.2.1 1 (by decide)]; exact e1) (fun k hk => by rw [p2.1 45 (by decide) (by decide)]; exact e2 k hk)
    cases ek : inK g n c with
    | false =>
      rw [ek, if_neg Bool.false_ne_true] at K
      refine ⟨(s.1, nI (c + 1)), ?_, rfl, p2, ?_, ?_⟩
      · show B_X6_gatherColumns_7 _ _ _ = _
        unfold B_X6_gatherColumns_7
        rw [p1]
        simp (disch := omega) only [↓m1_n, li_n, li_0, li_1, lt_y, lt_n, le_y, le_n, eq_n, nL, nLe, nEq, nEm, mEn, nLm, mLn, nLem, mLen, nI_add, nI_mul, nI_sub, nI_m, ib_nI, nx_nI, gd_y, bnd_e, bind_y, ↓reduceIte, hI_uI_o, hI_uI_s, hI_uI_e, hL_uI, hI_uL, hL_uL_o, hL_uL_s, hL_uL_e, and1_a, and1_b, Bool.not_true, Bool.not_false, Nat.zero_add, Nat.add_zero, Nat.add_sub_cancel, eq_self, ne_b, g0_0, g0_1, g0_2, g0_3, g0_4, g0_5, g0_6, g0_7, g0_8, g0_9, n1, n2, g3_2, g3_3, g3_4, g3_5, g3_6, g3_7, g3_8, g3_9, n4, n5, n6, n7, n8, n9, g10_2, g10_3, g10_4, g10_5, n11, n12, n13, n14, g15_2, g15_3, g15_4, g15_5, n16, n17, n18, n19, g40_0, g40_1, g40_2, g44_0, g44_2, g44_3, g44_5, g44_6, g44_10, g51_3, g51_4, g51_5, g51_6, g51_7, g57_3, g57_4, g57_5, g57_6, g57_7, n120, n121, g122_0, g122_4, g122_5, g122_6, g122_7, g122_8, g122_18, g122_19, g122_20, g122_21, g122_24, g122_25, g122_28, g122_29, g122_31, g122_32, g122_33, g122_39, g122_40, g122_41, g122_45, g122_46, g122_47, g122_48, n123, n124, n125, n126, n127, n128, n129, n130, n131, n132, n133, n134, n135, n136, n137, n138, n139, n140, n141, n142, n143, n144, n145, n146, n45, n46, n47, n48, n49, n50, decide_false, K]
      · rw [cnt, ek, if_neg Bool.false_ne_true, Nat.add_zero]; exact p3
      · rw [cnt, ek, if_neg Bool.false_ne_true, Nat.add_zero]; exact p4
    | true =>
      rw [ek, if_pos rfl] at K
      have l := cnt_lt (n := 8) hc ek
      refine ⟨(uI (uI s.1 47 (cnt (inK g n) c) (nI c)) 44 4 (nI (cnt (inK g n) c + 1)), nI (c + 1)), ?_, rfl, ⟨fun d a b => by rw [hI_uI_o a, hI_uI_o b]; exact p2.1 d a b, fun k a => by rw [hI_uI_s a, hI_uI_o (by decide)]; exact p2.2.1 k a, p2.2.2⟩, ?_, ?_⟩
      · show B_X6_gatherColumns_7 _ _ _ = _
        unfold B_X6_gatherColumns_7
        rw [p1]
        simp (disch := omega) only [↓m1_n, li_n, li_0, li_1, lt_y, lt_n, le_y, le_n, eq_n, nL, nLe, nEq, nEm, mEn, nLm, mLn, nLem, mLen, nI_add, nI_mul, nI_sub, nI_m, ib_nI, nx_nI, gd_y, bnd_e, bind_y, ↓reduceIte, hI_uI_o, hI_uI_s, hI_uI_e, hL_uI, hI_uL, hL_uL_o, hL_uL_s, hL_uL_e, and1_a, and1_b, Bool.not_true, Bool.not_false, Nat.zero_add, Nat.add_zero, Nat.add_sub_cancel, eq_self, ne_b, g0_0, g0_1, g0_2, g0_3, g0_4, g0_5, g0_6, g0_7, g0_8, g0_9, n1, n2, g3_2, g3_3, g3_4, g3_5, g3_6, g3_7, g3_8, g3_9, n4, n5, n6, n7, n8, n9, g10_2, g10_3, g10_4, g10_5, n11, n12, n13, n14, g15_2, g15_3, g15_4, g15_5, n16, n17, n18, n19, g40_0, g40_1, g40_2, g44_0, g44_2, g44_3, g44_5, g44_6, g44_10, g51_3, g51_4, g51_5, g51_6, g51_7, g57_3, g57_4, g57_5, g57_6, g57_7, n120, n121, g122_0, g122_4, g122_5, g122_6, g122_7, g122_8, g122_18, g122_19, g122_20, g122_21, g122_24, g122_25, g122_28, g122_29, g122_31, g122_32, g122_33, g122_39, g122_40, g122_41, g122_45, g122_46, g122_47, g122_48, n123, n124, n125, n126, n127, n128, n129, n130, n131, n132, n133, n134, n135, n136, n137, n138, n139, n140, n141, n142, n143, n144, n145, n146, n45, n46, n47, n48, n49, n50, decide_false, K, p3]
      · rw [cnt, ek, if_pos rfl, hI_uI_e]
      · rw [cnt, ek, if_pos rfl]
        intro j hj
        rw [hI_uI_o (by decide)]
        by_cases x : j = cnt (inK g n) c
        · rw [x, hI_uI_e, clP_eq hc ek]
        · rw [hI_uI_s x]
          exact p4 j (by omega)
  · obtain ⟨p1, p2⟩ := p
    refine ⟨s.1, ?_, p2⟩
    show B_X6_gatherColumns_7 _ _ _ = _
    unfold B_X6_gatherColumns_7
    rw [p1]
    simp (disch := omega) only [↓m1_n, li_n, li_0, li_1, lt_y, lt_n, le_y, le_n, eq_n, nL, nLe, nEq, nEm, mEn, nLm, mLn, nLem, mLen, nI_add, nI_mul, nI_sub, nI_m, ib_nI, nx_nI, gd_y, bnd_e, bind_y, ↓reduceIte, hI_uI_o, hI_uI_s, hI_uI_e, hL_uI, hI_uL, hL_uL_o, hL_uL_s, hL_uL_e, and1_a, and1_b, Bool.not_true, Bool.not_false, Nat.zero_add, Nat.add_zero, Nat.add_sub_cancel, eq_self, ne_b, g0_0, g0_1, g0_2, g0_3, g0_4, g0_5, g0_6, g0_7, g0_8, g0_9, n1, n2, g3_2, g3_3, g3_4, g3_5, g3_6, g3_7, g3_8, g3_9, n4, n5, n6, n7, n8, n9, g10_2, g10_3, g10_4, g10_5, n11, n12, n13, n14, g15_2, g15_3, g15_4, g15_5, n16, n17, n18, n19, g40_0, g40_1, g40_2, g44_0, g44_2, g44_3, g44_5, g44_6, g44_10, g51_3, g51_4, g51_5, g51_6, g51_7, g57_3, g57_4, g57_5, g57_6, g57_7, n120, n121, g122_0, g122_4, g122_5, g122_6, g122_7, g122_8, g122_18, g122_19, g122_20, g122_21, g122_24, g122_25, g122_28, g122_29, g122_31, g122_32, g122_33, g122_39, g122_40, g122_41, g122_45, g122_46, g122_47, g122_48, n123, n124, n125, n126, n127, n128, n129, n130, n131, n132, n133, n134, n135, n136, n137, n138, n139, n140, n141, n142, n143, n144, n145, n146, n45, n46, n47, n48, n49, n50, decide_false]
/-! ===== the component lays a row ===== -/
theorem c_lay {h : Hp} {cl : Nat → Nat} {d m r : Nat} (hd : 0 < d) (hd4 : d ≤ 4) (hm : m ≤ 4) (hr : r < 2147483648) (hcl : ∀ j, cl j < 8) (e4 : hI h 44 4 = nI d) (e47 : ∀ j, j < d → hI h 47 j = nI (cl j)) : ∃ h', F_X6_layTrial h 44 (nI r) (nI m) = some (h', if rpB (rwN cl d m r) m 0 then nI 0 else nI 1) ∧ (∀ d, d ≠ 48 → hI h' d = hI h d) ∧ hL h' = hL h ∧ (rpB (rwN cl d m r) m 0 = false → ∀ k, k < m → hI h' 48 k = nI (rwN cl d m r k)) := by
  have key : ∃ x, F_X6_layTrial h 44 (nI r) (nI m) = some x ∧ x.2 = (if rpB (rwN cl d m r) m 0 then nI 0 else nI 1) ∧ (∀ d, d ≠ 48 → hI x.1 d = hI h d) ∧ hL x.1 = hL h ∧ (rpB (rwN cl d m r) m 0 = false → ∀ k, k < m → hI x.1 48 k = nI (rwN cl d m r k)) := by
    refine iterW_inv2 (fun j s => s.2.1 = nI (dvN d r j) ∧ s.2.2 = nI (m - j) + mN ∧ (∀ d, d ≠ 48 → hI s.1 d = hI h d) ∧ hL s.1 = hL h ∧ (∀ k, m - j ≤ k → k < m → hI s.1 48 k = nI (rwN cl d m r k)) ∧ rpB (rwN cl d m r) m (m - j) = false) _ m (fun j s hj p => ?_) (fun s p => ?_) ⟨rfl, sub1 _, fun _ _ => rfl, rfl, fun k h1 h2 => by omega, ?_⟩
    · obtain ⟨p1, p2, p3, p4, p5, p6⟩ := p
      rw [nI_m (by omega)] at p2
      obtain ⟨i, hi⟩ : ∃ i, i = m - j - 1 := ⟨_, rfl⟩
      rw [← hi] at p2
      have ei : rwN cl d m r i = cl (dvN d r j % d) := by unfold rwN; rw [show m - 1 - i = j by omega]
      have lr := dvN_le (d := d) (r := r) j
      have lc := hcl (dvN d r j % d)
      have lm := Nat.mod_lt (dvN d r j) hd
      have r1 : nI (dvN d r j) / nI d = nI (dvN d r j / d) := pk_div (by omega) hd (by omega)
      have r2 : nI (dvN d r j) - nI (dvN d r j / d * d) = nI (dvN d r j % d) := by rw [← nI_mul, ← r1]; exact pk_rem (by omega) hd (by omega)
      have e4' : hI s.1 44 4 = nI d := by rw [p3 44 (by decide)]; exact e4
      have e47' : hI s.1 47 (dvN d r j % d) = nI (rwN cl d m r i) := by rw [p3 47 (by decide), ei]; exact e47 _ lm
      have W : ∀ k, i ≤ k → k < m → hI (uI s.1 48 i (nI (rwN cl d m r i))) 48 k = nI (rwN cl d m r k) := by
        intro k h1 h2
        by_cases x : k = i
        · rw [x, hI_uI_e]
        · rw [hI_uI_s x]
          exact p5 k (by omega) h2
      have L : L_X6_layTrial_52 (uI s.1 48 i (nI (rwN cl d m r i))) 44 (nI m) (nI (dvN d r j / d)) (nI i) (nI (i + 1)) = some ((fst1 (fun k => decide (rwN cl d m r k = rwN cl d m r i)) j (i + 1)).elim (.inl ()) (fun _ => .inr (uI s.1 48 i (nI (rwN cl d m r i)), nI 0))) := by
        refine iterW_fst (fun j => nI j) _ (fun _ => Sum.inr (uI s.1 48 i (nI (rwN cl d m r i)), nI 0)) (Sum.inl ()) j (i + 1) (fun k h1 h2 => ?_) ?_
        · show B_X6_layTrial_52 _ _ _ _ _ _ = _
          unfold B_X6_layTrial_52
          have q1 := W k (by omega) (by omega)
          have q2 := W i (Nat.le_refl _) (by omega)
          have q3 : rwN cl d m r k < 8 := hcl _
          have q4 : rwN cl d m r i < 8 := hcl _
          simp (disch := omega) only [↓m1_n, li_n, li_0, li_1, lt_y, lt_n, le_y, le_n, eq_n, nL, nLe, nEq, nEm, mEn, nLm, mLn, nLem, mLen, nI_add, nI_mul, nI_sub, nI_m, ib_nI, nx_nI, gd_y, bnd_e, bind_y, ↓reduceIte, hI_uI_o, hI_uI_s, hI_uI_e, hL_uI, hI_uL, hL_uL_o, hL_uL_s, hL_uL_e, and1_a, and1_b, Bool.not_true, Bool.not_false, Nat.zero_add, Nat.add_zero, Nat.add_sub_cancel, eq_self, ne_b, g0_0, g0_1, g0_2, g0_3, g0_4, g0_5, g0_6, g0_7, g0_8, g0_9, n1, n2, g3_2, g3_3, g3_4, g3_5, g3_6, g3_7, g3_8, g3_9, n4, n5, n6, n7, n8, n9, g10_2, g10_3, g10_4, g10_5, n11, n12, n13, n14, g15_2, g15_3, g15_4, g15_5, n16, n17, n18, n19, g40_0, g40_1, g40_2, g44_0, g44_2, g44_3, g44_5, g44_6, g44_10, g51_3, g51_4, g51_5, g51_6, g51_7, g57_3, g57_4, g57_5, g57_6, g57_7, n120, n121, g122_0, g122_4, g122_5, g122_6, g122_7, g122_8, g122_18, g122_19, g122_20, g122_21, g122_24, g122_25, g122_28, g122_29, g122_31, g122_32, g122_33, g122_39, g122_40, g122_41, g122_45, g122_46, g122_47, g122_48, n123, n124, n125, n126, n127, n128, n129, n130, n131, n132, n133, n134, n135, n136, n137, n138, n139, n140, n141, n142, n143, n144, n145, n146, n45, n46, n47, n48, n49, n50, decide_false, q1, q2]
          by_cases x : rwN cl d m r k = rwN cl d m r i <;> simp [x]
        · show B_X6_layTrial_52 _ _ _ _ _ _ = _
          unfold B_X6_layTrial_52
          simp (disch := omega) only [↓m1_n, li_n, li_0, li_1, lt_y, lt_n, le_y, le_n, eq_n, nL, nLe, nEq, nEm, mEn, nLm, mLn, nLem, mLen, nI_add, nI_mul, nI_sub, nI_m, ib_nI, nx_nI, gd_y, bnd_e, bind_y, ↓reduceIte, hI_uI_o, hI_uI_s, hI_uI_e, hL_uI, hI_uL, hL_uL_o, hL_uL_s, hL_uL_e, and1_a, and1_b, Bool.not_true, Bool.not_false, Nat.zero_add, Nat.add_zero, Nat.add_sub_cancel, eq_self, ne_b, g0_0, g0_1, g0_2, g0_3, g0_4, g0_5, g0_6, g0_7, g0_8, g0_9, n1, n2, g3_2, g3_3, g3_4, g3_5, g3_6, g3_7, g3_8, g3_9, n4, n5, n6, n7, n8, n9, g10_2, g10_3, g10_4, g10_5, n11, n12, n13, n14, g15_2, g15_3, g15_4, g15_5, n16, n17, n18, n19, g40_0, g40_1, g40_2, g44_0, g44_2, g44_3, g44_5, g44_6, g44_10, g51_3, g51_4, g51_5, g51_6, g51_7, g57_3, g57_4, g57_5, g57_6, g57_7, n120, n121, g122_0, g122_4, g122_5, g122_6, g122_7, g122_8, g122_18, g122_19, g122_20, g122_21, g122_24, g122_25, g122_28, g122_29, g122_31, g122_32, g122_33, g122_39, g122_40, g122_41, g122_45, g122_46, g122_47, g122_48, n123, n124, n125, n126, n127, n128, n129, n130, n131, n132, n133, n134, n135, n136, n137, n138, n139, n140, n141, n142, n143, n144, n145, n146, n45, n46, n47, n48, n49, n50, decide_false]
      cases ef : fst1 (fun k => decide (rwN cl d m r k = rwN cl d m r i)) j (i + 1) with
      | none =>
        rw [ef] at L
        refine Or.inl ⟨(uI s.1 48 i (nI (rwN cl d m r i)), nI (dvN d r j / d), nI i + mN), ?_, rfl, ?_, fun d hd => by rw [hI_uI_o hd]; exact p3 d hd, p4, fun k h1 h2 => W k (by omega) h2, ?_⟩
        · show B_X6_layTrial_7 _ _ _ _ _ = _
          unfold B_X6_layTrial_7
          rw [p1, p2]
          simp (disch := omega) only [↓m1_n, li_n, li_0, li_1, lt_y, lt_n, le_y, le_n, eq_n, nL, nLe, nEq, nEm, mEn, nLm, mLn, nLem, mLen, nI_add, nI_mul, nI_sub, nI_m, ib_nI, nx_nI, gd_y, bnd_e, bind_y, ↓reduceIte, hI_uI_o, hI_uI_s, hI_uI_e, hL_uI, hI_uL, hL_uL_o, hL_uL_s, hL_uL_e, and1_a, and1_b, Bool.not_true, Bool.not_false, Nat.zero_add, Nat.add_zero, Nat.add_sub_cancel, eq_self, ne_b, g0_0, g0_1, g0_2, g0_3, g0_4, g0_5, g0_6, g0_7, g0_8, g0_9, n1, n2, g3_2, g3_3, g3_4, g3_5, g3_6, g3_7, g3_8, g3_9, n4, n5, n6, n7, n8, n9, g10_2, g10_3, g10_4, g10_5, n11, n12, n13, n14, g15_2, g15_3, g15_4, g15_5, n16, n17, n18, n19, g40_0, g40_1, g40_2, g44_0, g44_2, g44_3, g44_5, g44_6, g44_10, g51_3, g51_4, g51_5, g51_6, g51_7, g57_3, g57_4, g57_5, g57_6, g57_7, n120, n121, g122_0, g122_4, g122_5, g122_6, g122_7, g122_8, g122_18, g122_19, g122_20, g122_21, g122_24, g122_25, g122_28, g122_29, g122_31, g122_32, g122_33, g122_39, g122_40, g122_41, g122_45, g122_46, g122_47, g122_48, n123, n124, n125, n126, n127, n128, n129, n130, n131, n132, n133, n134, n135, n136, n137, n138, n139, n140, n141, n142, n143, n144, n145, n146, n45, n46, n47, n48, n49, n50, decide_false, e4', r1, r2, e47', L, Option.elim_none, Sum.elim_inl]
        · show nI i + mN = _
          rw [show m - (j + 1) = i by omega]
        · cases x : rpB (rwN cl d m r) m (m - (j + 1)) with
          | false => rfl
          | true =>
            obtain ⟨a, b, h1, h2, h3, h4⟩ := rpB_iff.mp x
            by_cases y : a = i
            · subst y
              have := fst1_no _ _ ef b (by omega) (by omega)
              exact absurd h4 (of_decide_eq_false this)
            · rw [rpB_iff.mpr ⟨a, b, by omega, h2, h3, h4⟩] at p6
              exact absurd p6 (by decide)
      | some k =>
        rw [ef] at L
        have hk := fst1_lt _ _ _ ef
        have rp : rpB (rwN cl d m r) m 0 = true := rpB_iff.mpr ⟨i, k, Nat.zero_le _, by omega, by omega, of_decide_eq_true hk.2.2⟩
        refine Or.inr ⟨(uI s.1 48 i (nI (rwN cl d m r i)), nI 0), ?_, ?_, fun d hd => by rw [hI_uI_o hd]; exact p3 d hd, p4, fun x => ?_⟩
        · show B_X6_layTrial_7 _ _ _ _ _ = _
          unfold B_X6_layTrial_7
          rw [p1, p2]
          simp (disch := omega) only [↓m1_n, li_n, li_0, li_1, lt_y, lt_n, le_y, le_n, eq_n, nL, nLe, nEq, nEm, mEn, nLm, mLn, nLem, mLen, nI_add, nI_mul, nI_sub, nI_m, ib_nI, nx_nI, gd_y, bnd_e, bind_y, ↓reduceIte, hI_uI_o, hI_uI_s, hI_uI_e, hL_uI, hI_uL, hL_uL_o, hL_uL_s, hL_uL_e, and1_a, and1_b, Bool.not_true, Bool.not_false, Nat.zero_add, Nat.add_zero, Nat.add_sub_cancel, eq_self, ne_b, g0_0, g0_1, g0_2, g0_3, g0_4, g0_5, g0_6, g0_7, g0_8, g0_9, n1, n2, g3_2, g3_3, g3_4, g3_5, g3_6, g3_7, g3_8, g3_9, n4, n5, n6, n7, n8, n9, g10_2, g10_3, g10_4, g10_5, n11, n12, n13, n14, g15_2, g15_3, g15_4, g15_5, n16, n17, n18, n19, g40_0, g40_1, g40_2, g44_0, g44_2, g44_3, g44_5, g44_6, g44_10, g51_3, g51_4, g51_5, g51_6, g51_7, g57_3, g57_4, g57_5, g57_6, g57_7, n120, n121, g122_0, g122_4, g122_5, g122_6, g122_7, g122_8, g122_18, g122_19, g122_20, g122_21, g122_24, g122_25, g122_28, g122_29, g122_31, g122_32, g122_33, g122_39, g122_40, g122_41, g122_45, g122_46, g122_47, g122_48, n123, n124, n125, n126, n127, n128, n129, n130, n131, n132, n133, n134, n135, n136, n137, n138, n139, n140, n141, n142, n143, n144, n145, n146, n45, n46, n47, n48, n49, n50, decide_false, e4', r1, r2, e47', L, Option.elim_some, Sum.elim_inr]
        · rw [rp, if_pos rfl]
        · rw [rp] at x; exact absurd x (by decide)
    · obtain ⟨p1, p2, p3, p4, p5, p6⟩ := p
      rw [Nat.sub_self] at p2 p5 p6
      refine ⟨(s.1, nI 1), ?_, by rw [p6, if_neg Bool.false_ne_true], p3, p4, fun _ k hk => p5 k (Nat.zero_le _) hk⟩
      show B_X6_layTrial_7 _ _ _ _ _ = _
      unfold B_X6_layTrial_7
      rw [p2, if_pos (show nI 0 + mN < 0 by decide)]
      rfl
    · cases x : rpB (rwN cl d m r) m (m - 0) with
      | false => rfl
      | true =>
        obtain ⟨a, b, h1, h2, h3, h4⟩ := rpB_iff.mp x
        omega
  obtain ⟨x, k1, k2, k3⟩ := key
  exact ⟨x.1, by rw [k1, ← k2], k3⟩
theorem c_try {h : Hp} {A : Ho} {q m : Nat} {rk c : Nat → Nat} (ok : HoOk q A) (rc : RcH h 3 A) (hm : m ≤ 4) (hc : ∀ k, c k < 8) (e48 : ∀ k, k < m → hI h 48 k = nI (c k)) (e46 : ∀ x, x < oN A → hI h 46 x = nI (rk x)) (hk : ∀ c, rk c < 65536) : ∃ h', F_X6_tryRow h 44 3 40 (nI m) = some (h', if exB (desB rk (dkR A c m)) (oN A - 1) then mN else nI (hdR A c m)) ∧ (∀ d, d ≠ 41 → d ≠ 42 → d ≠ 49 → hI h' d = hI h d) ∧ hL h' = hL h := by
  have hA := ok.1
  obtain ⟨h1, a1, a2, a3, a4⟩ : ∃ h1, L_X6_tryRow_21 (sI h 49 (va_cpy (hI h 9) (hI h 49) 0 0 30)) 44 3 40 (nI m) (nI 0) (nI 0) = some (h1, nI (hdR A c m)) ∧ (∀ d, d ≠ 41 → d ≠ 42 → d ≠ 49 → hI h1 d = hI h d) ∧ hL h1 = hL h ∧ ∀ k, k < oN A → hI h1 49 k = nI (dkR A c m k) := by
    have key : ∃ x, L_X6_tryRow_21 (sI h 49 (va_cpy (hI h 9) (hI h 49) 0 0 30)) 44 3 40 (nI m) (nI 0) (nI 0) = some x ∧ x.2 = nI (hdR A c m) ∧ (∀ d, d ≠ 41 → d ≠ 42 → d ≠ 49 → hI x.1 d = hI h d) ∧ hL x.1 = hL h ∧ ∀ k, k < oN A → hI x.1 49 k = nI (dkR A c m k) := by
      refine iterW_inv (fun j s => s.2.2 = nI j ∧ s.2.1 = nI (hdR A c j) ∧ (∀ d, d ≠ 41 → d ≠ 42 → d ≠ 49 → hI s.1 d = hI h d) ∧ hL s.1 = hL h ∧ ∀ k, k < oN A → hI s.1 49 k = nI (dkR A c j k)) _ m (fun j s hj p => ?_) (fun s p => ?_) ⟨rfl, rfl, fun d _ _ x => hI_sI_o x, hL_sI, fun k hk => ?_⟩
      · obtain ⟨p1, p2, p3, p4, p5⟩ := p
        have rc1 : RcH s.1 3 A := RcH_congr (fun d _ _ => p3 d (by omega) (by omega) (by omega)) rc
        obtain ⟨h2, b1, b2, b3, b4, b5⟩ := c_sort (x := 49) (n := oN A) (col := c j) (D := dkR A c j) ok rc1 (Or.inr rfl) hA (hc j) (fun k hk => ⟨p5 k hk, dkR_lt ok j k hk⟩)
        refine ⟨(h2, nI (hdR A c (j + 1)), nI (j + 1)), ?_, rfl, rfl, fun d d1 d2 d3 => by rw [b4 d d1 d2 d3]; exact p3 d d1 d2 d3, by rw [b5]; exact p4, fun k hk => b2 k hk⟩
        show B_X6_tryRow_21 _ _ _ _ _ _ _ = _
        unfold B_X6_tryRow_21
        rw [p1, p2]
        have e : hI s.1 48 j = nI (c j) := by rw [p3 48 (by decide) (by decide) (by decide)]; exact e48 j hj
        simp (disch := omega) only [↓m1_n, li_n, li_0, li_1, lt_y, lt_n, le_y, le_n, eq_n, nL, nLe, nEq, nEm, mEn, nLm, mLn, nLem, mLen, nI_add, nI_mul, nI_sub, nI_m, ib_nI, nx_nI, gd_y, bnd_e, bind_y, ↓reduceIte, hI_uI_o, hI_uI_s, hI_uI_e, hL_uI, hI_uL, hL_uL_o, hL_uL_s, hL_uL_e, and1_a, and1_b, Bool.not_true, Bool.not_false, Nat.zero_add, Nat.add_zero, Nat.add_sub_cancel, eq_self, ne_b, g0_0, g0_1, g0_2, g0_3, g0_4, g0_5, g0_6, g0_7, g0_8, g0_9, n1, n2, g3_2, g3_3, g3_4, g3_5, g3_6, g3_7, g3_8, g3_9, n4, n5, n6, n7, n8, n9, g10_2, g10_3, g10_4, g10_5, n11, n12, n13, n14, g15_2, g15_3, g15_4, g15_5, n16, n17, n18, n19, g40_0, g40_1, g40_2, g44_0, g44_2, g44_3, g44_5, g44_6, g44_10, g51_3, g51_4, g51_5, g51_6, g51_7, g57_3, g57_4, g57_5, g57_6, g57_7, n120, n121, g122_0, g122_4, g122_5, g122_6, g122_7, g122_8, g122_18, g122_19, g122_20, g122_21, g122_24, g122_25, g122_28, g122_29, g122_31, g122_32, g122_33, g122_39, g122_40, g122_41, g122_45, g122_46, g122_47, g122_48, n123, n124, n125, n126, n127, n128, n129, n130, n131, n132, n133, n134, n135, n136, n137, n138, n139, n140, n141, n142, n143, n144, n145, n146, n45, n46, n47, n48, n49, n50, decide_false, cNn rc1, e, b1]
        rfl
      · obtain ⟨p1, p2, p3, p4, p5⟩ := p
        refine ⟨(s.1, nI (hdR A c m)), ?_, rfl, p3, p4, p5⟩
        show B_X6_tryRow_21 _ _ _ _ _ _ _ = _
        unfold B_X6_tryRow_21
        rw [p1, p2]
        simp (disch := omega) only [↓m1_n, li_n, li_0, li_1, lt_y, lt_n, le_y, le_n, eq_n, nL, nLe, nEq, nEm, mEn, nLm, mLn, nLem, mLen, nI_add, nI_mul, nI_sub, nI_m, ib_nI, nx_nI, gd_y, bnd_e, bind_y, ↓reduceIte, hI_uI_o, hI_uI_s, hI_uI_e, hL_uI, hI_uL, hL_uL_o, hL_uL_s, hL_uL_e, and1_a, and1_b, Bool.not_true, Bool.not_false, Nat.zero_add, Nat.add_zero, Nat.add_sub_cancel, eq_self, ne_b, g0_0, g0_1, g0_2, g0_3, g0_4, g0_5, g0_6, g0_7, g0_8, g0_9, n1, n2, g3_2, g3_3, g3_4, g3_5, g3_6, g3_7, g3_8, g3_9, n4, n5, n6, n7, n8, n9, g10_2, g10_3, g10_4, g10_5, n11, n12, n13, n14, g15_2, g15_3, g15_4, g15_5, n16, n17, n18, n19, g40_0, g40_1, g40_2, g44_0, g44_2, g44_3, g44_5, g44_6, g44_10, g51_3, g51_4, g51_5, g51_6, g51_7, g57_3, g57_4, g57_5, g57_6, g57_7, n120, n121, g122_0, g122_4, g122_5, g122_6, g122_7, g122_8, g122_18, g122_19, g122_20, g122_21, g122_24, g122_25, g122_28, g122_29, g122_31, g122_32, g122_33, g122_39, g122_40, g122_41, g122_45, g122_46, g122_47, g122_48, n123, n124, n125, n126, n127, n128, n129, n130, n131, n132, n133, n134, n135, n136, n137, n138, n139, n140, n141, n142, n143, n144, n145, n146, n45, n46, n47, n48, n49, n50, decide_false]
      · rw [hI_sI_e, cpy0 (by omega), cDe rc hk]
        rfl
    obtain ⟨x, k1, k2, k3⟩ := key
    exact ⟨x.1, by rw [k1, ← k2], k3⟩
  have rc1 : RcH h1 3 A := RcH_congr (fun d _ _ => a2 d (by omega) (by omega) (by omega)) rc
  have IO := c_inOrder (h := h1) (x := 49) (m := oN A) (N := oN A) (rk := rk) (D := dkR A c m) n49 hA hA (fun k hk => ⟨a4 k hk, dkR_lt ok m k hk⟩) (fun x hx => by rw [a2 46 (by decide) (by decide) (by decide)]; exact e46 x hx) hk
  refine ⟨h1, ?_, a2, a3⟩
  unfold F_X6_tryRow
  cases eb : exB (desB rk (dkR A c m)) (oN A - 1) with
  | true =>
    rw [eb] at IO
    simp (disch := omega) only [↓m1_n, li_n, li_0, li_1, lt_y, lt_n, le_y, le_n, eq_n, nL, nLe, nEq, nEm, mEn, nLm, mLn, nLem, mLen, nI_add, nI_mul, nI_sub, nI_m, ib_nI, nx_nI, gd_y, bnd_e, bind_y, ↓reduceIte, hI_uI_o, hI_uI_s, hI_uI_e, hL_uI, hI_uL, hL_uL_o, hL_uL_s, hL_uL_e, and1_a, and1_b, Bool.not_true, Bool.not_false, Nat.zero_add, Nat.add_zero, Nat.add_sub_cancel, eq_self, ne_b, g0_0, g0_1, g0_2, g0_3, g0_4, g0_5, g0_6, g0_7, g0_8, g0_9, n1, n2, g3_2, g3_3, g3_4, g3_5, g3_6, g3_7, g3_8, g3_9, n4, n5, n6, n7, n8, n9, g10_2, g10_3, g10_4, g10_5, n11, n12, n13, n14, g15_2, g15_3, g15_4, g15_5, n16, n17, n18, n19, g40_0, g40_1, g40_2, g44_0, g44_2, g44_3, g44_5, g44_6, g44_10, g51_3, g51_4, g51_5, g51_6, g51_7, g57_3, g57_4, g57_5, g57_6, g57_7, n120, n121, g122_0, g122_4, g122_5, g122_6, g122_7, g122_8, g122_18, g122_19, g122_20, g122_21, g122_24, g122_25, g122_28, g122_29, g122_31, g122_32, g122_33, g122_39, g122_40, g122_41, g122_45, g122_46, g122_47, g122_48, n123, n124, n125, n126, n127, n128, n129, n130, n131, n132, n133, n134, n135, n136, n137, n138, n139, n140, n141, n142, n143, n144, n145, n146, n45, n46, n47, n48, n49, n50, decide_false, cpk, a1, cNn rc1, IO]
  | false =>
    rw [eb] at IO
    simp (disch := omega) only [↓m1_n, li_n, li_0, li_1, lt_y, lt_n, le_y, le_n, eq_n, nL, nLe, nEq, nEm, mEn, nLm, mLn, nLem, mLen, nI_add, nI_mul, nI_sub, nI_m, ib_nI, nx_nI, gd_y, bnd_e, bind_y, ↓reduceIte, hI_uI_o, hI_uI_s, hI_uI_e, hL_uI, hI_uL, hL_uL_o, hL_uL_s, hL_uL_e, and1_a, and1_b, Bool.not_true, Bool.not_false, Nat.zero_add, Nat.add_zero, Nat.add_sub_cancel, eq_self, ne_b, g0_0, g0_1, g0_2, g0_3, g0_4, g0_5, g0_6, g0_7, g0_8, g0_9, n1, n2, g3_2, g3_3, g3_4, g3_5, g3_6, g3_7, g3_8, g3_9, n4, n5, n6, n7, n8, n9, g10_2, g10_3, g10_4, g10_5, n11, n12, n13, n14, g15_2, g15_3, g15_4, g15_5, n16, n17, n18, n19, g40_0, g40_1, g40_2, g44_0, g44_2, g44_3, g44_5, g44_6, g44_10, g51_3, g51_4, g51_5, g51_6, g51_7, g57_3, g57_4, g57_5, g57_6, g57_7, n120, n121, g122_0, g122_4, g122_5, g122_6, g122_7, g122_8, g122_18, g122_19, g122_20, g122_21, g122_24, g122_25, g122_28, g122_29, g122_31, g122_32, g122_33, g122_39, g122_40, g122_41, g122_45, g122_46, g122_47, g122_48, n123, n124, n125, n126, n127, n128, n129, n130, n131, n132, n133, n134, n135, n136, n137, n138, n139, n140, n141, n142, n143, n144, n145, n146, n45, n46, n47, n48, n49, n50, decide_false, cpk, a1, cNn rc1, IO, Bool.false_eq_true]
