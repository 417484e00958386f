/-! ===== parts: the component's ways ===== -/
def CP (h : Hp) (n : Nat) (a0 a1 : Nat → Bool) (lt : Nat → Nat → Bool) : Prop := hI h 57 1 = nI n ∧ (∀ c, 1 ≤ c → c ≤ n → (hI h 60 c = nI 1) = (a0 c = false) ∧ (hI h 60 c = nI 0) = (a1 c = false)) ∧ ∀ x c, x < c → c ≤ n → (hI h 59 c ≤ hI h 59 x) = (lt x c = false)
/-- only the two rows of ways change -/
def FrW (h h' : Hp) : Prop := (∀ d, d ≠ 61 → d ≠ 62 → hI h' d = hI h d) ∧ hL h' = hL h
theorem FrW.rf {h : Hp} : FrW h h := ⟨fun _ _ _ => rfl, rfl⟩
theorem FrW.trans {a b c : Hp} (x : FrW a b) (y : FrW b c) : FrW a c := ⟨fun d p q => (y.1 d p q).trans (x.1 d p q), y.2.trans x.2⟩
theorem FrW.cp {h h' : Hp} {n : Nat} {a0 a1 : Nat → Bool} {lt : Nat → Nat → Bool} (f : FrW h h') (p : CP h n a0 a1 lt) : CP h' n a0 a1 lt := by
  unfold CP at *
  rw [f.1 57 (by decide) (by decide), f.1 59 (by decide) (by decide), f.1 60 (by decide) (by decide)]
  exact p
/-- the two rows hold the ways -/
def RW (h : Hp) (c : Nat) (Z O : Nat → Nat) : Prop := ∀ k, k < c → hI h 61 k = nI (Z k) ∧ hI h 62 k = nI (O k)
/-- in the middle of adding card c + 1: the first m are done -/
def RM (h : Hp) (c m : Nat) (b0 b1 bl : Bool) (Z O : Nat → Nat) : Prop := ∀ k, k < c → hI h 61 k = nI (if k < m then (if b0 && bl then Z k else 0) else Z k) ∧ hI h 62 k = nI (if k < m then (if b1 && bl then O k else 0) else O k)
def acc (b : Bool) (lt : Nat → Nat → Bool) (O : Nat → Nat) (c m : Nat) : Nat := if b then smN (fun x => if lt x (c + 1) then O x else 0) m else 0
theorem bI_t : bI true = nI 1 := rfl
theorem bI_f : bI false = nI 0 := rfl
theorem c_add64 {h : Hp} {n c : Nat} {a0 a1 : Nat → Bool} {lt : Nat → Nat → Bool} {Z O : Nat → Nat} (cp : CP h n a0 a1 lt) (hc : c + 1 ≤ n) (hn : n ≤ 30) (c1 : 1 ≤ c) (b0 b1 bl : Bool) (r : RW h c Z O) : ∃ h', L_X5_addCard_64 h 57 (nI (c + 1)) (bI b0) (bI b1) (bI bl) (nI 0) (nI 0) (nI 0) = some (h', nI (acc b0 lt O c c), nI (acc b1 lt Z c c)) ∧ FrW h h' ∧ RM h' c c b0 b1 bl Z O := by
  have key := iterW_inv (f := fun s : Hp × Int32 × Int32 × Int32 => B_X5_addCard_64 s.1 57 (nI (c + 1)) (bI b0) (bI b1) (bI bl) s.2.1 s.2.2.1 s.2.2.2) (fun m s => s.2 = (nI (acc b0 lt O c m), nI (acc b1 lt Z c m), nI m) ∧ FrW h s.1 ∧ RM s.1 c m b0 b1 bl Z O) (fun r => r.2 = (nI (acc b0 lt O c c), nI (acc b1 lt Z c c)) ∧ FrW h r.1 ∧ RM r.1 c c b0 b1 bl Z O) c (fun m s hm P => ?_) (fun s P => ?_) (s := (h, nI 0, nI 0, nI 0)) ⟨?_, FrW.rf, ?_⟩
  · obtain ⟨⟨h', r2⟩, k1, k2, k3, k4⟩ := key
    have k2 : r2 = _ := k2
    subst k2
    exact ⟨h', k1, k3, k4⟩
  · obtain ⟨hx, s2⟩ := s
    obtain ⟨e2, f, g⟩ := P
    have e2 : s2 = _ := e2
    have f : FrW h hx := f
    have g : RM hx c m b0 b1 bl Z O := g
    subst e2
    have cpx := f.cp cp
    have g1 := (g m hm).1
    have g2 := (g m hm).2
    rw [if_neg (Nat.lt_irrefl m)] at g1 g2
    have lc := cpx.2.2 m (c + 1) (by omega) hc
    show ∃ s', B_X5_addCard_64 hx 57 (nI (c + 1)) (bI b0) (bI b1) (bI bl) (nI (acc b0 lt O c m)) (nI (acc b1 lt Z c m)) (nI m) = _ ∧ _
    have ac : ∀ (b : Bool) (O : Nat → Nat), acc b lt O c (m + 1) = acc b lt O c m + if b then (if lt m (c + 1) then O m else 0) else 0 := by
      intro b O
      unfold acc
      cases b <;> rfl
    refine ⟨((if b1 && bl then (if b0 && bl then hx else uI hx 61 m (nI 0)) else uI (if b0 && bl then hx else uI hx 61 m (nI 0)) 62 m (nI 0)), nI (acc b0 lt O c (m + 1)), nI (acc b1 lt Z c (m + 1)), nI (m + 1)), ?_, rfl, ?_, ?_⟩
    · rw [ac, ac]
      unfold B_X5_addCard_64 J_X5_addCard_105 J_X5_addCard_125 J_X5_addCard_128 J_X5_addCard_137 J_X5_addCard_145
      cases lm : lt m (c + 1) with
      | false =>
        rw [lm] at lc
        have lc : (hI hx 59 (c + 1) ≤ hI hx 59 m) = True := by rw [lc]; exact eq_true rfl
        cases b0 <;> cases b1 <;> cases bl <;> simp (disch := omega) only [↓m1_n, li_n, li_0, li_1, lt_y, lt_n, le_y, le_n, eq_n, nL, nLe, nEq, nEm, mEn, nLm, mLn, nLem, mLen, nI_add, nI_mul, nI_sub, nI_m, ib_nI, nx_nI, gd_y, bnd_e, bind_y, ↓reduceIte, hI_uI_o, hI_uI_s, hI_uI_e, hL_uI, hI_uL, hL_uL_o, hL_uL_s, hL_uL_e, and1_a, and1_b, Bool.not_true, Bool.not_false, Nat.zero_add, Nat.add_zero, Nat.add_sub_cancel, eq_self, ne_b, g0_0, g0_1, g0_2, g0_3, g0_4, g0_5, g0_6, g0_7, g0_8, g0_9, n1, n2, g3_2, g3_3, g3_4, g3_5, g3_6, g3_7, g3_8, g3_9, n4, n5, n6, n7, n8, n9, g10_2, g10_3, g10_4, g10_5, n11, n12, n13, n14, g15_2, g15_3, g15_4, g15_5, n16, n17, n18, n19, g40_0, g40_1, g40_2, g44_0, g44_2, g44_3, g44_5, g44_6, g44_10, g51_3, g51_4, g51_5, g51_6, g51_7, g57_3, g57_4, g57_5, g57_6, g57_7, n120, n121, g122_0, g122_4, g122_5, g122_6, g122_7, g122_8, g122_18, g122_19, g122_20, g122_21, g122_24, g122_25, g122_28, g122_29, g122_31, g122_32, g122_33, g122_39, g122_40, g122_41, g122_45, g122_46, g122_47, g122_48, n123, n124, n125, n126, n127, n128, n129, n130, n131, n132, n133, n134, n135, n136, n137, n138, n139, n140, n141, n142, n143, n144, n145, n146, n59, n61, n62, bI_t, bI_f, lc, g1, g2, Bool.true_eq_false, Bool.false_and, Bool.true_and, Bool.and_false, Bool.and_true, Bool.false_eq_true]
      | true =>
        rw [lm] at lc
        have lc : (hI hx 59 (c + 1) ≤ hI hx 59 m) = False := by rw [lc]; exact eq_false (fun e => Bool.false_ne_true e.symm)
        cases b0 <;> cases b1 <;> cases bl <;> simp (disch := omega) only [↓m1_n, li_n, li_0, li_1, lt_y, lt_n, le_y, le_n, eq_n, nL, nLe, nEq, nEm, mEn, nLm, mLn, nLem, mLen, nI_add, nI_mul, nI_sub, nI_m, ib_nI, nx_nI, gd_y, bnd_e, bind_y, ↓reduceIte, hI_uI_o, hI_uI_s, hI_uI_e, hL_uI, hI_uL, hL_uL_o, hL_uL_s, hL_uL_e, and1_a, and1_b, Bool.not_true, Bool.not_false, Nat.zero_add, Nat.add_zero, Nat.add_sub_cancel, eq_self, ne_b, g0_0, g0_1, g0_2, g0_3, g0_4, g0_5, g0_6, g0_7, g0_8, g0_9, n1, n2, g3_2, g3_3, g3_4, g3_5, g3_6, g3_7, g3_8, g3_9, n4, n5, n6, n7, n8, n9, g10_2, g10_3, g10_4, g10_5, n11, n12, n13, n14, g15_2, g15_3, g15_4, g15_5, n16, n17, n18, n19, g40_0, g40_1, g40_2, g44_0, g44_2, g44_3, g44_5, g44_6, g44_10, g51_3, g51_4, g51_5, g51_6, g51_7, g57_3, g57_4, g57_5, g57_6, g57_7, n120, n121, g122_0, g122_4, g122_5, g122_6, g122_7, g122_8, g122_18, g122_19, g122_20, g122_21, g122_24, g122_25, g122_28, g122_29, g122_31, g122_32, g122_33, g122_39, g122_40, g122_41, g122_45, g122_46, g122_47, g122_48, n123, n124, n125, n126, n127, n128, n129, n130, n131, n132, n133, n134, n135, n136, n137, n138, n139, n140, n141, n142, n143, n144, n145, n146, n59, n61, n62, bI_t, bI_f, lc, g1, g2, Bool.true_eq_false, Bool.false_and, Bool.true_and, Bool.and_false, Bool.and_true, Bool.false_eq_true]
    · refine f.trans ?_
      cases b0 <;> cases b1 <;> cases bl <;> refine ⟨fun d p q => ?_, rfl⟩ <;> simp (disch := omega) only [↓m1_n, li_n, li_0, li_1, lt_y, lt_n, le_y, le_n, eq_n, nL, nLe, nEq, nEm, mEn, nLm, mLn, nLem, mLen, nI_add, nI_mul, nI_sub, nI_m, ib_nI, nx_nI, gd_y, bnd_e, bind_y, ↓reduceIte, hI_uI_o, hI_uI_s, hI_uI_e, hL_uI, hI_uL, hL_uL_o, hL_uL_s, hL_uL_e, and1_a, and1_b, Bool.not_true, Bool.not_false, Nat.zero_add, Nat.add_zero, Nat.add_sub_cancel, eq_self, ne_b, g0_0, g0_1, g0_2, g0_3, g0_4, g0_5, g0_6, g0_7, g0_8, g0_9, n1, n2, g3_2, g3_3, g3_4, g3_5, g3_6, g3_7, g3_8, g3_9, n4, n5, n6, n7, n8, n9, g10_2, g10_3, g10_4, g10_5, n11, n12, n13, n14, g15_2, g15_3, g15_4, g15_5, n16, n17, n18, n19, g40_0, g40_1, g40_2, g44_0, g44_2, g44_3, g44_5, g44_6, g44_10, g51_3, g51_4, g51_5, g51_6, g51_7, g57_3, g57_4, g57_5, g57_6, g57_7, n120, n121, g122_0, g122_4, g122_5, g122_6, g122_7, g122_8, g122_18, g122_19, g122_20, g122_21, g122_24, g122_25, g122_28, g122_29, g122_31, g122_32, g122_33, g122_39, g122_40, g122_41, g122_45, g122_46, g122_47, g122_48, n123, n124, n125, n126, n127, n128, n129, n130, n131, n132, n133, n134, n135, n136, n137, n138, n139, n140, n141, n142, n143, n144, n145, n146, Bool.false_and, Bool.true_and, Bool.and_false, Bool.and_true, Bool.false_eq_true, hI_uI_o p, hI_uI_o q]
    · intro k hk
      have gk := g k hk
      by_cases ek : k = m
      · subst ek
        rw [if_pos (show k < k + 1 by omega), if_pos (show k < k + 1 by omega)]
        cases b0 <;> cases b1 <;> cases bl <;> simp (disch := omega) only [↓m1_n, li_n, li_0, li_1, lt_y, lt_n, le_y, le_n, eq_n, nL, nLe, nEq, nEm, mEn, nLm, mLn, nLem, mLen, nI_add, nI_mul, nI_sub, nI_m, ib_nI, nx_nI, gd_y, bnd_e, bind_y, ↓reduceIte, hI_uI_o, hI_uI_s, hI_uI_e, hL_uI, hI_uL, hL_uL_o, hL_uL_s, hL_uL_e, and1_a, and1_b, Bool.not_true, Bool.not_false, Nat.zero_add, Nat.add_zero, Nat.add_sub_cancel, eq_self, ne_b, g0_0, g0_1, g0_2, g0_3, g0_4, g0_5, g0_6, g0_7, g0_8, g0_9, n1, n2, g3_2, g3_3, g3_4, g3_5, g3_6, g3_7, g3_8, g3_9, n4, n5, n6, n7, n8, n9, g10_2, g10_3, g10_4, g10_5, n11, n12, n13, n14, g15_2, g15_3, g15_4, g15_5, n16, n17, n18, n19, g40_0, g40_1, g40_2, g44_0, g44_2, g44_3, g44_5, g44_6, g44_10, g51_3, g51_4, g51_5, g51_6, g51_7, g57_3, g57_4, g57_5, g57_6, g57_7, n120, n121, g122_0, g122_4, g122_5, g122_6, g122_7, g122_8, g122_18, g122_19, g122_20, g122_21, g122_24, g122_25, g122_28, g122_29, g122_31, g122_32, g122_33, g122_39, g122_40, g122_41, g122_45, g122_46, g122_47, g122_48, n123, n124, n125, n126, n127, n128, n129, n130, n131, n132, n133, n134, n135, n136, n137, n138, n139, n140, n141, n142, n143, n144, n145, n146, Bool.false_and, Bool.true_and, Bool.and_false, Bool.and_true, Bool.false_eq_true, g1, g2, and_self]
      · by_cases lk : k < m
        · rw [if_pos lk, if_pos lk] at gk
          rw [if_pos (show k < m + 1 by omega), if_pos (show k < m + 1 by omega)]
          cases b0 <;> cases b1 <;> cases bl <;> simp (disch := omega) only [↓m1_n, li_n, li_0, li_1, lt_y, lt_n, le_y, le_n, eq_n, nL, nLe, nEq, nEm, mEn, nLm, mLn, nLem, mLen, nI_add, nI_mul, nI_sub, nI_m, ib_nI, nx_nI, gd_y, bnd_e, bind_y, ↓reduceIte, hI_uI_o, hI_uI_s, hI_uI_e, hL_uI, hI_uL, hL_uL_o, hL_uL_s, hL_uL_e, and1_a, and1_b, Bool.not_true, Bool.not_false, Nat.zero_add, Nat.add_zero, Nat.add_sub_cancel, eq_self, ne_b, g0_0, g0_1, g0_2, g0_3, g0_4, g0_5, g0_6, g0_7, g0_8, g0_9, n1, n2, g3_2, g3_3, g3_4, g3_5, g3_6, g3_7, g3_8, g3_9, n4, n5, n6, n7, n8, n9, g10_2, g10_3, g10_4, g10_5, n11, n12, n13, n14, g15_2, g15_3, g15_4, g15_5, n16, n17, n18, n19, g40_0, g40_1, g40_2, g44_0, g44_2, g44_3, g44_5, g44_6, g44_10, g51_3, g51_4, g51_5, g51_6, g51_7, g57_3, g57_4, g57_5, g57_6, g57_7, n120, n121, g122_0, g122_4, g122_5, g122_6, g122_7, g122_8, g122_18, g122_19, g122_20, g122_21, g122_24, g122_25, g122_28, g122_29, g122_31, g122_32, g122_33, g122_39, g122_40, g122_41, g122_45, g122_46, g122_47, g122_48, n123, n124, n125, n126, n127, n128, n129, n130, n131, n132, n133, n134, n135, n136, n137, n138, n139, n140, n141, n142, n143, n144, n145, n146, Bool.false_and, Bool.true_and, Bool.and_false, Bool.and_true, Bool.false_eq_true, hI_uI_s ek] at gk ⊢ <;> exact gk
        · rw [if_neg lk, if_neg lk] at gk
          rw [if_neg (show ¬ k < m + 1 by omega), if_neg (show ¬ k < m + 1 by omega)]
          cases b0 <;> cases b1 <;> cases bl <;> simp (disch := omega) only [↓m1_n, li_n, li_0, li_1, lt_y, lt_n, le_y, le_n, eq_n, nL, nLe, nEq, nEm, mEn, nLm, mLn, nLem, mLen, nI_add, nI_mul, nI_sub, nI_m, ib_nI, nx_nI, gd_y, bnd_e, bind_y, ↓reduceIte, hI_uI_o, hI_uI_s, hI_uI_e, hL_uI, hI_uL, hL_uL_o, hL_uL_s, hL_uL_e, and1_a, and1_b, Bool.not_true, Bool.not_false, Nat.zero_add, Nat.add_zero, Nat.add_sub_cancel, eq_self, ne_b, g0_0, g0_1, g0_2, g0_3, g0_4, g0_5, g0_6, g0_7, g0_8, g0_9, n1, n2, g3_2, g3_3, g3_4, g3_5, g3_6, g3_7, g3_8, g3_9, n4, n5, n6, n7, n8, n9, g10_2, g10_3, g10_4, g10_5, n11, n12, n13, n14, g15_2, g15_3, g15_4, g15_5, n16, n17, n18, n19, g40_0, g40_1, g40_2, g44_0, g44_2, g44_3, g44_5, g44_6, g44_10, g51_3, g51_4, g51_5, g51_6, g51_7, g57_3, g57_4, g57_5, g57_6, g57_7, n120, n121, g122_0, g122_4, g122_5, g122_6, g122_7, g122_8, g122_18, g122_19, g122_20, g122_21, g122_24, g122_25, g122_28, g122_29, g122_31, g122_32, g122_33, g122_39, g122_40, g122_41, g122_45, g122_46, g122_47, g122_48, n123, n124, n125, n126, n127, n128, n129, n130, n131, n132, n133, n134, n135, n136, n137, n138, n139, n140, n141, n142, n143, n144, n145, n146, Bool.false_and, Bool.true_and, Bool.and_false, Bool.and_true, Bool.false_eq_true, hI_uI_s ek, gk.1, gk.2, and_self]
  · obtain ⟨hx, s2⟩ := s
    obtain ⟨e2, P⟩ := P
    have e2 : s2 = _ := e2
    subst e2
    refine ⟨(hx, nI (acc b0 lt O c c), nI (acc b1 lt Z c c)), ?_, rfl, P⟩
    show B_X5_addCard_64 hx 57 (nI (c + 1)) (bI b0) (bI b1) (bI bl) (nI (acc b0 lt O c c)) (nI (acc b1 lt Z c c)) (nI c) = _
    unfold B_X5_addCard_64
    simp (disch := omega) only [↓m1_n, li_n, li_0, li_1, lt_y, lt_n, le_y, le_n, eq_n, nL, nLe, nEq, nEm, mEn, nLm, mLn, nLem, mLen, nI_add, nI_mul, nI_sub, nI_m, ib_nI, nx_nI, gd_y, bnd_e, bind_y, ↓reduceIte, hI_uI_o, hI_uI_s, hI_uI_e, hL_uI, hI_uL, hL_uL_o, hL_uL_s, hL_uL_e, and1_a, and1_b, Bool.not_true, Bool.not_false, Nat.zero_add, Nat.add_zero, Nat.add_sub_cancel, eq_self, ne_b, g0_0, g0_1, g0_2, g0_3, g0_4, g0_5, g0_6, g0_7, g0_8, g0_9, n1, n2, g3_2, g3_3, g3_4, g3_5, g3_6, g3_7, g3_8, g3_9, n4, n5, n6, n7, n8, n9, g10_2, g10_3, g10_4, g10_5, n11, n12, n13, n14, g15_2, g15_3, g15_4, g15_5, n16, n17, n18, n19, g40_0, g40_1, g40_2, g44_0, g44_2, g44_3, g44_5, g44_6, g44_10, g51_3, g51_4, g51_5, g51_6, g51_7, g57_3, g57_4, g57_5, g57_6, g57_7, n120, n121, g122_0, g122_4, g122_5, g122_6, g122_7, g122_8, g122_18, g122_19, g122_20, g122_21, g122_24, g122_25, g122_28, g122_29, g122_31, g122_32, g122_33, g122_39, g122_40, g122_41, g122_45, g122_46, g122_47, g122_48, n123, n124, n125, n126, n127, n128, n129, n130, n131, n132, n133, n134, n135, n136, n137, n138, n139, n140, n141, n142, n143, n144, n145, n146]
  · have z : ∀ b (O : Nat → Nat), acc b lt O c 0 = 0 := fun b O => by unfold acc; cases b <;> rfl
    rw [z, z]
  · intro k hk
    rw [if_neg (by omega), if_neg (by omega)]
    exact r k hk
