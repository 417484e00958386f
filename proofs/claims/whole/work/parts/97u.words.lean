/-! ===== the readers at a token ===== -/
def Rd (h : Hp) (c : Nat) (f : Nat → Nat) (n p : Nat) : Prop := Tx h f n ∧ p ≤ n ∧ hT h c = 2 ∧ hI h c 1 = nI n ∧ hI h c 2 = nI (tS f n p) ∧ hI h c 3 = nI (tE f n p) ∧ hI h c 4 = nI (tK f n p) ∧ c ≠ 2
def RdM (h : Hp) (f : Nat → Nat) (n p : Nat) : Prop := TxM h f n ∧ p ≤ n ∧ hI h 122 11 = nI (mkT (tK f n p)) ∧ hI h 122 12 = nI (tS f n p) ∧ hI h 122 13 = nI (tE f n p) ∧ hI h 122 14 = vM f n p
section RD
variable {h : Hp} {c n p : Nat} {f : Nat → Nat}
theorem adC_o {d : Nat} (hd : d ≠ c) : hI (adC h c f n p) d = hI h d := by unfold adC; rw [hI_uI_o hd, hI_uI_o hd, hI_uI_o hd]
theorem adC_s {k : Nat} (h2 : k ≠ 2) (h3 : k ≠ 3) (h4 : k ≠ 4) : hI (adC h c f n p) c k = hI h c k := by unfold adC; rw [hI_uI_s h4, hI_uI_s h3, hI_uI_s h2]
theorem adC_L : hL (adC h c f n p) = hL h := rfl
theorem adC_T : hT (adC h c f n p) = hT h := rfl
theorem adM_o {d : Nat} (hd : d ≠ 122) : hI (adM h f n p) d = hI h d := by unfold adM; rw [hI_uI_o hd, hI_uI_o hd, hI_uI_o hd, hI_uI_o hd, hI_uI_o hd]
theorem adM_s {k : Nat} (h1 : k ≠ 11) (h2 : k ≠ 12) (h3 : k ≠ 13) (h4 : k ≠ 14) : hI (adM h f n p) 122 k = hI h 122 k := by unfold adM; rw [hI_uI_s h1, hI_uI_s h3, hI_uI_s h4, hI_uI_s h2, hI_uI_s h3]
theorem adM_L : hL (adM h f n p) = hL h := rfl
theorem Rd_ad (hc : c ≠ 2) (hp : p ≤ n) (tx : Tx h f n) (t2 : hT h c = 2) (e1 : hI h c 1 = nI n) : Rd (adC h c f n p) c f n p := by
  refine ⟨⟨tx.1, fun k hk => ?_⟩, hp, t2, ?_, ?_, ?_, ?_, hc⟩
  · rw [adC_o (fun e => hc e.symm)]; exact tx.2 k hk
  · rw [adC_s (by decide) (by decide) (by decide)]; exact e1
  · unfold adC; rw [hI_uI_s (by decide), hI_uI_s (by decide), hI_uI_e]
  · unfold adC; rw [hI_uI_s (by decide), hI_uI_e]
  · unfold adC; rw [hI_uI_e]
theorem RdM_ad (hp : p ≤ n) (tx : TxM h f n) : RdM (adM h f n p) f n p := by
  refine ⟨⟨tx.1, ?_, fun k hk => ?_⟩, hp, ?_, ?_, ?_, ?_⟩
  · rw [adM_s (by decide) (by decide) (by decide) (by decide)]; exact tx.2.1
  · rw [adM_o (by decide)]; exact tx.2.2 k hk
  · unfold adM; rw [hI_uI_e]
  · unfold adM; rw [hI_uI_s (by decide), hI_uI_s (by decide), hI_uI_s (by decide), hI_uI_e]
  · unfold adM; rw [hI_uI_s (by decide), hI_uI_e]
  · unfold adM; rw [hI_uI_s (by decide), hI_uI_s (by decide), hI_uI_e]
theorem Rd.go (r : Rd h c f n p) : F_X7_advance h c = some (adC h c f n (tE f n p)) ∧ Rd (adC h c f n (tE f n p)) c f n (tE f n p) := by
  obtain ⟨r1, r2, r3, r4, r5, r6, r7, r8⟩ := r
  have b := tE_b (f := f) r2
  exact ⟨c_adv r8 b.2.1 r1 r3 r4 r6, Rd_ad r8 b.2.1 r1 r3 r4⟩
theorem RdM.go (r : RdM h f n p) : F_X12_ahead h 122 = some (adM h f n (tE f n p)) ∧ RdM (adM h f n (tE f n p)) f n (tE f n p) := by
  obtain ⟨r1, r2, r3, r4, r5, r6⟩ := r
  have b := tE_b (f := f) r2
  exact ⟨m_adv b.2.1 r1 r5, RdM_ad b.2.1 r1⟩
theorem Rd.cg {h' : Hp} (r : Rd h c f n p) (e1 : hI h' 2 = hI h 2) (e2 : hT h' = hT h) (e3 : ∀ k, 1 ≤ k → k ≤ 4 → hI h' c k = hI h c k) : Rd h' c f n p := by
  obtain ⟨r1, r2, r3, r4, r5, r6, r7, r8⟩ := r
  exact ⟨⟨r1.1, fun k hk => by rw [e1]; exact r1.2 k hk⟩, r2, by rw [e2]; exact r3, by rw [e3 1 (by decide) (by decide)]; exact r4, by rw [e3 2 (by decide) (by decide)]; exact r5, by rw [e3 3 (by decide) (by decide)]; exact r6, by rw [e3 4 (by decide) (by decide)]; exact r7, r8⟩
theorem RdM.cg {h' : Hp} (r : RdM h f n p) (e1 : hI h' 128 = hI h 128) (e3 : ∀ k, 10 ≤ k → k ≤ 14 → hI h' 122 k = hI h 122 k) : RdM h' f n p := by
  obtain ⟨r1, r2, r3, r4, r5, r6⟩ := r
  exact ⟨⟨r1.1, by rw [e3 10 (by decide) (by decide)]; exact r1.2.1, fun k hk => by rw [e1]; exact r1.2.2 k hk⟩, r2, by rw [e3 11 (by decide) (by decide)]; exact r3, by rw [e3 12 (by decide) (by decide)]; exact r4, by rw [e3 13 (by decide) (by decide)]; exact r5, by rw [e3 14 (by decide) (by decide)]; exact r6⟩
end RD
/-! ===== words ===== -/
def mmB (f : Nat → Nat) (s w j : Nat) : Bool := decide (nI (f (s + j)) ≠ (SBY.getD w []).getD j (nI 0))
def wdB (f : Nat → Nat) (n p w : Nat) : Bool := decide (tK f n p = 1) && (decide (tE f n p - tS f n p = SLN.getD w 0) && !exB (mmB f (tS f n p) w) (SLN.getD w 0))
theorem wd_len {w : Nat} (hw : w < 16) : SLN.getD w 0 ≤ 43 := (by decide +kernel : ∀ w, w < 16 → SLN.getD w 0 ≤ 43) w hw
theorem c_isWord {h : Hp} {c n p w : Nat} {f : Nat → Nat} (r : Rd h c f n p) (hw : w < 16) : F_X7_isWord h c w = some (if wdB f n p w then nI 1 else nI 0) := by
  obtain ⟨r1, r2, r3, r4, r5, r6, r7, r8⟩ := r
  have hn := r1.1
  have sb := tS_b (f := f) r2
  have eb := tE_b (f := f) r2
  have kl := tK_le (f := f) (n := n) (p := p)
  have wl := wd_len hw
  unfold F_X7_isWord wdB
  by_cases k1 : tK f n p = 1
  · rw [decide_eq_true k1, Bool.true_and]
    by_cases el : tE f n p - tS f n p = SLN.getD w 0
    · rw [decide_eq_true el, Bool.true_and]
      have L : L_X7_isWord_28 h c w (nI 0) = some (if exB (mmB f (tS f n p) w) (SLN.getD w 0) then nI 0 else nI 1) := by
        rw [← fst1_exB]
        refine iterW_fst (fun j => nI j) _ (fun _ => nI 0) (nI 1) (SLN.getD w 0) 0 (fun j _ hj => ?_) ?_
        · show B_X7_isWord_28 _ _ _ _ = _
          unfold B_X7_isWord_28
          have q := (r1.2 (tS f n p + j) (by omega)).2
          simp (disch := omega) only [↓m1_n, li_n, li_0, li_1, lt_y, lt_n, le_y, le_n, eq_n, nL, nLe, nEq, nEm, mEn, nLm, mLn, nLem, mLen, nI_add, nI_mul, nI_sub, nI_m, ib_nI, nx_nI, gd_y, bnd_e, bind_y, ↓reduceIte, hI_uI_o, hI_uI_s, hI_uI_e, hL_uI, hI_uL, hL_uL_o, hL_uL_s, hL_uL_e, and1_a, and1_b, Bool.not_true, Bool.not_false, Nat.zero_add, Nat.add_zero, Nat.add_sub_cancel, eq_self, ne_b, g0_0, g0_1, g0_2, g0_3, g0_4, g0_5, g0_6, g0_7, g0_8, g0_9, n1, n2, g3_2, g3_3, g3_4, g3_5, g3_6, g3_7, g3_8, g3_9, n4, n5, n6, n7, n8, n9, g10_2, g10_3, g10_4, g10_5, n11, n12, n13, n14, g15_2, g15_3, g15_4, g15_5, n16, n17, n18, n19, g40_0, g40_1, g40_2, g44_0, g44_2, g44_3, g44_5, g44_6, g44_10, g51_3, g51_4, g51_5, g51_6, g51_7, g57_3, g57_4, g57_5, g57_6, g57_7, n120, n121, g122_0, g122_4, g122_5, g122_6, g122_7, g122_8, g122_18, g122_19, g122_20, g122_21, g122_24, g122_25, g122_28, g122_29, g122_31, g122_32, g122_33, g122_39, g122_40, g122_41, g122_45, g122_46, g122_47, g122_48, n123, n124, n125, n126, n127, n128, n129, n130, n131, n132, n133, n134, n135, n136, n137, n138, n139, n140, n141, n142, n143, n144, n145, n146, n45, n46, n47, n48, n49, n50, decide_false, Bool.false_eq_true, r3, r4, r5, q]
          by_cases x : nI (f (tS f n p + j)) = (SBY.getD w []).getD j (nI 0)
          · rw [if_pos x, if_neg (by simp [mmB, x])]
          · rw [if_neg x, if_pos (by simp only [mmB]; exact decide_eq_true x)]
        · show B_X7_isWord_28 _ _ _ _ = _
          unfold B_X7_isWord_28
          simp (disch := omega) only [↓m1_n, li_n, li_0, li_1, lt_y, lt_n, le_y, le_n, eq_n, nL, nLe, nEq, nEm, mEn, nLm, mLn, nLem, mLen, nI_add, nI_mul, nI_sub, nI_m, ib_nI, nx_nI, gd_y, bnd_e, bind_y, ↓reduceIte, hI_uI_o, hI_uI_s, hI_uI_e, hL_uI, hI_uL, hL_uL_o, hL_uL_s, hL_uL_e, and1_a, and1_b, Bool.not_true, Bool.not_false, Nat.zero_add, Nat.add_zero, Nat.add_sub_cancel, eq_self, ne_b, g0_0, g0_1, g0_2, g0_3, g0_4, g0_5, g0_6, g0_7, g0_8, g0_9, n1, n2, g3_2, g3_3, g3_4, g3_5, g3_6, g3_7, g3_8, g3_9, n4, n5, n6, n7, n8, n9, g10_2, g10_3, g10_4, g10_5, n11, n12, n13, n14, g15_2, g15_3, g15_4, g15_5, n16, n17, n18, n19, g40_0, g40_1, g40_2, g44_0, g44_2, g44_3, g44_5, g44_6, g44_10, g51_3, g51_4, g51_5, g51_6, g51_7, g57_3, g57_4, g57_5, g57_6, g57_7, n120, n121, g122_0, g122_4, g122_5, g122_6, g122_7, g122_8, g122_18, g122_19, g122_20, g122_21, g122_24, g122_25, g122_28, g122_29, g122_31, g122_32, g122_33, g122_39, g122_40, g122_41, g122_45, g122_46, g122_47, g122_48, n123, n124, n125, n126, n127, n128, n129, n130, n131, n132, n133, n134, n135, n136, n137, n138, n139, n140, n141, n142, n143, n144, n145, n146, n45, n46, n47, n48, n49, n50, decide_false, Bool.false_eq_true]
      simp (disch := omega) only [↓m1_n, li_n, li_0, li_1, lt_y, lt_n, le_y, le_n, eq_n, nL, nLe, nEq, nEm, mEn, nLm, mLn, nLem, mLen, nI_add, nI_mul, nI_sub, nI_m, ib_nI, nx_nI, gd_y, bnd_e, bind_y, ↓reduceIte, hI_uI_o, hI_uI_s, hI_uI_e, hL_uI, hI_uL, hL_uL_o, hL_uL_s, hL_uL_e, and1_a, and1_b, Bool.not_true, Bool.not_false, Nat.zero_add, Nat.add_zero, Nat.add_sub_cancel, eq_self, ne_b, g0_0, g0_1, g0_2, g0_3, g0_4, g0_5, g0_6, g0_7, g0_8, g0_9, n1, n2, g3_2, g3_3, g3_4, g3_5, g3_6, g3_7, g3_8, g3_9, n4, n5, n6, n7, n8, n9, g10_2, g10_3, g10_4, g10_5, n11, n12, n13, n14, g15_2, g15_3, g15_4, g15_5, n16, n17, n18, n19, g40_0, g40_1, g40_2, g44_0, g44_2, g44_3, g44_5, g44_6, g44_10, g51_3, g51_4, g51_5, g51_6, g51_7, g57_3, g57_4, g57_5, g57_6, g57_7, n120, n121, g122_0, g122_4, g122_5, g122_6, g122_7, g122_8, g122_18, g122_19, g122_20, g122_21, g122_24, g122_25, g122_28, g122_29, g122_31, g122_32, g122_33, g122_39, g122_40, g122_41, g122_45, g122_46, g122_47, g122_48, n123, n124, n125, n126, n127, n128, n129, n130, n131, n132, n133, n134, n135, n136, n137, n138, n139, n140, n141, n142, n143, n144, n145, n146, n45, n46, n47, n48, n49, n50, decide_false, Bool.false_eq_true, r7, k1, r5, r6, el, L]
      cases exB (mmB f (tS f n p) w) (SLN.getD w 0) <;> rfl
    · rw [decide_eq_false el]
      simp (disch := omega) only [↓m1_n, li_n, li_0, li_1, lt_y, lt_n, le_y, le_n, eq_n, nL, nLe, nEq, nEm, mEn, nLm, mLn, nLem, mLen, nI_add, nI_mul, nI_sub, nI_m, ib_nI, nx_nI, gd_y, bnd_e, bind_y, ↓reduceIte, hI_uI_o, hI_uI_s, hI_uI_e, hL_uI, hI_uL, hL_uL_o, hL_uL_s, hL_uL_e, and1_a, and1_b, Bool.not_true, Bool.not_false, Nat.zero_add, Nat.add_zero, Nat.add_sub_cancel, eq_self, ne_b, g0_0, g0_1, g0_2, g0_3, g0_4, g0_5, g0_6, g0_7, g0_8, g0_9, n1, n2, g3_2, g3_3, g3_4, g3_5, g3_6, g3_7, g3_8, g3_9, n4, n5, n6, n7, n8, n9, g10_2, g10_3, g10_4, g10_5, n11, n12, n13, n14, g15_2, g15_3, g15_4, g15_5, n16, n17, n18, n19, g40_0, g40_1, g40_2, g44_0, g44_2, g44_3, g44_5, g44_6, g44_10, g51_3, g51_4, g51_5, g51_6, g51_7, g57_3, g57_4, g57_5, g57_6, g57_7, n120, n121, g122_0, g122_4, g122_5, g122_6, g122_7, g122_8, g122_18, g122_19, g122_20, g122_21, g122_24, g122_25, g122_28, g122_29, g122_31, g122_32, g122_33, g122_39, g122_40, g122_41, g122_45, g122_46, g122_47, g122_48, n123, n124, n125, n126, n127, n128, n129, n130, n131, n132, n133, n134, n135, n136, n137, n138, n139, n140, n141, n142, n143, n144, n145, n146, n45, n46, n47, n48, n49, n50, decide_false, Bool.false_eq_true, r7, k1, r5, r6, el, Bool.false_and]
  · rw [decide_eq_false k1]
    simp (disch := omega) only [↓m1_n, li_n, li_0, li_1, lt_y, lt_n, le_y, le_n, eq_n, nL, nLe, nEq, nEm, mEn, nLm, mLn, nLem, mLen, nI_add, nI_mul, nI_sub, nI_m, ib_nI, nx_nI, gd_y, bnd_e, bind_y, ↓reduceIte, hI_uI_o, hI_uI_s, hI_uI_e, hL_uI, hI_uL, hL_uL_o, hL_uL_s, hL_uL_e, and1_a, and1_b, Bool.not_true, Bool.not_false, Nat.zero_add, Nat.add_zero, Nat.add_sub_cancel, eq_self, ne_b, g0_0, g0_1, g0_2, g0_3, g0_4, g0_5, g0_6, g0_7, g0_8, g0_9, n1, n2, g3_2, g3_3, g3_4, g3_5, g3_6, g3_7, g3_8, g3_9, n4, n5, n6, n7, n8, n9, g10_2, g10_3, g10_4, g10_5, n11, n12, n13, n14, g15_2, g15_3, g15_4, g15_5, n16, n17, n18, n19, g40_0, g40_1, g40_2, g44_0, g44_2, g44_3, g44_5, g44_6, g44_10, g51_3, g51_4, g51_5, g51_6, g51_7, g57_3, g57_4, g57_5, g57_6, g57_7, n120, n121, g122_0, g122_4, g122_5, g122_6, g122_7, g122_8, g122_18, g122_19, g122_20, g122_21, g122_24, g122_25, g122_28, g122_29, g122_31, g122_32, g122_33, g122_39, g122_40, g122_41, g122_45, g122_46, g122_47, g122_48, n123, n124, n125, n126, n127, n128, n129, n130, n131, n132, n133, n134, n135, n136, n137, n138, n139, n140, n141, n142, n143, n144, n145, n146, n45, n46, n47, n48, n49, n50, decide_false, Bool.false_eq_true, r7, k1, Bool.false_and]
/-- entry of a list of words: from k to e stands the word w -/
def enW (W k e w : Nat) : Prop := k < e ∧ e < SLN.getD W 0 ∧ e - k = SLN.getD w 0 ∧ (SBY.getD W []).getD e (nI 0) = nI 32 ∧ ∀ j, j < 10 → j < e - k → (SBY.getD W []).getD (k + j) (nI 0) = (SBY.getD w []).getD j (nI 0) ∧ (SBY.getD W []).getD (k + j) (nI 0) ≠ nI 32
theorem mk_1 {k : Nat} (hk : k ≤ 4) : (mkT k = 2 ↔ k = 1) ∧ (mkT k = 3 ↔ k = 2) ∧ (mkT k = 4 ↔ k = 3) ∧ (mkT k = 1 ↔ k = 4) ∧ (mkT k = 0 ↔ k = 0) ∧ mkT k ≤ 4 := (by decide : ∀ k, k ≤ 4 → (mkT k = 2 ↔ k = 1) ∧ (mkT k = 3 ↔ k = 2) ∧ (mkT k = 4 ↔ k = 3) ∧ (mkT k = 1 ↔ k = 4) ∧ (mkT k = 0 ↔ k = 0) ∧ mkT k ≤ 4) k hk
theorem m_w {h : Hp} {n p W k e w i : Nat} {f : Nat → Nat} (r : RdM h f n p) (k1 : tK f n p = 1) (en : enW W k e w) (hW : W < 16) (hi : i < 100) (h10 : e - k ≤ 10) : iterW (fun s : Int32 × Int32 => B_X12_inWords_14 h 122 W s.1 s.2) (nI i, nI k) = if wdB f n p w then some (nI i) else iterW (fun s : Int32 × Int32 => B_X12_inWords_14 h 122 W s.1 s.2) (nI (i + 1), nI (e + 1)) := by
  obtain ⟨r1, r2, r3, r4, r5, r6⟩ := r
  obtain ⟨zz1, zz2, zz3, zz4, zz5⟩ := en
  have hn := r1.1
  have sb := tS_b (f := f) r2
  have eb := tE_b (f := f) r2
  have wl := wd_len hW
  have L25 : ∀ x2, L_X12_inWords_25 h 122 W x2 (nI k) (nI k) = some (nI e) := by
    intro x2
    have st := iterW_for (f := fun s => B_X12_inWords_25 h 122 W x2 (nI k) s) (fun j => nI (k + j)) (e - k) (r := nI e) (fun j hj => by
      unfold B_X12_inWords_25
      have q := (zz5 j (by omega) hj).2
      simp (disch := omega) only [↓m1_n, li_n, li_0, li_1, lt_y, lt_n, le_y, le_n, eq_n, nL, nLe, nEq, nEm, mEn, nLm, mLn, nLem, mLen, nI_add, nI_mul, nI_sub, nI_m, ib_nI, nx_nI, gd_y, bnd_e, bind_y, ↓reduceIte, hI_uI_o, hI_uI_s, hI_uI_e, hL_uI, hI_uL, hL_uL_o, hL_uL_s, hL_uL_e, and1_a, and1_b, Bool.not_true, Bool.not_false, Nat.zero_add, Nat.add_zero, Nat.add_sub_cancel, eq_self, ne_b, g0_0, g0_1, g0_2, g0_3, g0_4, g0_5, g0_6, g0_7, g0_8, g0_9, n1, n2, g3_2, g3_3, g3_4, g3_5, g3_6, g3_7, g3_8, g3_9, n4, n5, n6, n7, n8, n9, g10_2, g10_3, g10_4, g10_5, n11, n12, n13, n14, g15_2, g15_3, g15_4, g15_5, n16, n17, n18, n19, g40_0, g40_1, g40_2, g44_0, g44_2, g44_3, g44_5, g44_6, g44_10, g51_3, g51_4, g51_5, g51_6, g51_7, g57_3, g57_4, g57_5, g57_6, g57_7, n120, n121, g122_0, g122_4, g122_5, g122_6, g122_7, g122_8, g122_18, g122_19, g122_20, g122_21, g122_24, g122_25, g122_28, g122_29, g122_31, g122_32, g122_33, g122_39, g122_40, g122_41, g122_45, g122_46, g122_47, g122_48, n123, n124, n125, n126, n127, n128, n129, n130, n131, n132, n133, n134, n135, n136, n137, n138, n139, n140, n141, n142, n143, n144, n145, n146, n45, n46, n47, n48, n49, n50, decide_false, Bool.false_eq_true]
      rw [if_neg q, Nat.add_assoc]) (by
      unfold B_X12_inWords_25
      rw [show k + (e - k) = e by omega]
      simp (disch := omega) only [↓m1_n, li_n, li_0, li_1, lt_y, lt_n, le_y, le_n, eq_n, nL, nLe, nEq, nEm, mEn, nLm, mLn, nLem, mLen, nI_add, nI_mul, nI_sub, nI_m, ib_nI, nx_nI, gd_y, bnd_e, bind_y, ↓reduceIte, hI_uI_o, hI_uI_s, hI_uI_e, hL_uI, hI_uL, hL_uL_o, hL_uL_s, hL_uL_e, and1_a, and1_b, Bool.not_true, Bool.not_false, Nat.zero_add, Nat.add_zero, Nat.add_sub_cancel, eq_self, ne_b, g0_0, g0_1, g0_2, g0_3, g0_4, g0_5, g0_6, g0_7, g0_8, g0_9, n1, n2, g3_2, g3_3, g3_4, g3_5, g3_6, g3_7, g3_8, g3_9, n4, n5, n6, n7, n8, n9, g10_2, g10_3, g10_4, g10_5, n11, n12, n13, n14, g15_2, g15_3, g15_4, g15_5, n16, n17, n18, n19, g40_0, g40_1, g40_2, g44_0, g44_2, g44_3, g44_5, g44_6, g44_10, g51_3, g51_4, g51_5, g51_6, g51_7, g57_3, g57_4, g57_5, g57_6, g57_7, n120, n121, g122_0, g122_4, g122_5, g122_6, g122_7, g122_8, g122_18, g122_19, g122_20, g122_21, g122_24, g122_25, g122_28, g122_29, g122_31, g122_32, g122_33, g122_39, g122_40, g122_41, g122_45, g122_46, g122_47, g122_48, n123, n124, n125, n126, n127, n128, n129, n130, n131, n132, n133, n134, n135, n136, n137, n138, n139, n140, n141, n142, n143, n144, n145, n146, n45, n46, n47, n48, n49, n50, decide_false, Bool.false_eq_true, zz4])
    exact st
  have w1 : wdB f n p w = (decide (tE f n p - tS f n p = SLN.getD w 0) && !exB (mmB f (tS f n p) w) (SLN.getD w 0)) := by unfold wdB; rw [decide_eq_true k1, Bool.true_and]
  have B0 : B_X12_inWords_14 h 122 W (nI i) (nI k) = if wdB f n p w then some (.inr (nI i)) else some (.inl (nI (i + 1), nI (e + 1))) := by
    unfold B_X12_inWords_14
    rw [w1]
    by_cases el : tE f n p - tS f n p = SLN.getD w 0
    · rw [decide_eq_true el, Bool.true_and]
      have L68 : L_X12_inWords_68 h 122 W (nI i) (nI k) (nI e) (nI 1) (nI k) = some (if exB (mmB f (tS f n p) w) (SLN.getD w 0) then nI 0 else nI 1) := by
        rw [← fst1_exB]
        have st := iterW_fst2 (f := fun s : Int32 × Int32 => B_X12_inWords_68 h 122 W (nI i) (nI k) (nI e) s.1 s.2) (fun j => (nI 1, nI (k + j))) (fun j => (nI 0, nI (k + j + 1))) (mmB f (tS f n p) w) (fun _ => nI 0) (nI 1) (SLN.getD w 0) 0 (fun j _ hj => by
          show B_X12_inWords_68 _ _ _ _ _ _ _ _ = _
          unfold B_X12_inWords_68
          have q := (zz5 j (by omega) (by omega)).1
          have b := m_byte (k := tS f n p + (k + j) - k) r1 (by omega)
          rw [if_pos (by omega)] at b
          have b' : tS f n p + (k + j) - k = tS f n p + j := by omega
          simp (disch := omega) only [↓m1_n, li_n, li_0, li_1, lt_y, lt_n, le_y, le_n, eq_n, nL, nLe, nEq, nEm, mEn, nLm, mLn, nLem, mLen, nI_add, nI_mul, nI_sub, nI_m, ib_nI, nx_nI, gd_y, bnd_e, bind_y, ↓reduceIte, hI_uI_o, hI_uI_s, hI_uI_e, hL_uI, hI_uL, hL_uL_o, hL_uL_s, hL_uL_e, and1_a, and1_b, Bool.not_true, Bool.not_false, Nat.zero_add, Nat.add_zero, Nat.add_sub_cancel, eq_self, ne_b, g0_0, g0_1, g0_2, g0_3, g0_4, g0_5, g0_6, g0_7, g0_8, g0_9, n1, n2, g3_2, g3_3, g3_4, g3_5, g3_6, g3_7, g3_8, g3_9, n4, n5, n6, n7, n8, n9, g10_2, g10_3, g10_4, g10_5, n11, n12, n13, n14, g15_2, g15_3, g15_4, g15_5, n16, n17, n18, n19, g40_0, g40_1, g40_2, g44_0, g44_2, g44_3, g44_5, g44_6, g44_10, g51_3, g51_4, g51_5, g51_6, g51_7, g57_3, g57_4, g57_5, g57_6, g57_7, n120, n121, g122_0, g122_4, g122_5, g122_6, g122_7, g122_8, g122_18, g122_19, g122_20, g122_21, g122_24, g122_25, g122_28, g122_29, g122_31, g122_32, g122_33, g122_39, g122_40, g122_41, g122_45, g122_46, g122_47, g122_48, n123, n124, n125, n126, n127, n128, n129, n130, n131, n132, n133, n134, n135, n136, n137, n138, n139, n140, n141, n142, n143, n144, n145, n146, n45, n46, n47, n48, n49, n50, decide_false, Bool.false_eq_true, r4, b, q]
          rw [b']
          by_cases x : nI (f (tS f n p + j)) = (SBY.getD w []).getD j (nI 0)
          · rw [if_pos x.symm, if_neg (by simp [mmB, x]), Nat.add_assoc]
          · rw [if_neg (fun y => x y.symm), if_pos (by simp only [mmB]; exact decide_eq_true x)]) (fun j _ hj => iterW_end (by
          show B_X12_inWords_68 _ _ _ _ _ _ _ _ = _
          unfold B_X12_inWords_68
          by_cases y : e ≤ k + j + 1
          · simp (disch := omega) only [↓m1_n, li_n, li_0, li_1, lt_y, lt_n, le_y, le_n, eq_n, nL, nLe, nEq, nEm, mEn, nLm, mLn, nLem, mLen, nI_add, nI_mul, nI_sub, nI_m, ib_nI, nx_nI, gd_y, bnd_e, bind_y, ↓reduceIte, hI_uI_o, hI_uI_s, hI_uI_e, hL_uI, hI_uL, hL_uL_o, hL_uL_s, hL_uL_e, and1_a, and1_b, Bool.not_true, Bool.not_false, Nat.zero_add, Nat.add_zero, Nat.add_sub_cancel, eq_self, ne_b, g0_0, g0_1, g0_2, g0_3, g0_4, g0_5, g0_6, g0_7, g0_8, g0_9, n1, n2, g3_2, g3_3, g3_4, g3_5, g3_6, g3_7, g3_8, g3_9, n4, n5, n6, n7, n8, n9, g10_2, g10_3, g10_4, g10_5, n11, n12, n13, n14, g15_2, g15_3, g15_4, g15_5, n16, n17, n18, n19, g40_0, g40_1, g40_2, g44_0, g44_2, g44_3, g44_5, g44_6, g44_10, g51_3, g51_4, g51_5, g51_6, g51_7, g57_3, g57_4, g57_5, g57_6, g57_7, n120, n121, g122_0, g122_4, g122_5, g122_6, g122_7, g122_8, g122_18, g122_19, g122_20, g122_21, g122_24, g122_25, g122_28, g122_29, g122_31, g122_32, g122_33, g122_39, g122_40, g122_41, g122_45, g122_46, g122_47, g122_48, n123, n124, n125, n126, n127, n128, n129, n130, n131, n132, n133, n134, n135, n136, n137, n138, n139, n140, n141, n142, n143, n144, n145, n146, n45, n46, n47, n48, n49, n50, decide_false, Bool.false_eq_true, y]
          · simp (disch := omega) only [↓m1_n, li_n, li_0, li_1, lt_y, lt_n, le_y, le_n, eq_n, nL, nLe, nEq, nEm, mEn, nLm, mLn, nLem, mLen, nI_add, nI_mul, nI_sub, nI_m, ib_nI, nx_nI, gd_y, bnd_e, bind_y, ↓reduceIte, hI_uI_o, hI_uI_s, hI_uI_e, hL_uI, hI_uL, hL_uL_o, hL_uL_s, hL_uL_e, and1_a, and1_b, Bool.not_true, Bool.not_false, Nat.zero_add, Nat.add_zero, Nat.add_sub_cancel, eq_self, ne_b, g0_0, g0_1, g0_2, g0_3, g0_4, g0_5, g0_6, g0_7, g0_8, g0_9, n1, n2, g3_2, g3_3, g3_4, g3_5, g3_6, g3_7, g3_8, g3_9, n4, n5, n6, n7, n8, n9, g10_2, g10_3, g10_4, g10_5, n11, n12, n13, n14, g15_2, g15_3, g15_4, g15_5, n16, n17, n18, n19, g40_0, g40_1, g40_2, g44_0, g44_2, g44_3, g44_5, g44_6, g44_10, g51_3, g51_4, g51_5, g51_6, g51_7, g57_3, g57_4, g57_5, g57_6, g57_7, n120, n121, g122_0, g122_4, g122_5, g122_6, g122_7, g122_8, g122_18, g122_19, g122_20, g122_21, g122_24, g122_25, g122_28, g122_29, g122_31, g122_32, g122_33, g122_39, g122_40, g122_41, g122_45, g122_46, g122_47, g122_48, n123, n124, n125, n126, n127, n128, n129, n130, n131, n132, n133, n134, n135, n136, n137, n138, n139, n140, n141, n142, n143, n144, n145, n146, n45, n46, n47, n48, n49, n50, decide_false, Bool.false_eq_true, y])) (by
          show B_X12_inWords_68 _ _ _ _ _ _ _ _ = _
          unfold B_X12_inWords_68
          simp (disch := omega) only [↓m1_n, li_n, li_0, li_1, lt_y, lt_n, le_y, le_n, eq_n, nL, nLe, nEq, nEm, mEn, nLm, mLn, nLem, mLen, nI_add, nI_mul, nI_sub, nI_m, ib_nI, nx_nI, gd_y, bnd_e, bind_y, ↓reduceIte, hI_uI_o, hI_uI_s, hI_uI_e, hL_uI, hI_uL, hL_uL_o, hL_uL_s, hL_uL_e, and1_a, and1_b, Bool.not_true, Bool.not_false, Nat.zero_add, Nat.add_zero, Nat.add_sub_cancel, eq_self, ne_b, g0_0, g0_1, g0_2, g0_3, g0_4, g0_5, g0_6, g0_7, g0_8, g0_9, n1, n2, g3_2, g3_3, g3_4, g3_5, g3_6, g3_7, g3_8, g3_9, n4, n5, n6, n7, n8, n9, g10_2, g10_3, g10_4, g10_5, n11, n12, n13, n14, g15_2, g15_3, g15_4, g15_5, n16, n17, n18, n19, g40_0, g40_1, g40_2, g44_0, g44_2, g44_3, g44_5, g44_6, g44_10, g51_3, g51_4, g51_5, g51_6, g51_7, g57_3, g57_4, g57_5, g57_6, g57_7, n120, n121, g122_0, g122_4, g122_5, g122_6, g122_7, g122_8, g122_18, g122_19, g122_20, g122_21, g122_24, g122_25, g122_28, g122_29, g122_31, g122_32, g122_33, g122_39, g122_40, g122_41, g122_45, g122_46, g122_47, g122_48, n123, n124, n125, n126, n127, n128, n129, n130, n131, n132, n133, n134, n135, n136, n137, n138, n139, n140, n141, n142, n143, n144, n145, n146, n45, n46, n47, n48, n49, n50, decide_false, Bool.false_eq_true])
        exact st
      simp (disch := omega) only [↓m1_n, li_n, li_0, li_1, lt_y, lt_n, le_y, le_n, eq_n, nL, nLe, nEq, nEm, mEn, nLm, mLn, nLem, mLen, nI_add, nI_mul, nI_sub, nI_m, ib_nI, nx_nI, gd_y, bnd_e, bind_y, ↓reduceIte, hI_uI_o, hI_uI_s, hI_uI_e, hL_uI, hI_uL, hL_uL_o, hL_uL_s, hL_uL_e, and1_a, and1_b, Bool.not_true, Bool.not_false, Nat.zero_add, Nat.add_zero, Nat.add_sub_cancel, eq_self, ne_b, g0_0, g0_1, g0_2, g0_3, g0_4, g0_5, g0_6, g0_7, g0_8, g0_9, n1, n2, g3_2, g3_3, g3_4, g3_5, g3_6, g3_7, g3_8, g3_9, n4, n5, n6, n7, n8, n9, g10_2, g10_3, g10_4, g10_5, n11, n12, n13, n14, g15_2, g15_3, g15_4, g15_5, n16, n17, n18, n19, g40_0, g40_1, g40_2, g44_0, g44_2, g44_3, g44_5, g44_6, g44_10, g51_3, g51_4, g51_5, g51_6, g51_7, g57_3, g57_4, g57_5, g57_6, g57_7, n120, n121, g122_0, g122_4, g122_5, g122_6, g122_7, g122_8, g122_18, g122_19, g122_20, g122_21, g122_24, g122_25, g122_28, g122_29, g122_31, g122_32, g122_33, g122_39, g122_40, g122_41, g122_45, g122_46, g122_47, g122_48, n123, n124, n125, n126, n127, n128, n129, n130, n131, n132, n133, n134, n135, n136, n137, n138, n139, n140, n141, n142, n143, n144, n145, n146, n45, n46, n47, n48, n49, n50, decide_false, Bool.false_eq_true, L25, r4, r5, L68, el, zz3]
      cases exB (mmB f (tS f n p) w) (SLN.getD w 0) <;> simp (disch := omega) only [↓m1_n, li_n, li_0, li_1, lt_y, lt_n, le_y, le_n, eq_n, nL, nLe, nEq, nEm, mEn, nLm, mLn, nLem, mLen, nI_add, nI_mul, nI_sub, nI_m, ib_nI, nx_nI, gd_y, bnd_e, bind_y, ↓reduceIte, hI_uI_o, hI_uI_s, hI_uI_e, hL_uI, hI_uL, hL_uL_o, hL_uL_s, hL_uL_e, and1_a, and1_b, Bool.not_true, Bool.not_false, Nat.zero_add, Nat.add_zero, Nat.add_sub_cancel, eq_self, ne_b, g0_0, g0_1, g0_2, g0_3, g0_4, g0_5, g0_6, g0_7, g0_8, g0_9, n1, n2, g3_2, g3_3, g3_4, g3_5, g3_6, g3_7, g3_8, g3_9, n4, n5, n6, n7, n8, n9, g10_2, g10_3, g10_4, g10_5, n11, n12, n13, n14, g15_2, g15_3, g15_4, g15_5, n16, n17, n18, n19, g40_0, g40_1, g40_2, g44_0, g44_2, g44_3, g44_5, g44_6, g44_10, g51_3, g51_4, g51_5, g51_6, g51_7, g57_3, g57_4, g57_5, g57_6, g57_7, n120, n121, g122_0, g122_4, g122_5, g122_6, g122_7, g122_8, g122_18, g122_19, g122_20, g122_21, g122_24, g122_25, g122_28, g122_29, g122_31, g122_32, g122_33, g122_39, g122_40, g122_41, g122_45, g122_46, g122_47, g122_48, n123, n124, n125, n126, n127, n128, n129, n130, n131, n132, n133, n134, n135, n136, n137, n138, n139, n140, n141, n142, n143, n144, n145, n146, n45, n46, n47, n48, n49, n50, decide_false, Bool.false_eq_true, Bool.not_true, Bool.not_false]
    · rw [decide_eq_false el]
      have L68 : L_X12_inWords_68 h 122 W (nI i) (nI k) (nI e) (nI 0) (nI k) = some (nI 0) := by
        refine iterW_end ?_
        show B_X12_inWords_68 _ _ _ _ _ _ _ _ = _
        unfold B_X12_inWords_68
        simp (disch := omega) only [↓m1_n, li_n, li_0, li_1, lt_y, lt_n, le_y, le_n, eq_n, nL, nLe, nEq, nEm, mEn, nLm, mLn, nLem, mLen, nI_add, nI_mul, nI_sub, nI_m, ib_nI, nx_nI, gd_y, bnd_e, bind_y, ↓reduceIte, hI_uI_o, hI_uI_s, hI_uI_e, hL_uI, hI_uL, hL_uL_o, hL_uL_s, hL_uL_e, and1_a, and1_b, Bool.not_true, Bool.not_false, Nat.zero_add, Nat.add_zero, Nat.add_sub_cancel, eq_self, ne_b, g0_0, g0_1, g0_2, g0_3, g0_4, g0_5, g0_6, g0_7, g0_8, g0_9, n1, n2, g3_2, g3_3, g3_4, g3_5, g3_6, g3_7, g3_8, g3_9, n4, n5, n6, n7, n8, n9, g10_2, g10_3, g10_4, g10_5, n11, n12, n13, n14, g15_2, g15_3, g15_4, g15_5, n16, n17, n18, n19, g40_0, g40_1, g40_2, g44_0, g44_2, g44_3, g44_5, g44_6, g44_10, g51_3, g51_4, g51_5, g51_6, g51_7, g57_3, g57_4, g57_5, g57_6, g57_7, n120, n121, g122_0, g122_4, g122_5, g122_6, g122_7, g122_8, g122_18, g122_19, g122_20, g122_21, g122_24, g122_25, g122_28, g122_29, g122_31, g122_32, g122_33, g122_39, g122_40, g122_41, g122_45, g122_46, g122_47, g122_48, n123, n124, n125, n126, n127, n128, n129, n130, n131, n132, n133, n134, n135, n136, n137, n138, n139, n140, n141, n142, n143, n144, n145, n146, n45, n46, n47, n48, n49, n50, decide_false, Bool.false_eq_true]
      simp (disch := omega) only [↓m1_n, li_n, li_0, li_1, lt_y, lt_n, le_y, le_n, eq_n, nL, nLe, nEq, nEm, mEn, nLm, mLn, nLem, mLen, nI_add, nI_mul, nI_sub, nI_m, ib_nI, nx_nI, gd_y, bnd_e, bind_y, ↓reduceIte, hI_uI_o, hI_uI_s, hI_uI_e, hL_uI, hI_uL, hL_uL_o, hL_uL_s, hL_uL_e, and1_a, and1_b, Bool.not_true, Bool.not_false, Nat.zero_add, Nat.add_zero, Nat.add_sub_cancel, eq_self, ne_b, g0_0, g0_1, g0_2, g0_3, g0_4, g0_5, g0_6, g0_7, g0_8, g0_9, n1, n2, g3_2, g3_3, g3_4, g3_5, g3_6, g3_7, g3_8, g3_9, n4, n5, n6, n7, n8, n9, g10_2, g10_3, g10_4, g10_5, n11, n12, n13, n14, g15_2, g15_3, g15_4, g15_5, n16, n17, n18, n19, g40_0, g40_1, g40_2, g44_0, g44_2, g44_3, g44_5, g44_6, g44_10, g51_3, g51_4, g51_5, g51_6, g51_7, g57_3, g57_4, g57_5, g57_6, g57_7, n120, n121, g122_0, g122_4, g122_5, g122_6, g122_7, g122_8, g122_18, g122_19, g122_20, g122_21, g122_24, g122_25, g122_28, g122_29, g122_31, g122_32, g122_33, g122_39, g122_40, g122_41, g122_45, g122_46, g122_47, g122_48, n123, n124, n125, n126, n127, n128, n129, n130, n131, n132, n133, n134, n135, n136, n137, n138, n139, n140, n141, n142, n143, n144, n145, n146, n45, n46, n47, n48, n49, n50, decide_false, Bool.false_eq_true, L25, r4, r5, L68, fun y => el (Eq.symm y), zz3, Bool.false_and]
  cases x : wdB f n p w with
  | true =>
    rw [x, if_pos rfl] at B0
    rw [if_pos rfl]
    exact iterW_end B0
  | false =>
    rw [x, if_neg Bool.false_ne_true] at B0
    rw [if_neg Bool.false_ne_true]
    exact iterW_go B0
def bkW (f : Nat → Nat) (n p : Nat) : Int32 := if wdB f n p 0 then nI 0 else if wdB f n p 2 then nI 1 else if wdB f n p 4 then nI 2 else if wdB f n p 1 then nI 3 else if wdB f n p 3 then nI 4 else mN
def rnW (f : Nat → Nat) (n p : Nat) : Int32 := if wdB f n p 6 then nI 0 else if wdB f n p 7 then nI 1 else if wdB f n p 8 then nI 2 else if wdB f n p 9 then nI 3 else if wdB f n p 10 then nI 4 else if wdB f n p 11 then nI 5 else if wdB f n p 12 then nI 6 else if wdB f n p 5 then nI 7 else if wdB f n p 13 then nI 8 else mN
theorem wd_no {f : Nat → Nat} {n p w : Nat} (h : tK f n p ≠ 1) : wdB f n p w = false := by unfold wdB; rw [decide_eq_false h, Bool.false_and]
theorem wd_k {f : Nat → Nat} {n p w : Nat} (h : wdB f n p w = true) : tK f n p = 1 := by
  by_cases c : tK f n p = 1
  · exact c
  · rw [wd_no c] at h
    exact absurd h (by decide)
theorem ite_some {α : Type} {b : Bool} {x y : α} : (if b then some x else some y) = some (if b then x else y) := by cases b <;> rfl
theorem m_bkW {h : Hp} {n p : Nat} {f : Nat → Nat} (r : RdM h f n p) : F_X12_inWords h 122 14 = some (bkW f n p) := by
  unfold F_X12_inWords
  have m := mk_1 (tK_le (f := f) (n := n) (p := p))
  by_cases k1 : tK f n p = 1
  · rw [r.2.2.1, m.1.mpr k1, if_pos (show nI 2 = 2 from rfl)]
    show iterW (fun s : Int32 × Int32 => B_X12_inWords_14 h 122 14 s.1 s.2) (nI 0, nI 1) = _
    rw [m_w r k1 (show enW 14 1 5 0 from by unfold enW; decide +kernel) (by decide) (by decide) (by decide), m_w r k1 (show enW 14 6 10 2 from by unfold enW; decide +kernel) (by decide) (by decide) (by decide), m_w r k1 (show enW 14 11 15 4 from by unfold enW; decide +kernel) (by decide) (by decide) (by decide), m_w r k1 (show enW 14 16 20 1 from by unfold enW; decide +kernel) (by decide) (by decide) (by decide), m_w r k1 (show enW 14 21 26 3 from by unfold enW; decide +kernel) (by decide) (by decide) (by decide)]
    have z : iterW (fun s : Int32 × Int32 => B_X12_inWords_14 h 122 14 s.1 s.2) (nI 5, nI 27) = some mN := iterW_end (by
      show B_X12_inWords_14 _ _ _ _ _ = _
      unfold B_X12_inWords_14
      rw [if_pos (show nI (SLN.getD 14 0) ≤ nI 27 by decide +kernel)]
      rfl)
    rw [z, ite_some, ite_some, ite_some, ite_some, ite_some]
    rfl
  · rw [r.2.2.1, if_neg (show ¬ nI (mkT (tK f n p)) = 2 from fun e => k1 (m.1.mp ((nI_eq (by omega) (by decide)).mp e)))]
    unfold bkW
    rw [wd_no k1, wd_no k1, wd_no k1, wd_no k1, wd_no k1]
    rfl
theorem m_rnW {h : Hp} {n p : Nat} {f : Nat → Nat} (r : RdM h f n p) : F_X12_inWords h 122 15 = some (rnW f n p) := by
  unfold F_X12_inWords
  have m := mk_1 (tK_le (f := f) (n := n) (p := p))
  by_cases k1 : tK f n p = 1
  · rw [r.2.2.1, m.1.mpr k1, if_pos (show nI 2 = 2 from rfl)]
    show iterW (fun s : Int32 × Int32 => B_X12_inWords_14 h 122 15 s.1 s.2) (nI 0, nI 1) = _
    rw [m_w r k1 (show enW 15 1 5 6 from by unfold enW; decide +kernel) (by decide) (by decide) (by decide), m_w r k1 (show enW 15 6 9 7 from by unfold enW; decide +kernel) (by decide) (by decide) (by decide), m_w r k1 (show enW 15 10 13 8 from by unfold enW; decide +kernel) (by decide) (by decide) (by decide), m_w r k1 (show enW 15 14 18 9 from by unfold enW; decide +kernel) (by decide) (by decide) (by decide), m_w r k1 (show enW 15 19 22 10 from by unfold enW; decide +kernel) (by decide) (by decide) (by decide), m_w r k1 (show enW 15 23 27 11 from by unfold enW; decide +kernel) (by decide) (by decide) (by decide), m_w r k1 (show enW 15 28 32 12 from by unfold enW; decide +kernel) (by decide) (by decide) (by decide), m_w r k1 (show enW 15 33 36 5 from by unfold enW; decide +kernel) (by decide) (by decide) (by decide), m_w r k1 (show enW 15 37 42 13 from by unfold enW; decide +kernel) (by decide) (by decide) (by decide)]
    have z : iterW (fun s : Int32 × Int32 => B_X12_inWords_14 h 122 15 s.1 s.2) (nI 9, nI 43) = some mN := iterW_end (by
      show B_X12_inWords_14 _ _ _ _ _ = _
      unfold B_X12_inWords_14
      rw [if_pos (show nI (SLN.getD 15 0) ≤ nI 43 by decide +kernel)]
      rfl)
    rw [z, ite_some, ite_some, ite_some, ite_some, ite_some, ite_some, ite_some, ite_some, ite_some]
    rfl
  · rw [r.2.2.1, if_neg (show ¬ nI (mkT (tK f n p)) = 2 from fun e => k1 (m.1.mp ((nI_eq (by omega) (by decide)).mp e)))]
    unfold rnW
    rw [wd_no k1, wd_no k1, wd_no k1, wd_no k1, wd_no k1, wd_no k1, wd_no k1, wd_no k1, wd_no k1]
    rfl
