/-! ===== a run of the component ===== -/
/-- cells that a run of the component may change -/
def FrG (h h' : Hp) : Prop := (∀ d, d ≠ 3 → d ≠ 8 → d ≠ 9 → d ≠ 40 → d ≠ 41 → d ≠ 42 → d ≠ 43 → hI h' d = hI h d) ∧ (∀ d, d ≠ 40 → hL h' d = hL h d) ∧ hI h' 40 3 = hI h 40 3
theorem FrG.rf {h : Hp} : FrG h h := ⟨fun _ _ _ _ _ _ _ _ => rfl, fun _ _ => rfl, rfl⟩
theorem FrG.trans {a b c : Hp} (x : FrG a b) (y : FrG b c) : FrG a c := ⟨fun d p q r s t u v => (y.1 d p q r s t u v).trans (x.1 d p q r s t u v), fun d p => (y.2.1 d p).trans (x.2.1 d p), y.2.2.trans x.2.2⟩
def CR (h : Hp) (S : St) : Prop := RcH h 3 (tA S) ∧ hL h 40 4 = tR S ∧ hI h 40 5 = tH S ∧ hI h 40 6 = nI 0 ∧ hI h 40 7 = nI (tD S) ∧ ∀ o, encl S o → hI h 43 o = nI (tL S o)
theorem cS0 {h : Hp} {A : Ho} (rc : RcH h 3 A) : hI h 15 1 = nI (sN (oS A)) := rc.2.2.1
theorem cSk {h : Hp} {A : Ho} (rc : RcH h 3 A) {k : Nat} (hk : k < sN (oS A)) : hI h 16 k = nI (sK (oS A) k) := (rc.2.2.2 k hk).1
theorem cSa {h : Hp} {A : Ho} (rc : RcH h 3 A) {k : Nat} (hk : k < sN (oS A)) (h7 : sK (oS A) k ≠ 7) : hI h 17 k = nI (sA (oS A) k) := ((rc.2.2.2 k hk).2.1 h7).1
theorem cSb {h : Hp} {A : Ho} (rc : RcH h 3 A) {k : Nat} (hk : k < sN (oS A)) (h7 : sK (oS A) k ≠ 7) : hI h 18 k = nI (sB (oS A) k) := ((rc.2.2.2 k hk).2.1 h7).2
theorem cSm {h : Hp} {A : Ho} (rc : RcH h 3 A) {k : Nat} (hk : k < sN (oS A)) (h5 : 5 ≤ sK (oS A) k) : hI h 19 k = nI (sM (oS A) k) := (rc.2.2.2 k hk).2.2 h5
theorem RcH_o {h h' : Hp} {A : Ho} (e : ∀ d, d ≠ 40 → d ≠ 41 → d ≠ 42 → d ≠ 43 → hI h' d = hI h d) (r : RcH h 3 A) : RcH h' 3 A := RcH_congr (fun d a b => e d (by omega) (by omega) (by omega) (by omega)) r
theorem RcH_dk {h h' : Hp} {A : Ho} {D : Nat → Nat} (r : RcH h 3 A) (e : ∀ d, d ≠ 9 → d ≠ 41 → hI h' d = hI h d) (eD : ∀ k, k < oN A → hI h' 9 k = nI (D k)) : RcH h' 3 (dkA A D) := RcH_wdm r (by rw [e 3 (by decide) (by decide)]) (by rw [e 3 (by decide) (by decide)]; exact r.1.2.1) (fun i hi => by rw [e 8 (by decide) (by decide)]; exact cWe r hi) eD (fun d hd => e d (by omega) (by omega))
/-- an end -/
theorem c_end {h : Hp} {q : Nat} {S : St} {i : Nat} (g : gdS q S) (cr : CR h S) (hp : tP S < sN (oS (tA S))) (e7 : sK (oS (tA S)) (tP S) = 7) (hi : i < 99999) : ∃ h', B_X3_doSteps_35 h 40 3 15 (nI (tP S)) (nI i) = some (.inl (h', nI (tP (trS S)), nI (i + 1))) ∧ CR h' (trS S) ∧ FrG h h' := by
  obtain ⟨rc, r1, r2, r3, r4, r5⟩ := cr
  obtain ⟨g1, g2, g3, g4⟩ := id g
  have sp := g1.2.2.2.2
  have h80 := sp.1
  obtain ⟨m1, m2, m3⟩ := (sp.k hp).2.2.2.2.2.2.2.2 e7
  have ho : sM (oS (tA S)) (tP S) < sN (oS (tA S)) := by omega
  have ns : ¬ stpd S := by
    rintro (e | e)
    · omega
    · exact e.1 e7
  have eT : trS S = endS S := if_pos e7
  have k7 := cSk rc hp
  rw [e7] at k7
  have mm := cSm rc hp (by omega)
  have ko := cSk rc ho
  by_cases c5 : sK (oS (tA S)) (sM (oS (tA S)) (tP S)) = 5
  · rw [c5] at ko
    have en : encl S (sM (oS (tA S)) (tP S)) := ⟨ho, c5, m1, Nat.le_of_eq m3.symm⟩
    have lo := r5 _ en
    have l9 := g4 _ en
    have fr : FrG h (uI h 43 (sM (oS (tA S)) (tP S)) (nI (tL S (sM (oS (tA S)) (tP S)) - 1))) := ⟨fun d _ _ _ _ _ _ a => hI_uI_o a, fun _ _ => rfl, by rw [hI_uI_o (by decide)]⟩
    refine ⟨uI h 43 (sM (oS (tA S)) (tP S)) (nI (tL S (sM (oS (tA S)) (tP S)) - 1)), ?_, ?_, fr⟩
    · rw [eT]
      by_cases c1 : 1 < tL S (sM (oS (tA S)) (tP S))
      · have tp : tP (endS S) = sM (oS (tA S)) (tP S) + 1 := by
          unfold endS
          rw [if_pos ⟨c5, c1⟩]
          rfl
        rw [tp]
        unfold B_X3_doSteps_35 F_X3_behindEnd
        simp (disch := omega) only [↓m1_n, li_n, li_0, li_1, lt_y, lt_n, le_y, le_n, eq_n, nL, nLe, nEq, nEm, mEn, nLm, mLn, nLem, mLen, nI_add, nI_mul, nI_sub, nI_m, ib_nI, nx_nI, gd_y, bnd_e, bind_y, ↓reduceIte, hI_uI_o, hI_uI_s, hI_uI_e, hL_uI, hI_uL, hL_uL_o, hL_uL_s, hL_uL_e, and1_a, and1_b, Bool.not_true, Bool.not_false, Nat.zero_add, Nat.add_zero, Nat.add_sub_cancel, eq_self, ne_b, g0_0, g0_1, g0_2, g0_3, g0_4, g0_5, g0_6, g0_7, g0_8, g0_9, n1, n2, g3_2, g3_3, g3_4, g3_5, g3_6, g3_7, g3_8, g3_9, n4, n5, n6, n7, n8, n9, g10_2, g10_3, g10_4, g10_5, n11, n12, n13, n14, g15_2, g15_3, g15_4, g15_5, n16, n17, n18, n19, n20, g21_0, g21_1, g21_2, g21_3, n23, g24_2, g24_3, g24_4, g24_5, n25, n26, n27, n28, n29, n30, g31_0, g31_1, g31_2, n33, g34_2, g34_3, g34_4, g34_5, n35, n36, n37, n38, n39, g40_0, g40_1, g40_2, n41, n42, n43, g44_0, g44_2, g44_3, g44_5, g44_6, g44_10, n45, n46, n47, n48, n49, n50, g51_3, g51_4, g51_5, g51_6, g51_7, n52, n53, n54, n55, n56, g57_3, g57_4, g57_5, g57_6, g57_7, n58, n59, n60, n61, n62, g63_3, n64, g65_3, n66, g67_3, n68, g69_3, n70, g71_2, g71_3, g71_4, g71_5, g71_6, g71_7, g71_8, g71_9, n72, n73, n74, n75, n76, n77, g78_2, g78_3, g78_4, g78_5, n79, n80, n81, n82, g83_2, g83_3, g83_4, g83_5, n84, n85, n86, n87, g88_2, g88_3, g88_4, g88_5, g88_6, g88_7, g88_8, g88_9, n89, n90, n91, n92, n93, n94, g95_2, g95_3, g95_4, g95_5, n96, n97, n98, n99, g100_2, g100_3, g100_4, g100_5, n101, n102, n103, n104, g105_2, g105_3, g105_4, g105_5, g105_6, g105_7, g105_8, g105_9, n106, n107, n108, n109, n110, n111, g112_2, g112_3, g112_4, g112_5, n113, n114, n115, n116, g117_2, g117_3, g117_4, g117_5, n118, n119, n120, n121, g122_0, g122_4, g122_5, g122_6, g122_7, g122_8, g122_18, g122_19, g122_20, g122_21, g122_24, g122_25, g122_28, g122_29, g122_31, g122_32, g122_33, g122_39, g122_40, g122_41, g122_45, g122_46, g122_47, g122_48, n123, n124, n125, n126, n127, n128, n129, n130, n131, n132, n133, n134, n135, n136, n137, n138, n139, n140, n141, n142, n143, n144, n145, n146, cS0 rc, r3, k7, mm, ko, lo]
      · have tp : tP (endS S) = tP S + 1 := by
          unfold endS
          rw [if_neg (fun e => c1 e.2)]
          rfl
        rw [tp]
        unfold B_X3_doSteps_35 F_X3_behindEnd
        simp (disch := omega) only [↓m1_n, li_n, li_0, li_1, lt_y, lt_n, le_y, le_n, eq_n, nL, nLe, nEq, nEm, mEn, nLm, mLn, nLem, mLen, nI_add, nI_mul, nI_sub, nI_m, ib_nI, nx_nI, gd_y, bnd_e, bind_y, ↓reduceIte, hI_uI_o, hI_uI_s, hI_uI_e, hL_uI, hI_uL, hL_uL_o, hL_uL_s, hL_uL_e, and1_a, and1_b, Bool.not_true, Bool.not_false, Nat.zero_add, Nat.add_zero, Nat.add_sub_cancel, eq_self, ne_b, g0_0, g0_1, g0_2, g0_3, g0_4, g0_5, g0_6, g0_7, g0_8, g0_9, n1, n2, g3_2, g3_3, g3_4, g3_5, g3_6, g3_7, g3_8, g3_9, n4, n5, n6, n7, n8, n9, g10_2, g10_3, g10_4, g10_5, n11, n12, n13, n14, g15_2, g15_3, g15_4, g15_5, n16, n17, n18, n19, n20, g21_0, g21_1, g21_2, g21_3, n23, g24_2, g24_3, g24_4, g24_5, n25, n26, n27, n28, n29, n30, g31_0, g31_1, g31_2, n33, g34_2, g34_3, g34_4, g34_5, n35, n36, n37, n38, n39, g40_0, g40_1, g40_2, n41, n42, n43, g44_0, g44_2, g44_3, g44_5, g44_6, g44_10, n45, n46, n47, n48, n49, n50, g51_3, g51_4, g51_5, g51_6, g51_7, n52, n53, n54, n55, n56, g57_3, g57_4, g57_5, g57_6, g57_7, n58, n59, n60, n61, n62, g63_3, n64, g65_3, n66, g67_3, n68, g69_3, n70, g71_2, g71_3, g71_4, g71_5, g71_6, g71_7, g71_8, g71_9, n72, n73, n74, n75, n76, n77, g78_2, g78_3, g78_4, g78_5, n79, n80, n81, n82, g83_2, g83_3, g83_4, g83_5, n84, n85, n86, n87, g88_2, g88_3, g88_4, g88_5, g88_6, g88_7, g88_8, g88_9, n89, n90, n91, n92, n93, n94, g95_2, g95_3, g95_4, g95_5, n96, n97, n98, n99, g100_2, g100_3, g100_4, g100_5, n101, n102, n103, n104, g105_2, g105_3, g105_4, g105_5, g105_6, g105_7, g105_8, g105_9, n106, n107, n108, n109, n110, n111, g112_2, g112_3, g112_4, g112_5, n113, n114, n115, n116, g117_2, g117_3, g117_4, g117_5, n118, n119, n120, n121, g122_0, g122_4, g122_5, g122_6, g122_7, g122_8, g122_18, g122_19, g122_20, g122_21, g122_24, g122_25, g122_28, g122_29, g122_31, g122_32, g122_33, g122_39, g122_40, g122_41, g122_45, g122_46, g122_47, g122_48, n123, n124, n125, n126, n127, n128, n129, n130, n131, n132, n133, n134, n135, n136, n137, n138, n139, n140, n141, n142, n143, n144, n145, n146, cS0 rc, r3, k7, mm, ko, lo]
    · rw [eT]
      unfold endS
      have rc' : RcH (uI h 43 (sM (oS (tA S)) (tP S)) (nI (tL S (sM (oS (tA S)) (tP S)) - 1))) 3 (tA S) := RcH_o (fun d _ _ _ a => hI_uI_o a) rc
      by_cases c1 : 1 < tL S (sM (oS (tA S)) (tP S))
      · rw [if_pos ⟨c5, c1⟩]
        refine ⟨rc', r1, by rw [hI_uI_o (by decide)]; exact r2, by rw [hI_uI_o (by decide)]; exact r3, by rw [hI_uI_o (by decide)]; exact r4, fun o eo => ?_⟩
        obtain ⟨x1, x2, x3, x4⟩ := eo
        have x1 : o < sN (oS (tA S)) := x1
        have x2 : sK (oS (tA S)) o = 5 := x2
        have x3 : o < sM (oS (tA S)) (tP S) + 1 := x3
        have x4 : sM (oS (tA S)) (tP S) + 1 ≤ sM (oS (tA S)) o := x4
        show _ = nI (if o = sM (oS (tA S)) (tP S) then tL S o - 1 else tL S o)
        by_cases co : o = sM (oS (tA S)) (tP S)
        · rw [if_pos co, co, hI_uI_e]
        · rw [if_neg co, hI_uI_s co]
          have := sp.nest (o := o) (p := sM (oS (tA S)) (tP S)) (by omega) (by omega) (Or.inl x2) (Or.inl c5) (by omega)
          exact r5 o ⟨x1, x2, by omega, by omega⟩
      · rw [if_neg (fun e => c1 e.2)]
        refine ⟨rc', r1, by rw [hI_uI_o (by decide)]; exact r2, by rw [hI_uI_o (by decide)]; exact r3, by rw [hI_uI_o (by decide)]; exact r4, fun o eo => ?_⟩
        obtain ⟨x1, x2, x3, x4⟩ := eo
        have x1 : o < sN (oS (tA S)) := x1
        have x2 : sK (oS (tA S)) o = 5 := x2
        have x3 : o < tP S + 1 := x3
        have x4 : tP S + 1 ≤ sM (oS (tA S)) o := x4
        have n1' : o ≠ tP S := fun e => by rw [e, e7] at x2; omega
        have n2' : o ≠ sM (oS (tA S)) (tP S) := fun e => by rw [e, m3] at x4; omega
        show _ = nI (tL S o)
        rw [hI_uI_s n2']
        exact r5 o ⟨x1, x2, by omega, by omega⟩
  · have c6 : sK (oS (tA S)) (sM (oS (tA S)) (tP S)) = 6 := by omega
    rw [c6] at ko
    refine ⟨h, ?_, ?_, FrG.rf⟩
    · have tp : tP (endS S) = tP S + 1 := by
        unfold endS
        rw [if_neg (fun e => c5 e.1)]
        rfl
      rw [eT, tp]
      unfold B_X3_doSteps_35 F_X3_behindEnd
      simp (disch := omega) only [↓m1_n, li_n, li_0, li_1, lt_y, lt_n, le_y, le_n, eq_n, nL, nLe, nEq, nEm, mEn, nLm, mLn, nLem, mLen, nI_add, nI_mul, nI_sub, nI_m, ib_nI, nx_nI, gd_y, bnd_e, bind_y, ↓reduceIte, hI_uI_o, hI_uI_s, hI_uI_e, hL_uI, hI_uL, hL_uL_o, hL_uL_s, hL_uL_e, and1_a, and1_b, Bool.not_true, Bool.not_false, Nat.zero_add, Nat.add_zero, Nat.add_sub_cancel, eq_self, ne_b, g0_0, g0_1, g0_2, g0_3, g0_4, g0_5, g0_6, g0_7, g0_8, g0_9, n1, n2, g3_2, g3_3, g3_4, g3_5, g3_6, g3_7, g3_8, g3_9, n4, n5, n6, n7, n8, n9, g10_2, g10_3, g10_4, g10_5, n11, n12, n13, n14, g15_2, g15_3, g15_4, g15_5, n16, n17, n18, n19, n20, g21_0, g21_1, g21_2, g21_3, n23, g24_2, g24_3, g24_4, g24_5, n25, n26, n27, n28, n29, n30, g31_0, g31_1, g31_2, n33, g34_2, g34_3, g34_4, g34_5, n35, n36, n37, n38, n39, g40_0, g40_1, g40_2, n41, n42, n43, g44_0, g44_2, g44_3, g44_5, g44_6, g44_10, n45, n46, n47, n48, n49, n50, g51_3, g51_4, g51_5, g51_6, g51_7, n52, n53, n54, n55, n56, g57_3, g57_4, g57_5, g57_6, g57_7, n58, n59, n60, n61, n62, g63_3, n64, g65_3, n66, g67_3, n68, g69_3, n70, g71_2, g71_3, g71_4, g71_5, g71_6, g71_7, g71_8, g71_9, n72, n73, n74, n75, n76, n77, g78_2, g78_3, g78_4, g78_5, n79, n80, n81, n82, g83_2, g83_3, g83_4, g83_5, n84, n85, n86, n87, g88_2, g88_3, g88_4, g88_5, g88_6, g88_7, g88_8, g88_9, n89, n90, n91, n92, n93, n94, g95_2, g95_3, g95_4, g95_5, n96, n97, n98, n99, g100_2, g100_3, g100_4, g100_5, n101, n102, n103, n104, g105_2, g105_3, g105_4, g105_5, g105_6, g105_7, g105_8, g105_9, n106, n107, n108, n109, n110, n111, g112_2, g112_3, g112_4, g112_5, n113, n114, n115, n116, g117_2, g117_3, g117_4, g117_5, n118, n119, n120, n121, g122_0, g122_4, g122_5, g122_6, g122_7, g122_8, g122_18, g122_19, g122_20, g122_21, g122_24, g122_25, g122_28, g122_29, g122_31, g122_32, g122_33, g122_39, g122_40, g122_41, g122_45, g122_46, g122_47, g122_48, n123, n124, n125, n126, n127, n128, n129, n130, n131, n132, n133, n134, n135, n136, n137, n138, n139, n140, n141, n142, n143, n144, n145, n146, cS0 rc, r3, k7, mm, ko]
    · rw [eT]
      unfold endS
      rw [if_neg (fun e => c5 e.1)]
      refine ⟨rc, r1, r2, r3, r4, fun o eo => ?_⟩
      obtain ⟨x1, x2, x3, x4⟩ := eo
      have x1 : o < sN (oS (tA S)) := x1
      have x2 : sK (oS (tA S)) o = 5 := x2
      have x3 : o < tP S + 1 := x3
      have x4 : tP S + 1 ≤ sM (oS (tA S)) o := x4
      have n1' : o ≠ tP S := fun e => by rw [e, e7] at x2; omega
      exact r5 o ⟨x1, x2, by omega, by omega⟩
/-- loops around the next place are around this one, or begin here -/
theorem encl_stp {q : Nat} {S : St} (g : gdS q S) (hp : tP S < sN (oS (tA S))) (e7 : sK (oS (tA S)) (tP S) ≠ 7) {o : Nat} (eo : encl (stpS S) o) : (o = tP S ∧ sK (oS (tA S)) (tP S) = 5) ∨ (o ≠ tP S ∧ encl S o) := by
  have sp := g.1.2.2.2.2
  have K := sp.k hp
  obtain ⟨x1, x2, x3, x4⟩ := eo
  have x1 : o < sN (oS (stpA (tA S) (tP S))) := x1
  have x2 : sK (oS (stpA (tA S) (tP S))) o = 5 := x2
  have x3 : o < stpP (tA S) (tP S) := x3
  have x4 : stpP (tA S) (tP S) ≤ sM (oS (stpA (tA S) (tP S))) o := x4
  rw [stpA_oS] at x1 x2 x4
  by_cases co : o = tP S
  · subst co
    exact Or.inl ⟨rfl, x2⟩
  · refine Or.inr ⟨co, ?_⟩
    unfold stpP at x3 x4
    by_cases cw : sK (oS (tA S)) (tP S) = 6 ∧ ¬ (0 < oN (tA S) ∧ rdN (oH (tA S) (oD (tA S) 0) (sA (oS (tA S)) (tP S))) = sB (oS (tA S)) (tP S))
    · rw [if_pos cw] at x3 x4
      obtain ⟨z1, z2, z3⟩ := K.2.2.2.2.2.2.2.1 (Or.inr cw.1)
      have no : o ≠ sM (oS (tA S)) (tP S) := fun e => by rw [e, z2] at x2; omega
      by_cases lo : o < tP S
      · exact ⟨x1, x2, lo, by omega⟩
      · have := sp.nest (o := tP S) (p := o) (by omega) x1 (Or.inr cw.1) (Or.inl x2) (by omega)
        omega
    · rw [if_neg cw] at x3 x4
      exact ⟨x1, x2, by omega, by omega⟩
theorem eq_y {a b : Nat} (h : a = b) : (a = b) = True := eq_true h
theorem CR_step {h h' : Hp} {q : Nat} {S : St} (g : gdS q S) (cr : CR h S) (hp : tP S < sN (oS (tA S))) (e7 : sK (oS (tA S)) (tP S) ≠ 7) (a1 : RcH h' 3 (stpA (tA S) (tP S))) (a2 : hL h' 40 4 = tR (stpS S)) (a3 : hI h' 40 5 = tH (stpS S)) (a4 : hI h' 40 6 = nI 0) (a5 : hI h' 40 7 = nI (tD S + 1)) (a6 : ∀ o, o ≠ tP S → hI h' 43 o = hI h 43 o) (a7 : sK (oS (tA S)) (tP S) = 5 → hI h' 43 (tP S) = nI (sA (oS (tA S)) (tP S))) : CR h' (stpS S) := by
  refine ⟨a1, a2, a3, a4, a5, fun o eo => ?_⟩
  show _ = nI (if o = tP S ∧ sK (oS (tA S)) (tP S) = 5 then sA (oS (tA S)) (tP S) else tL S o)
  rcases encl_stp g hp e7 eo with ⟨x1, x2⟩ | ⟨x1, x2⟩
  · rw [if_pos ⟨x1, x2⟩, x1]
    exact a7 x2
  · rw [if_neg (fun e => x1 e.1), a6 o x1]
    exact cr.2.2.2.2.2 o x2
theorem c_holds' {h : Hp} {A : Ho} {q a b : Nat} (ok : HoOk q A) (rc : RcH h 3 A) (ha : a < 8) (hb : b < 12) : F_X3_holds h 3 (nI a) (nI b) = some (if 0 < oN A ∧ rdN (oH A (oD A 0) a) = b then nI 1 else nI 0) := by
  have hA := ok.1
  by_cases l : 0 < oN A
  · have hd := (ok.2.1 0 l).2.2.2.2
    have hr := rdN_le (oH A (oD A 0) a)
    by_cases e : rdN (oH A (oD A 0) a) = b
    · rw [if_pos ⟨l, e⟩]
      unfold F_X3_holds
      simp (disch := omega) only [↓m1_n, li_n, li_0, li_1, lt_y, lt_n, le_y, le_n, eq_n, nL, nLe, nEq, nEm, mEn, nLm, mLn, nLem, mLen, nI_add, nI_mul, nI_sub, nI_m, ib_nI, nx_nI, gd_y, bnd_e, bind_y, ↓reduceIte, hI_uI_o, hI_uI_s, hI_uI_e, hL_uI, hI_uL, hL_uL_o, hL_uL_s, hL_uL_e, and1_a, and1_b, Bool.not_true, Bool.not_false, Nat.zero_add, Nat.add_zero, Nat.add_sub_cancel, eq_self, ne_b, g0_0, g0_1, g0_2, g0_3, g0_4, g0_5, g0_6, g0_7, g0_8, g0_9, n1, n2, g3_2, g3_3, g3_4, g3_5, g3_6, g3_7, g3_8, g3_9, n4, n5, n6, n7, n8, n9, g10_2, g10_3, g10_4, g10_5, n11, n12, n13, n14, g15_2, g15_3, g15_4, g15_5, n16, n17, n18, n19, g40_0, g40_1, g40_2, g44_0, g44_2, g44_3, g44_5, g44_6, g44_10, g51_3, g51_4, g51_5, g51_6, g51_7, g57_3, g57_4, g57_5, g57_6, g57_7, n120, n121, g122_0, g122_4, g122_5, g122_6, g122_7, g122_8, g122_18, g122_19, g122_20, g122_21, g122_24, g122_25, g122_28, g122_29, g122_31, g122_32, g122_33, g122_39, g122_40, g122_41, g122_45, g122_46, g122_47, g122_48, n123, n124, n125, n126, n127, n128, n129, n130, n131, n132, n133, n134, n135, n136, n137, n138, n139, n140, n141, n142, n143, n144, n145, n146, cNn rc, cDe rc l, c_reading ok rc hd ha, e]
    · rw [if_neg (fun x => e x.2)]
      unfold F_X3_holds
      simp (disch := omega) only [↓m1_n, li_n, li_0, li_1, lt_y, lt_n, le_y, le_n, eq_n, nL, nLe, nEq, nEm, mEn, nLm, mLn, nLem, mLen, nI_add, nI_mul, nI_sub, nI_m, ib_nI, nx_nI, gd_y, bnd_e, bind_y, ↓reduceIte, hI_uI_o, hI_uI_s, hI_uI_e, hL_uI, hI_uL, hL_uL_o, hL_uL_s, hL_uL_e, and1_a, and1_b, Bool.not_true, Bool.not_false, Nat.zero_add, Nat.add_zero, Nat.add_sub_cancel, eq_self, ne_b, g0_0, g0_1, g0_2, g0_3, g0_4, g0_5, g0_6, g0_7, g0_8, g0_9, n1, n2, g3_2, g3_3, g3_4, g3_5, g3_6, g3_7, g3_8, g3_9, n4, n5, n6, n7, n8, n9, g10_2, g10_3, g10_4, g10_5, n11, n12, n13, n14, g15_2, g15_3, g15_4, g15_5, n16, n17, n18, n19, g40_0, g40_1, g40_2, g44_0, g44_2, g44_3, g44_5, g44_6, g44_10, g51_3, g51_4, g51_5, g51_6, g51_7, g57_3, g57_4, g57_5, g57_6, g57_7, n120, n121, g122_0, g122_4, g122_5, g122_6, g122_7, g122_8, g122_18, g122_19, g122_20, g122_21, g122_24, g122_25, g122_28, g122_29, g122_31, g122_32, g122_33, g122_39, g122_40, g122_41, g122_45, g122_46, g122_47, g122_48, n123, n124, n125, n126, n127, n128, n129, n130, n131, n132, n133, n134, n135, n136, n137, n138, n139, n140, n141, n142, n143, n144, n145, n146, cNn rc, cDe rc l, c_reading ok rc hd ha, e]
  · rw [if_neg (fun x => l x.1)]
    unfold F_X3_holds
    simp (disch := omega) only [↓m1_n, li_n, li_0, li_1, lt_y, lt_n, le_y, le_n, eq_n, nL, nLe, nEq, nEm, mEn, nLm, mLn, nLem, mLen, nI_add, nI_mul, nI_sub, nI_m, ib_nI, nx_nI, gd_y, bnd_e, bind_y, ↓reduceIte, hI_uI_o, hI_uI_s, hI_uI_e, hL_uI, hI_uL, hL_uL_o, hL_uL_s, hL_uL_e, and1_a, and1_b, Bool.not_true, Bool.not_false, Nat.zero_add, Nat.add_zero, Nat.add_sub_cancel, eq_self, ne_b, g0_0, g0_1, g0_2, g0_3, g0_4, g0_5, g0_6, g0_7, g0_8, g0_9, n1, n2, g3_2, g3_3, g3_4, g3_5, g3_6, g3_7, g3_8, g3_9, n4, n5, n6, n7, n8, n9, g10_2, g10_3, g10_4, g10_5, n11, n12, n13, n14, g15_2, g15_3, g15_4, g15_5, n16, n17, n18, n19, g40_0, g40_1, g40_2, g44_0, g44_2, g44_3, g44_5, g44_6, g44_10, g51_3, g51_4, g51_5, g51_6, g51_7, g57_3, g57_4, g57_5, g57_6, g57_7, n120, n121, g122_0, g122_4, g122_5, g122_6, g122_7, g122_8, g122_18, g122_19, g122_20, g122_21, g122_24, g122_25, g122_28, g122_29, g122_31, g122_32, g122_33, g122_39, g122_40, g122_41, g122_45, g122_46, g122_47, g122_48, n123, n124, n125, n126, n127, n128, n129, n130, n131, n132, n133, n134, n135, n136, n137, n138, n139, n140, n141, n142, n143, n144, n145, n146, cNn rc]
theorem c_stp {h : Hp} {q : Nat} {S : St} {i : Nat} (g : gdS q S) (cr : CR h S) (hp : tP S < sN (oS (tA S))) (e7 : sK (oS (tA S)) (tP S) ≠ 7) (hd : tD S < 200) (hi : i < 99999) : ∃ h', B_X3_doSteps_35 h 40 3 15 (nI (tP S)) (nI i) = some (.inl (h', nI (tP (trS S)), nI (i + 1))) ∧ CR h' (trS S) ∧ FrG h h' := by
  obtain ⟨rc, r1, r2, r3, r4, r5⟩ := id cr
  obtain ⟨g1, g2, g3, g4⟩ := id g
  have sp := g1.2.2.2.2
  have h80 := sp.1
  have K := sp.k hp
  have eT : trS S = stpS S := if_neg e7
  have u0 : ∀ d, d ≠ 40 → hI (uI h 40 7 (nI (tD S + 1))) d = hI h d := fun d hd => hI_uI_o hd
  have rc1 : RcH (uI h 40 7 (nI (tD S + 1))) 3 (tA S) := RcH_o (fun d a _ _ _ => u0 d a) rc
  have kk := cSk rc hp
  have ka := cSa rc hp e7
  have kb := cSb rc hp e7
  have f1 : FrG h (uI h 40 7 (nI (tD S + 1))) := ⟨fun d _ _ _ a _ _ _ => hI_uI_o a, fun _ _ => rfl, hI_uI_s (by decide)⟩
  rw [eT]
  have tPs : tP (stpS S) = stpP (tA S) (tP S) := rfl
  have K7 : sK (oS (tA S)) (tP S) = 0 ∨ sK (oS (tA S)) (tP S) = 1 ∨ sK (oS (tA S)) (tP S) = 2 ∨ sK (oS (tA S)) (tP S) = 3 ∨ sK (oS (tA S)) (tP S) = 4 ∨ sK (oS (tA S)) (tP S) = 5 ∨ sK (oS (tA S)) (tP S) = 6 := by omega
  have pl : sK (oS (tA S)) (tP S) ≠ 6 → stpP (tA S) (tP S) = tP S + 1 := fun n6 => if_neg (fun e => n6 e.1)
  rcases K7 with k0 | k0 | k0 | k0 | k0 | k0 | k0
  · -- a pass
    rw [k0] at kk
    obtain ⟨ba, bb⟩ := K.2.1 k0
    obtain ⟨h2, x1, x2, x3, x4⟩ := c_send (b := decide (sB (oS (tA S)) (tP S) = 1)) g1 rc1 ba
    have e43 : hI h2 43 = hI h 43 := by rw [x3 43 (by decide) (by decide) (by decide) (by decide) (by decide), hI_uI_o (by decide)]
    have e40 : hI h2 40 = hI (uI h 40 7 (nI (tD S + 1))) 40 := x3 40 (by decide) (by decide) (by decide) (by decide) (by decide)
    refine ⟨uI h2 40 5 (tH S + nI (pH (tA S) (sA (oS (tA S)) (tP S)) (decide (sB (oS (tA S)) (tP S) = 1)))), ?_, CR_step g cr hp e7 ?_ ?_ ?_ ?_ ?_ ?_ ?_, ?_⟩
    · unfold B_X3_doSteps_35 F_X3_doStep
      rw [tPs, pl (by omega)]
      by_cases eb : sB (oS (tA S)) (tP S) = 1
      · rw [decide_eq_true eb] at x1 ⊢
        have x1' : F_X3_sendThrough (uI h 40 7 (nI (tD S + 1))) 40 3 (nI (sA (oS (tA S)) (tP S))) (nI 1) = _ := x1
        simp (disch := omega) only [↓m1_n, li_n, li_0, li_1, lt_y, lt_n, le_y, le_n, eq_n, nL, nLe, nEq, nEm, mEn, nLm, mLn, nLem, mLen, nI_add, nI_mul, nI_sub, nI_m, ib_nI, nx_nI, gd_y, bnd_e, bind_y, ↓reduceIte, hI_uI_o, hI_uI_s, hI_uI_e, hL_uI, hI_uL, hL_uL_o, hL_uL_s, hL_uL_e, and1_a, and1_b, Bool.not_true, Bool.not_false, Nat.zero_add, Nat.add_zero, Nat.add_sub_cancel, eq_self, ne_b, g0_0, g0_1, g0_2, g0_3, g0_4, g0_5, g0_6, g0_7, g0_8, g0_9, n1, n2, g3_2, g3_3, g3_4, g3_5, g3_6, g3_7, g3_8, g3_9, n4, n5, n6, n7, n8, n9, g10_2, g10_3, g10_4, g10_5, n11, n12, n13, n14, g15_2, g15_3, g15_4, g15_5, n16, n17, n18, n19, n20, g21_0, g21_1, g21_2, g21_3, n23, g24_2, g24_3, g24_4, g24_5, n25, n26, n27, n28, n29, n30, g31_0, g31_1, g31_2, n33, g34_2, g34_3, g34_4, g34_5, n35, n36, n37, n38, n39, g40_0, g40_1, g40_2, n41, n42, n43, g44_0, g44_2, g44_3, g44_5, g44_6, g44_10, n45, n46, n47, n48, n49, n50, g51_3, g51_4, g51_5, g51_6, g51_7, n52, n53, n54, n55, n56, g57_3, g57_4, g57_5, g57_6, g57_7, n58, n59, n60, n61, n62, g63_3, n64, g65_3, n66, g67_3, n68, g69_3, n70, g71_2, g71_3, g71_4, g71_5, g71_6, g71_7, g71_8, g71_9, n72, n73, n74, n75, n76, n77, g78_2, g78_3, g78_4, g78_5, n79, n80, n81, n82, g83_2, g83_3, g83_4, g83_5, n84, n85, n86, n87, g88_2, g88_3, g88_4, g88_5, g88_6, g88_7, g88_8, g88_9, n89, n90, n91, n92, n93, n94, g95_2, g95_3, g95_4, g95_5, n96, n97, n98, n99, g100_2, g100_3, g100_4, g100_5, n101, n102, n103, n104, g105_2, g105_3, g105_4, g105_5, g105_6, g105_7, g105_8, g105_9, n106, n107, n108, n109, n110, n111, g112_2, g112_3, g112_4, g112_5, n113, n114, n115, n116, g117_2, g117_3, g117_4, g117_5, n118, n119, n120, n121, g122_0, g122_4, g122_5, g122_6, g122_7, g122_8, g122_18, g122_19, g122_20, g122_21, g122_24, g122_25, g122_28, g122_29, g122_31, g122_32, g122_33, g122_39, g122_40, g122_41, g122_45, g122_46, g122_47, g122_48, n123, n124, n125, n126, n127, n128, n129, n130, n131, n132, n133, n134, n135, n136, n137, n138, n139, n140, n141, n142, n143, n144, n145, n146, cS0 rc, r2, r3, r4, kk, ka, kb, eb, swt, x1', eq_y]
      · have eb0 : sB (oS (tA S)) (tP S) = 0 := by omega
        rw [decide_eq_false eb] at x1 ⊢
        have x1' : F_X3_sendThrough (uI h 40 7 (nI (tD S + 1))) 40 3 (nI (sA (oS (tA S)) (tP S))) (nI 0) = _ := x1
        simp (disch := omega) only [↓m1_n, li_n, li_0, li_1, lt_y, lt_n, le_y, le_n, eq_n, nL, nLe, nEq, nEm, mEn, nLm, mLn, nLem, mLen, nI_add, nI_mul, nI_sub, nI_m, ib_nI, nx_nI, gd_y, bnd_e, bind_y, ↓reduceIte, hI_uI_o, hI_uI_s, hI_uI_e, hL_uI, hI_uL, hL_uL_o, hL_uL_s, hL_uL_e, and1_a, and1_b, Bool.not_true, Bool.not_false, Nat.zero_add, Nat.add_zero, Nat.add_sub_cancel, eq_self, ne_b, g0_0, g0_1, g0_2, g0_3, g0_4, g0_5, g0_6, g0_7, g0_8, g0_9, n1, n2, g3_2, g3_3, g3_4, g3_5, g3_6, g3_7, g3_8, g3_9, n4, n5, n6, n7, n8, n9, g10_2, g10_3, g10_4, g10_5, n11, n12, n13, n14, g15_2, g15_3, g15_4, g15_5, n16, n17, n18, n19, n20, g21_0, g21_1, g21_2, g21_3, n23, g24_2, g24_3, g24_4, g24_5, n25, n26, n27, n28, n29, n30, g31_0, g31_1, g31_2, n33, g34_2, g34_3, g34_4, g34_5, n35, n36, n37, n38, n39, g40_0, g40_1, g40_2, n41, n42, n43, g44_0, g44_2, g44_3, g44_5, g44_6, g44_10, n45, n46, n47, n48, n49, n50, g51_3, g51_4, g51_5, g51_6, g51_7, n52, n53, n54, n55, n56, g57_3, g57_4, g57_5, g57_6, g57_7, n58, n59, n60, n61, n62, g63_3, n64, g65_3, n66, g67_3, n68, g69_3, n70, g71_2, g71_3, g71_4, g71_5, g71_6, g71_7, g71_8, g71_9, n72, n73, n74, n75, n76, n77, g78_2, g78_3, g78_4, g78_5, n79, n80, n81, n82, g83_2, g83_3, g83_4, g83_5, n84, n85, n86, n87, g88_2, g88_3, g88_4, g88_5, g88_6, g88_7, g88_8, g88_9, n89, n90, n91, n92, n93, n94, g95_2, g95_3, g95_4, g95_5, n96, n97, n98, n99, g100_2, g100_3, g100_4, g100_5, n101, n102, n103, n104, g105_2, g105_3, g105_4, g105_5, g105_6, g105_7, g105_8, g105_9, n106, n107, n108, n109, n110, n111, g112_2, g112_3, g112_4, g112_5, n113, n114, n115, n116, g117_2, g117_3, g117_4, g117_5, n118, n119, n120, n121, g122_0, g122_4, g122_5, g122_6, g122_7, g122_8, g122_18, g122_19, g122_20, g122_21, g122_24, g122_25, g122_28, g122_29, g122_31, g122_32, g122_33, g122_39, g122_40, g122_41, g122_45, g122_46, g122_47, g122_48, n123, n124, n125, n126, n127, n128, n129, n130, n131, n132, n133, n134, n135, n136, n137, n138, n139, n140, n141, n142, n143, n144, n145, n146, cS0 rc, r2, r3, r4, kk, ka, kb, eb0, swt, x1', eq_y]
    · have ea : stpA (tA S) (tP S) = passA (tA S) (sA (oS (tA S)) (tP S)) (decide (sB (oS (tA S)) (tP S) = 1)) := if_pos k0
      rw [ea]
      exact RcH_o (fun d a _ _ _ => hI_uI_o a) x2
    · have et : tR (stpS S) = tR S := if_neg (by omega)
      rw [et, hL_uI, x4]
      exact r1
    · have et : tH (stpS S) = tH S + nI (pH (tA S) (sA (oS (tA S)) (tP S)) (decide (sB (oS (tA S)) (tP S) = 1))) := if_pos k0
      rw [et, hI_uI_e]
    · rw [hI_uI_s (by decide), e40, hI_uI_s (by decide)]
      exact r3
    · rw [hI_uI_s (by decide), e40, hI_uI_e]
    · intro o _
      rw [hI_uI_o (by decide), e43]
    · intro e; omega
    · exact ⟨fun d a1 a2 a3 a4 a5 a6 a7 => by rw [hI_uI_o a4, x3 d a1 a2 a3 a5 a6, hI_uI_o a4], fun d a => by rw [hL_uI, x4]; rfl, by rw [hI_uI_s (by decide), e40, hI_uI_s (by decide)]⟩
  · -- put
    rw [k0] at kk
    obtain ⟨ba, bb⟩ := K.2.2.1 (Or.inl k0)
    obtain ⟨h2, x1, x2, x3, x4⟩ := c_put g1 rc1 ba bb
    have e43 : hI h2 43 = hI h 43 := by rw [x2 43 (by decide) (by decide), hI_uI_o (by decide)]
    have e40 : hI h2 40 = hI (uI h 40 7 (nI (tD S + 1))) 40 := x2 40 (by decide) (by decide)
    refine ⟨h2, ?_, CR_step g cr hp e7 ?_ ?_ ?_ ?_ ?_ ?_ ?_, ?_⟩
    · unfold B_X3_doSteps_35 F_X3_doStep
      rw [tPs, pl (by omega)]
      simp (disch := omega) only [↓m1_n, li_n, li_0, li_1, lt_y, lt_n, le_y, le_n, eq_n, nL, nLe, nEq, nEm, mEn, nLm, mLn, nLem, mLen, nI_add, nI_mul, nI_sub, nI_m, ib_nI, nx_nI, gd_y, bnd_e, bind_y, ↓reduceIte, hI_uI_o, hI_uI_s, hI_uI_e, hL_uI, hI_uL, hL_uL_o, hL_uL_s, hL_uL_e, and1_a, and1_b, Bool.not_true, Bool.not_false, Nat.zero_add, Nat.add_zero, Nat.add_sub_cancel, eq_self, ne_b, g0_0, g0_1, g0_2, g0_3, g0_4, g0_5, g0_6, g0_7, g0_8, g0_9, n1, n2, g3_2, g3_3, g3_4, g3_5, g3_6, g3_7, g3_8, g3_9, n4, n5, n6, n7, n8, n9, g10_2, g10_3, g10_4, g10_5, n11, n12, n13, n14, g15_2, g15_3, g15_4, g15_5, n16, n17, n18, n19, n20, g21_0, g21_1, g21_2, g21_3, n23, g24_2, g24_3, g24_4, g24_5, n25, n26, n27, n28, n29, n30, g31_0, g31_1, g31_2, n33, g34_2, g34_3, g34_4, g34_5, n35, n36, n37, n38, n39, g40_0, g40_1, g40_2, n41, n42, n43, g44_0, g44_2, g44_3, g44_5, g44_6, g44_10, n45, n46, n47, n48, n49, n50, g51_3, g51_4, g51_5, g51_6, g51_7, n52, n53, n54, n55, n56, g57_3, g57_4, g57_5, g57_6, g57_7, n58, n59, n60, n61, n62, g63_3, n64, g65_3, n66, g67_3, n68, g69_3, n70, g71_2, g71_3, g71_4, g71_5, g71_6, g71_7, g71_8, g71_9, n72, n73, n74, n75, n76, n77, g78_2, g78_3, g78_4, g78_5, n79, n80, n81, n82, g83_2, g83_3, g83_4, g83_5, n84, n85, n86, n87, g88_2, g88_3, g88_4, g88_5, g88_6, g88_7, g88_8, g88_9, n89, n90, n91, n92, n93, n94, g95_2, g95_3, g95_4, g95_5, n96, n97, n98, n99, g100_2, g100_3, g100_4, g100_5, n101, n102, n103, n104, g105_2, g105_3, g105_4, g105_5, g105_6, g105_7, g105_8, g105_9, n106, n107, n108, n109, n110, n111, g112_2, g112_3, g112_4, g112_5, n113, n114, n115, n116, g117_2, g117_3, g117_4, g117_5, n118, n119, n120, n121, g122_0, g122_4, g122_5, g122_6, g122_7, g122_8, g122_18, g122_19, g122_20, g122_21, g122_24, g122_25, g122_28, g122_29, g122_31, g122_32, g122_33, g122_39, g122_40, g122_41, g122_45, g122_46, g122_47, g122_48, n123, n124, n125, n126, n127, n128, n129, n130, n131, n132, n133, n134, n135, n136, n137, n138, n139, n140, n141, n142, n143, n144, n145, n146, cS0 rc, r2, r3, r4, kk, ka, kb, swt, x1, eq_y]
    · have ea : stpA (tA S) (tP S) = dkA (tA S) (srt (putR (tA S) (sA (oS (tA S)) (tP S)) (sB (oS (tA S)) (tP S))) (oD (tA S)) (oN (tA S))) := by
        unfold stpA
        rw [if_neg (by omega), if_pos k0]
      rw [ea]
      exact RcH_dk rc1 x2 x4
    · have et : tR (stpS S) = tR S := if_neg (by omega)
      rw [et, x3]
      exact r1
    · have et : tH (stpS S) = tH S := if_neg (by omega)
      rw [et, e40, hI_uI_s (by decide)]
      exact r2
    · rw [e40, hI_uI_s (by decide)]
      exact r3
    · rw [e40, hI_uI_e]
    · intro o _
      rw [e43]
    · intro e; omega
    · exact ⟨fun d a1 a2 a3 a4 a5 a6 a7 => by rw [x2 d a3 a5, hI_uI_o a4], fun d a => by rw [x3]; rfl, by rw [e40, hI_uI_s (by decide)]⟩
  · -- cut
    rw [k0] at kk
    have ba := K.2.2.2.1 k0
    obtain ⟨h2, x1, x2, x3, x4⟩ := c_cut' g1 rc1 ba
    have e43 : hI h2 43 = hI h 43 := by rw [x2 43 (by decide) (by decide), hI_uI_o (by decide)]
    have e40 : hI h2 40 = hI (uI h 40 7 (nI (tD S + 1))) 40 := x2 40 (by decide) (by decide)
    refine ⟨h2, ?_, CR_step g cr hp e7 ?_ ?_ ?_ ?_ ?_ ?_ ?_, ?_⟩
    · unfold B_X3_doSteps_35 F_X3_doStep
      rw [tPs, pl (by omega)]
      simp (disch := omega) only [↓m1_n, li_n, li_0, li_1, lt_y, lt_n, le_y, le_n, eq_n, nL, nLe, nEq, nEm, mEn, nLm, mLn, nLem, mLen, nI_add, nI_mul, nI_sub, nI_m, ib_nI, nx_nI, gd_y, bnd_e, bind_y, ↓reduceIte, hI_uI_o, hI_uI_s, hI_uI_e, hL_uI, hI_uL, hL_uL_o, hL_uL_s, hL_uL_e, and1_a, and1_b, Bool.not_true, Bool.not_false, Nat.zero_add, Nat.add_zero, Nat.add_sub_cancel, eq_self, ne_b, g0_0, g0_1, g0_2, g0_3, g0_4, g0_5, g0_6, g0_7, g0_8, g0_9, n1, n2, g3_2, g3_3, g3_4, g3_5, g3_6, g3_7, g3_8, g3_9, n4, n5, n6, n7, n8, n9, g10_2, g10_3, g10_4, g10_5, n11, n12, n13, n14, g15_2, g15_3, g15_4, g15_5, n16, n17, n18, n19, n20, g21_0, g21_1, g21_2, g21_3, n23, g24_2, g24_3, g24_4, g24_5, n25, n26, n27, n28, n29, n30, g31_0, g31_1, g31_2, n33, g34_2, g34_3, g34_4, g34_5, n35, n36, n37, n38, n39, g40_0, g40_1, g40_2, n41, n42, n43, g44_0, g44_2, g44_3, g44_5, g44_6, g44_10, n45, n46, n47, n48, n49, n50, g51_3, g51_4, g51_5, g51_6, g51_7, n52, n53, n54, n55, n56, g57_3, g57_4, g57_5, g57_6, g57_7, n58, n59, n60, n61, n62, g63_3, n64, g65_3, n66, g67_3, n68, g69_3, n70, g71_2, g71_3, g71_4, g71_5, g71_6, g71_7, g71_8, g71_9, n72, n73, n74, n75, n76, n77, g78_2, g78_3, g78_4, g78_5, n79, n80, n81, n82, g83_2, g83_3, g83_4, g83_5, n84, n85, n86, n87, g88_2, g88_3, g88_4, g88_5, g88_6, g88_7, g88_8, g88_9, n89, n90, n91, n92, n93, n94, g95_2, g95_3, g95_4, g95_5, n96, n97, n98, n99, g100_2, g100_3, g100_4, g100_5, n101, n102, n103, n104, g105_2, g105_3, g105_4, g105_5, g105_6, g105_7, g105_8, g105_9, n106, n107, n108, n109, n110, n111, g112_2, g112_3, g112_4, g112_5, n113, n114, n115, n116, g117_2, g117_3, g117_4, g117_5, n118, n119, n120, n121, g122_0, g122_4, g122_5, g122_6, g122_7, g122_8, g122_18, g122_19, g122_20, g122_21, g122_24, g122_25, g122_28, g122_29, g122_31, g122_32, g122_33, g122_39, g122_40, g122_41, g122_45, g122_46, g122_47, g122_48, n123, n124, n125, n126, n127, n128, n129, n130, n131, n132, n133, n134, n135, n136, n137, n138, n139, n140, n141, n142, n143, n144, n145, n146, cS0 rc, r2, r3, r4, kk, ka, kb, swt, x1, eq_y]
    · have ea : stpA (tA S) (tP S) = dkA (tA S) (cutD (oD (tA S)) (oN (tA S)) (sA (oS (tA S)) (tP S))) := by
        unfold stpA
        rw [if_neg (by omega), if_neg (by omega), if_pos k0]
      rw [ea]
      exact RcH_dk rc1 x2 x4
    · have et : tR (stpS S) = tR S := if_neg (by omega)
      rw [et, x3]
      exact r1
    · have et : tH (stpS S) = tH S := if_neg (by omega)
      rw [et, e40, hI_uI_s (by decide)]
      exact r2
    · rw [e40, hI_uI_s (by decide)]
      exact r3
    · rw [e40, hI_uI_e]
    · intro o _
      rw [e43]
    · intro e; omega
    · exact ⟨fun d a1 a2 a3 a4 a5 a6 a7 => by rw [x2 d a3 a5, hI_uI_o a4], fun d a => by rw [x3]; rfl, by rw [e40, hI_uI_s (by decide)]⟩
  · -- turn
    rw [k0] at kk
    obtain ⟨h2, x1, x2, x3, x4⟩ := c_turn g1 rc1
    have e43 : hI h2 43 = hI h 43 := by rw [x2 43 (by decide) (by decide), hI_uI_o (by decide)]
    have e40 : hI h2 40 = hI (uI h 40 7 (nI (tD S + 1))) 40 := x2 40 (by decide) (by decide)
    refine ⟨h2, ?_, CR_step g cr hp e7 ?_ ?_ ?_ ?_ ?_ ?_ ?_, ?_⟩
    · unfold B_X3_doSteps_35 F_X3_doStep
      rw [tPs, pl (by omega)]
      simp (disch := omega) only [↓m1_n, li_n, li_0, li_1, lt_y, lt_n, le_y, le_n, eq_n, nL, nLe, nEq, nEm, mEn, nLm, mLn, nLem, mLen, nI_add, nI_mul, nI_sub, nI_m, ib_nI, nx_nI, gd_y, bnd_e, bind_y, ↓reduceIte, hI_uI_o, hI_uI_s, hI_uI_e, hL_uI, hI_uL, hL_uL_o, hL_uL_s, hL_uL_e, and1_a, and1_b, Bool.not_true, Bool.not_false, Nat.zero_add, Nat.add_zero, Nat.add_sub_cancel, eq_self, ne_b, g0_0, g0_1, g0_2, g0_3, g0_4, g0_5, g0_6, g0_7, g0_8, g0_9, n1, n2, g3_2, g3_3, g3_4, g3_5, g3_6, g3_7, g3_8, g3_9, n4, n5, n6, n7, n8, n9, g10_2, g10_3, g10_4, g10_5, n11, n12, n13, n14, g15_2, g15_3, g15_4, g15_5, n16, n17, n18, n19, n20, g21_0, g21_1, g21_2, g21_3, n23, g24_2, g24_3, g24_4, g24_5, n25, n26, n27, n28, n29, n30, g31_0, g31_1, g31_2, n33, g34_2, g34_3, g34_4, g34_5, n35, n36, n37, n38, n39, g40_0, g40_1, g40_2, n41, n42, n43, g44_0, g44_2, g44_3, g44_5, g44_6, g44_10, n45, n46, n47, n48, n49, n50, g51_3, g51_4, g51_5, g51_6, g51_7, n52, n53, n54, n55, n56, g57_3, g57_4, g57_5, g57_6, g57_7, n58, n59, n60, n61, n62, g63_3, n64, g65_3, n66, g67_3, n68, g69_3, n70, g71_2, g71_3, g71_4, g71_5, g71_6, g71_7, g71_8, g71_9, n72, n73, n74, n75, n76, n77, g78_2, g78_3, g78_4, g78_5, n79, n80, n81, n82, g83_2, g83_3, g83_4, g83_5, n84, n85, n86, n87, g88_2, g88_3, g88_4, g88_5, g88_6, g88_7, g88_8, g88_9, n89, n90, n91, n92, n93, n94, g95_2, g95_3, g95_4, g95_5, n96, n97, n98, n99, g100_2, g100_3, g100_4, g100_5, n101, n102, n103, n104, g105_2, g105_3, g105_4, g105_5, g105_6, g105_7, g105_8, g105_9, n106, n107, n108, n109, n110, n111, g112_2, g112_3, g112_4, g112_5, n113, n114, n115, n116, g117_2, g117_3, g117_4, g117_5, n118, n119, n120, n121, g122_0, g122_4, g122_5, g122_6, g122_7, g122_8, g122_18, g122_19, g122_20, g122_21, g122_24, g122_25, g122_28, g122_29, g122_31, g122_32, g122_33, g122_39, g122_40, g122_41, g122_45, g122_46, g122_47, g122_48, n123, n124, n125, n126, n127, n128, n129, n130, n131, n132, n133, n134, n135, n136, n137, n138, n139, n140, n141, n142, n143, n144, n145, n146, cS0 rc, r2, r3, r4, kk, ka, kb, swt, x1, eq_y]
    · have ea : stpA (tA S) (tP S) = dkA (tA S) (trnD (oD (tA S)) (oN (tA S))) := by
        unfold stpA
        rw [if_neg (by omega), if_neg (by omega), if_neg (by omega), if_pos k0]
      rw [ea]
      exact RcH_dk rc1 x2 x4
    · have et : tR (stpS S) = tR S := if_neg (by omega)
      rw [et, x3]
      exact r1
    · have et : tH (stpS S) = tH S := if_neg (by omega)
      rw [et, e40, hI_uI_s (by decide)]
      exact r2
    · rw [e40, hI_uI_s (by decide)]
      exact r3
    · rw [e40, hI_uI_e]
    · intro o _
      rw [e43]
    · intro e; omega
    · exact ⟨fun d a1 a2 a3 a4 a5 a6 a7 => by rw [x2 d a3 a5, hI_uI_o a4], fun d a => by rw [x3]; rfl, by rw [e40, hI_uI_s (by decide)]⟩
  · -- add
    rw [k0] at kk
    obtain ⟨b1, b2, b3⟩ := K.2.2.2.2.1 k0
    have WS := c_wholeSum g1 rc1 b1 b2 b3
    refine ⟨uL (uI h 40 7 (nI (tD S + 1))) 40 4 (tR S + (nI (wsm (tA S) (sA (oS (tA S)) (tP S)) (sB (oS (tA S)) (tP S)) (oN (tA S)))).toInt64), ?_, CR_step g cr hp e7 ?_ ?_ ?_ ?_ ?_ ?_ ?_, ?_⟩
    · unfold B_X3_doSteps_35 F_X3_doStep
      rw [tPs, pl (by omega)]
      simp (disch := omega) only [↓m1_n, li_n, li_0, li_1, lt_y, lt_n, le_y, le_n, eq_n, nL, nLe, nEq, nEm, mEn, nLm, mLn, nLem, mLen, nI_add, nI_mul, nI_sub, nI_m, ib_nI, nx_nI, gd_y, bnd_e, bind_y, ↓reduceIte, hI_uI_o, hI_uI_s, hI_uI_e, hL_uI, hI_uL, hL_uL_o, hL_uL_s, hL_uL_e, and1_a, and1_b, Bool.not_true, Bool.not_false, Nat.zero_add, Nat.add_zero, Nat.add_sub_cancel, eq_self, ne_b, g0_0, g0_1, g0_2, g0_3, g0_4, g0_5, g0_6, g0_7, g0_8, g0_9, n1, n2, g3_2, g3_3, g3_4, g3_5, g3_6, g3_7, g3_8, g3_9, n4, n5, n6, n7, n8, n9, g10_2, g10_3, g10_4, g10_5, n11, n12, n13, n14, g15_2, g15_3, g15_4, g15_5, n16, n17, n18, n19, n20, g21_0, g21_1, g21_2, g21_3, n23, g24_2, g24_3, g24_4, g24_5, n25, n26, n27, n28, n29, n30, g31_0, g31_1, g31_2, n33, g34_2, g34_3, g34_4, g34_5, n35, n36, n37, n38, n39, g40_0, g40_1, g40_2, n41, n42, n43, g44_0, g44_2, g44_3, g44_5, g44_6, g44_10, n45, n46, n47, n48, n49, n50, g51_3, g51_4, g51_5, g51_6, g51_7, n52, n53, n54, n55, n56, g57_3, g57_4, g57_5, g57_6, g57_7, n58, n59, n60, n61, n62, g63_3, n64, g65_3, n66, g67_3, n68, g69_3, n70, g71_2, g71_3, g71_4, g71_5, g71_6, g71_7, g71_8, g71_9, n72, n73, n74, n75, n76, n77, g78_2, g78_3, g78_4, g78_5, n79, n80, n81, n82, g83_2, g83_3, g83_4, g83_5, n84, n85, n86, n87, g88_2, g88_3, g88_4, g88_5, g88_6, g88_7, g88_8, g88_9, n89, n90, n91, n92, n93, n94, g95_2, g95_3, g95_4, g95_5, n96, n97, n98, n99, g100_2, g100_3, g100_4, g100_5, n101, n102, n103, n104, g105_2, g105_3, g105_4, g105_5, g105_6, g105_7, g105_8, g105_9, n106, n107, n108, n109, n110, n111, g112_2, g112_3, g112_4, g112_5, n113, n114, n115, n116, g117_2, g117_3, g117_4, g117_5, n118, n119, n120, n121, g122_0, g122_4, g122_5, g122_6, g122_7, g122_8, g122_18, g122_19, g122_20, g122_21, g122_24, g122_25, g122_28, g122_29, g122_31, g122_32, g122_33, g122_39, g122_40, g122_41, g122_45, g122_46, g122_47, g122_48, n123, n124, n125, n126, n127, n128, n129, n130, n131, n132, n133, n134, n135, n136, n137, n138, n139, n140, n141, n142, n143, n144, n145, n146, cS0 rc, r1, r2, r3, r4, kk, ka, kb, swt, WS, eq_y]
    · have ea : stpA (tA S) (tP S) = tA S := by
        unfold stpA
        rw [if_neg (by omega), if_neg (by omega), if_neg (by omega), if_neg (by omega)]
      rw [ea]
      exact RcH_o (fun d a _ _ _ => by rw [hI_uL, hI_uI_o a]) rc
    · have et : tR (stpS S) = tR S + (nI (wsm (tA S) (sA (oS (tA S)) (tP S)) (sB (oS (tA S)) (tP S)) (oN (tA S)))).toInt64 := if_pos k0
      rw [et, hL_uL_e]
    · have et : tH (stpS S) = tH S := if_neg (by omega)
      rw [et, hI_uL, hI_uI_s (by decide)]
      exact r2
    · rw [hI_uL, hI_uI_s (by decide)]
      exact r3
    · rw [hI_uL, hI_uI_e]
    · intro o _
      rw [hI_uL, hI_uI_o (by decide)]
    · intro e; omega
    · exact ⟨fun d a1 a2 a3 a4 a5 a6 a7 => by rw [hI_uL, hI_uI_o a4], fun d a => by rw [hL_uL_o a]; rfl, by rw [hI_uL, hI_uI_s (by decide)]⟩
  · -- loop
    rw [k0] at kk
    refine ⟨uI (uI h 40 7 (nI (tD S + 1))) 43 (tP S) (nI (sA (oS (tA S)) (tP S))), ?_, CR_step g cr hp e7 ?_ ?_ ?_ ?_ ?_ ?_ ?_, ?_⟩
    · unfold B_X3_doSteps_35 F_X3_doStep
      rw [tPs, pl (by omega)]
      simp (disch := omega) only [↓m1_n, li_n, li_0, li_1, lt_y, lt_n, le_y, le_n, eq_n, nL, nLe, nEq, nEm, mEn, nLm, mLn, nLem, mLen, nI_add, nI_mul, nI_sub, nI_m, ib_nI, nx_nI, gd_y, bnd_e, bind_y, ↓reduceIte, hI_uI_o, hI_uI_s, hI_uI_e, hL_uI, hI_uL, hL_uL_o, hL_uL_s, hL_uL_e, and1_a, and1_b, Bool.not_true, Bool.not_false, Nat.zero_add, Nat.add_zero, Nat.add_sub_cancel, eq_self, ne_b, g0_0, g0_1, g0_2, g0_3, g0_4, g0_5, g0_6, g0_7, g0_8, g0_9, n1, n2, g3_2, g3_3, g3_4, g3_5, g3_6, g3_7, g3_8, g3_9, n4, n5, n6, n7, n8, n9, g10_2, g10_3, g10_4, g10_5, n11, n12, n13, n14, g15_2, g15_3, g15_4, g15_5, n16, n17, n18, n19, n20, g21_0, g21_1, g21_2, g21_3, n23, g24_2, g24_3, g24_4, g24_5, n25, n26, n27, n28, n29, n30, g31_0, g31_1, g31_2, n33, g34_2, g34_3, g34_4, g34_5, n35, n36, n37, n38, n39, g40_0, g40_1, g40_2, n41, n42, n43, g44_0, g44_2, g44_3, g44_5, g44_6, g44_10, n45, n46, n47, n48, n49, n50, g51_3, g51_4, g51_5, g51_6, g51_7, n52, n53, n54, n55, n56, g57_3, g57_4, g57_5, g57_6, g57_7, n58, n59, n60, n61, n62, g63_3, n64, g65_3, n66, g67_3, n68, g69_3, n70, g71_2, g71_3, g71_4, g71_5, g71_6, g71_7, g71_8, g71_9, n72, n73, n74, n75, n76, n77, g78_2, g78_3, g78_4, g78_5, n79, n80, n81, n82, g83_2, g83_3, g83_4, g83_5, n84, n85, n86, n87, g88_2, g88_3, g88_4, g88_5, g88_6, g88_7, g88_8, g88_9, n89, n90, n91, n92, n93, n94, g95_2, g95_3, g95_4, g95_5, n96, n97, n98, n99, g100_2, g100_3, g100_4, g100_5, n101, n102, n103, n104, g105_2, g105_3, g105_4, g105_5, g105_6, g105_7, g105_8, g105_9, n106, n107, n108, n109, n110, n111, g112_2, g112_3, g112_4, g112_5, n113, n114, n115, n116, g117_2, g117_3, g117_4, g117_5, n118, n119, n120, n121, g122_0, g122_4, g122_5, g122_6, g122_7, g122_8, g122_18, g122_19, g122_20, g122_21, g122_24, g122_25, g122_28, g122_29, g122_31, g122_32, g122_33, g122_39, g122_40, g122_41, g122_45, g122_46, g122_47, g122_48, n123, n124, n125, n126, n127, n128, n129, n130, n131, n132, n133, n134, n135, n136, n137, n138, n139, n140, n141, n142, n143, n144, n145, n146, cS0 rc, r1, r2, r3, r4, kk, ka, kb, swt, eq_y]
    · have ea : stpA (tA S) (tP S) = tA S := by
        unfold stpA
        rw [if_neg (by omega), if_neg (by omega), if_neg (by omega), if_neg (by omega)]
      rw [ea]
      exact RcH_o (fun d a _ _ b => by rw [hI_uI_o b, hI_uI_o a]) rc
    · have et : tR (stpS S) = tR S := if_neg (by omega)
      rw [et]
      exact r1
    · have et : tH (stpS S) = tH S := if_neg (by omega)
      rw [et, hI_uI_o (by decide), hI_uI_s (by decide)]
      exact r2
    · rw [hI_uI_o (by decide), hI_uI_s (by decide)]
      exact r3
    · rw [hI_uI_o (by decide), hI_uI_e]
    · intro o ho
      rw [hI_uI_s ho, hI_uI_o (by decide)]
    · intro _
      rw [hI_uI_e]
    · exact ⟨fun d a1 a2 a3 a4 a5 a6 a7 => by rw [hI_uI_o a7, hI_uI_o a4], fun d a => rfl, by rw [hI_uI_o (by decide), hI_uI_s (by decide)]⟩
  · -- when
    rw [k0] at kk
    obtain ⟨ba, bb⟩ := K.2.2.1 (Or.inr k0)
    have HO := c_holds' g1 rc1 ba bb
    have km := cSm rc hp (by omega)
    refine ⟨uI h 40 7 (nI (tD S + 1)), ?_, CR_step g cr hp e7 ?_ ?_ ?_ ?_ ?_ ?_ ?_, f1⟩
    · rw [tPs]
      by_cases c : 0 < oN (tA S) ∧ rdN (oH (tA S) (oD (tA S) 0) (sA (oS (tA S)) (tP S))) = sB (oS (tA S)) (tP S)
      · rw [show stpP (tA S) (tP S) = tP S + 1 from if_neg (fun e => e.2 c)]
        rw [if_pos c] at HO
        unfold B_X3_doSteps_35 F_X3_doStep
        simp (disch := omega) only [↓m1_n, li_n, li_0, li_1, lt_y, lt_n, le_y, le_n, eq_n, nL, nLe, nEq, nEm, mEn, nLm, mLn, nLem, mLen, nI_add, nI_mul, nI_sub, nI_m, ib_nI, nx_nI, gd_y, bnd_e, bind_y, ↓reduceIte, hI_uI_o, hI_uI_s, hI_uI_e, hL_uI, hI_uL, hL_uL_o, hL_uL_s, hL_uL_e, and1_a, and1_b, Bool.not_true, Bool.not_false, Nat.zero_add, Nat.add_zero, Nat.add_sub_cancel, eq_self, ne_b, g0_0, g0_1, g0_2, g0_3, g0_4, g0_5, g0_6, g0_7, g0_8, g0_9, n1, n2, g3_2, g3_3, g3_4, g3_5, g3_6, g3_7, g3_8, g3_9, n4, n5, n6, n7, n8, n9, g10_2, g10_3, g10_4, g10_5, n11, n12, n13, n14, g15_2, g15_3, g15_4, g15_5, n16, n17, n18, n19, n20, g21_0, g21_1, g21_2, g21_3, n23, g24_2, g24_3, g24_4, g24_5, n25, n26, n27, n28, n29, n30, g31_0, g31_1, g31_2, n33, g34_2, g34_3, g34_4, g34_5, n35, n36, n37, n38, n39, g40_0, g40_1, g40_2, n41, n42, n43, g44_0, g44_2, g44_3, g44_5, g44_6, g44_10, n45, n46, n47, n48, n49, n50, g51_3, g51_4, g51_5, g51_6, g51_7, n52, n53, n54, n55, n56, g57_3, g57_4, g57_5, g57_6, g57_7, n58, n59, n60, n61, n62, g63_3, n64, g65_3, n66, g67_3, n68, g69_3, n70, g71_2, g71_3, g71_4, g71_5, g71_6, g71_7, g71_8, g71_9, n72, n73, n74, n75, n76, n77, g78_2, g78_3, g78_4, g78_5, n79, n80, n81, n82, g83_2, g83_3, g83_4, g83_5, n84, n85, n86, n87, g88_2, g88_3, g88_4, g88_5, g88_6, g88_7, g88_8, g88_9, n89, n90, n91, n92, n93, n94, g95_2, g95_3, g95_4, g95_5, n96, n97, n98, n99, g100_2, g100_3, g100_4, g100_5, n101, n102, n103, n104, g105_2, g105_3, g105_4, g105_5, g105_6, g105_7, g105_8, g105_9, n106, n107, n108, n109, n110, n111, g112_2, g112_3, g112_4, g112_5, n113, n114, n115, n116, g117_2, g117_3, g117_4, g117_5, n118, n119, n120, n121, g122_0, g122_4, g122_5, g122_6, g122_7, g122_8, g122_18, g122_19, g122_20, g122_21, g122_24, g122_25, g122_28, g122_29, g122_31, g122_32, g122_33, g122_39, g122_40, g122_41, g122_45, g122_46, g122_47, g122_48, n123, n124, n125, n126, n127, n128, n129, n130, n131, n132, n133, n134, n135, n136, n137, n138, n139, n140, n141, n142, n143, n144, n145, n146, cS0 rc, r1, r2, r3, r4, kk, ka, kb, swt, HO, eq_y]
      · rw [show stpP (tA S) (tP S) = sM (oS (tA S)) (tP S) + 1 from if_pos ⟨k0, c⟩]
        rw [if_neg c] at HO
        unfold B_X3_doSteps_35 F_X3_doStep
        simp (disch := omega) only [↓m1_n, li_n, li_0, li_1, lt_y, lt_n, le_y, le_n, eq_n, nL, nLe, nEq, nEm, mEn, nLm, mLn, nLem, mLen, nI_add, nI_mul, nI_sub, nI_m, ib_nI, nx_nI, gd_y, bnd_e, bind_y, ↓reduceIte, hI_uI_o, hI_uI_s, hI_uI_e, hL_uI, hI_uL, hL_uL_o, hL_uL_s, hL_uL_e, and1_a, and1_b, Bool.not_true, Bool.not_false, Nat.zero_add, Nat.add_zero, Nat.add_sub_cancel, eq_self, ne_b, g0_0, g0_1, g0_2, g0_3, g0_4, g0_5, g0_6, g0_7, g0_8, g0_9, n1, n2, g3_2, g3_3, g3_4, g3_5, g3_6, g3_7, g3_8, g3_9, n4, n5, n6, n7, n8, n9, g10_2, g10_3, g10_4, g10_5, n11, n12, n13, n14, g15_2, g15_3, g15_4, g15_5, n16, n17, n18, n19, n20, g21_0, g21_1, g21_2, g21_3, n23, g24_2, g24_3, g24_4, g24_5, n25, n26, n27, n28, n29, n30, g31_0, g31_1, g31_2, n33, g34_2, g34_3, g34_4, g34_5, n35, n36, n37, n38, n39, g40_0, g40_1, g40_2, n41, n42, n43, g44_0, g44_2, g44_3, g44_5, g44_6, g44_10, n45, n46, n47, n48, n49, n50, g51_3, g51_4, g51_5, g51_6, g51_7, n52, n53, n54, n55, n56, g57_3, g57_4, g57_5, g57_6, g57_7, n58, n59, n60, n61, n62, g63_3, n64, g65_3, n66, g67_3, n68, g69_3, n70, g71_2, g71_3, g71_4, g71_5, g71_6, g71_7, g71_8, g71_9, n72, n73, n74, n75, n76, n77, g78_2, g78_3, g78_4, g78_5, n79, n80, n81, n82, g83_2, g83_3, g83_4, g83_5, n84, n85, n86, n87, g88_2, g88_3, g88_4, g88_5, g88_6, g88_7, g88_8, g88_9, n89, n90, n91, n92, n93, n94, g95_2, g95_3, g95_4, g95_5, n96, n97, n98, n99, g100_2, g100_3, g100_4, g100_5, n101, n102, n103, n104, g105_2, g105_3, g105_4, g105_5, g105_6, g105_7, g105_8, g105_9, n106, n107, n108, n109, n110, n111, g112_2, g112_3, g112_4, g112_5, n113, n114, n115, n116, g117_2, g117_3, g117_4, g117_5, n118, n119, n120, n121, g122_0, g122_4, g122_5, g122_6, g122_7, g122_8, g122_18, g122_19, g122_20, g122_21, g122_24, g122_25, g122_28, g122_29, g122_31, g122_32, g122_33, g122_39, g122_40, g122_41, g122_45, g122_46, g122_47, g122_48, n123, n124, n125, n126, n127, n128, n129, n130, n131, n132, n133, n134, n135, n136, n137, n138, n139, n140, n141, n142, n143, n144, n145, n146, cS0 rc, r1, r2, r3, r4, kk, ka, kb, km, swt, HO, eq_y]
    · have ea : stpA (tA S) (tP S) = tA S := by
        unfold stpA
        rw [if_neg (by omega), if_neg (by omega), if_neg (by omega), if_neg (by omega)]
      rw [ea]
      exact rc1
    · have et : tR (stpS S) = tR S := if_neg (by omega)
      rw [et]
      exact r1
    · have et : tH (stpS S) = tH S := if_neg (by omega)
      rw [et, hI_uI_s (by decide)]
      exact r2
    · rw [hI_uI_s (by decide)]
      exact r3
    · rw [hI_uI_e]
    · intro o ho
      rw [hI_uI_o (by decide)]
    · intro e; omega
/-- where it ends -/
theorem c_stop {h : Hp} {q : Nat} {S : St} {i : Nat} (g : gdS q S) (cr : CR h S) (st : stpd S) (hi : i < 99998) : ∃ h', iterW (fun s : Hp × Int32 × Int32 => B_X3_doSteps_35 s.1 40 3 15 s.2.1 s.2.2) (h, nI (tP S), nI i) = some (h', nI (tD S)) ∧ RcH h' 3 (tA S) ∧ hL h' 40 4 = tR S ∧ hI h' 40 5 = tH S ∧ hI h' 40 6 = nI (if tP S < sN (oS (tA S)) then 1 else 0) ∧ FrG h h' := by
  obtain ⟨rc, r1, r2, r3, r4, r5⟩ := id cr
  obtain ⟨g1, g2, g3, g4⟩ := id g
  have h80 := g1.2.2.2.2.1
  by_cases l : tP S < sN (oS (tA S))
  · have s2 : sK (oS (tA S)) (tP S) ≠ 7 ∧ 200 ≤ tD S := by
      rcases st with e | e
      · omega
      · exact e
    have kk := cSk rc l
    have K := (g1.2.2.2.2.k l).1
    rw [if_pos l]
    refine ⟨uI h 40 6 (nI 1), (iterW_go (s' := (uI h 40 6 (nI 1), nI (tP S), nI (i + 1))) ?_).trans (iterW_end ?_), RcH_o (fun d a _ _ _ => hI_uI_o a) rc, r1, by rw [hI_uI_s (by decide)]; exact r2, hI_uI_e, ⟨fun d _ _ _ a _ _ _ => hI_uI_o a, fun _ _ => rfl, hI_uI_s (by decide)⟩⟩
    · show B_X3_doSteps_35 _ _ _ _ _ _ = _
      unfold B_X3_doSteps_35
      simp (disch := omega) only [↓m1_n, li_n, li_0, li_1, lt_y, lt_n, le_y, le_n, eq_n, nL, nLe, nEq, nEm, mEn, nLm, mLn, nLem, mLen, nI_add, nI_mul, nI_sub, nI_m, ib_nI, nx_nI, gd_y, bnd_e, bind_y, ↓reduceIte, hI_uI_o, hI_uI_s, hI_uI_e, hL_uI, hI_uL, hL_uL_o, hL_uL_s, hL_uL_e, and1_a, and1_b, Bool.not_true, Bool.not_false, Nat.zero_add, Nat.add_zero, Nat.add_sub_cancel, eq_self, ne_b, g0_0, g0_1, g0_2, g0_3, g0_4, g0_5, g0_6, g0_7, g0_8, g0_9, n1, n2, g3_2, g3_3, g3_4, g3_5, g3_6, g3_7, g3_8, g3_9, n4, n5, n6, n7, n8, n9, g10_2, g10_3, g10_4, g10_5, n11, n12, n13, n14, g15_2, g15_3, g15_4, g15_5, n16, n17, n18, n19, n20, g21_0, g21_1, g21_2, g21_3, n23, g24_2, g24_3, g24_4, g24_5, n25, n26, n27, n28, n29, n30, g31_0, g31_1, g31_2, n33, g34_2, g34_3, g34_4, g34_5, n35, n36, n37, n38, n39, g40_0, g40_1, g40_2, n41, n42, n43, g44_0, g44_2, g44_3, g44_5, g44_6, g44_10, n45, n46, n47, n48, n49, n50, g51_3, g51_4, g51_5, g51_6, g51_7, n52, n53, n54, n55, n56, g57_3, g57_4, g57_5, g57_6, g57_7, n58, n59, n60, n61, n62, g63_3, n64, g65_3, n66, g67_3, n68, g69_3, n70, g71_2, g71_3, g71_4, g71_5, g71_6, g71_7, g71_8, g71_9, n72, n73, n74, n75, n76, n77, g78_2, g78_3, g78_4, g78_5, n79, n80, n81, n82, g83_2, g83_3, g83_4, g83_5, n84, n85, n86, n87, g88_2, g88_3, g88_4, g88_5, g88_6, g88_7, g88_8, g88_9, n89, n90, n91, n92, n93, n94, g95_2, g95_3, g95_4, g95_5, n96, n97, n98, n99, g100_2, g100_3, g100_4, g100_5, n101, n102, n103, n104, g105_2, g105_3, g105_4, g105_5, g105_6, g105_7, g105_8, g105_9, n106, n107, n108, n109, n110, n111, g112_2, g112_3, g112_4, g112_5, n113, n114, n115, n116, g117_2, g117_3, g117_4, g117_5, n118, n119, n120, n121, g122_0, g122_4, g122_5, g122_6, g122_7, g122_8, g122_18, g122_19, g122_20, g122_21, g122_24, g122_25, g122_28, g122_29, g122_31, g122_32, g122_33, g122_39, g122_40, g122_41, g122_45, g122_46, g122_47, g122_48, n123, n124, n125, n126, n127, n128, n129, n130, n131, n132, n133, n134, n135, n136, n137, n138, n139, n140, n141, n142, n143, n144, n145, n146, cS0 rc, r3, r4, kk]
    · have e1 : hI (uI h 40 6 (nI 1)) 15 1 = nI (sN (oS (tA S))) := by rw [hI_uI_o (by decide)]; exact cS0 rc
      show B_X3_doSteps_35 _ _ _ _ _ _ = _
      unfold B_X3_doSteps_35
      simp (disch := omega) only [↓m1_n, li_n, li_0, li_1, lt_y, lt_n, le_y, le_n, eq_n, nL, nLe, nEq, nEm, mEn, nLm, mLn, nLem, mLen, nI_add, nI_mul, nI_sub, nI_m, ib_nI, nx_nI, gd_y, bnd_e, bind_y, ↓reduceIte, hI_uI_o, hI_uI_s, hI_uI_e, hL_uI, hI_uL, hL_uL_o, hL_uL_s, hL_uL_e, and1_a, and1_b, Bool.not_true, Bool.not_false, Nat.zero_add, Nat.add_zero, Nat.add_sub_cancel, eq_self, ne_b, g0_0, g0_1, g0_2, g0_3, g0_4, g0_5, g0_6, g0_7, g0_8, g0_9, n1, n2, g3_2, g3_3, g3_4, g3_5, g3_6, g3_7, g3_8, g3_9, n4, n5, n6, n7, n8, n9, g10_2, g10_3, g10_4, g10_5, n11, n12, n13, n14, g15_2, g15_3, g15_4, g15_5, n16, n17, n18, n19, n20, g21_0, g21_1, g21_2, g21_3, n23, g24_2, g24_3, g24_4, g24_5, n25, n26, n27, n28, n29, n30, g31_0, g31_1, g31_2, n33, g34_2, g34_3, g34_4, g34_5, n35, n36, n37, n38, n39, g40_0, g40_1, g40_2, n41, n42, n43, g44_0, g44_2, g44_3, g44_5, g44_6, g44_10, n45, n46, n47, n48, n49, n50, g51_3, g51_4, g51_5, g51_6, g51_7, n52, n53, n54, n55, n56, g57_3, g57_4, g57_5, g57_6, g57_7, n58, n59, n60, n61, n62, g63_3, n64, g65_3, n66, g67_3, n68, g69_3, n70, g71_2, g71_3, g71_4, g71_5, g71_6, g71_7, g71_8, g71_9, n72, n73, n74, n75, n76, n77, g78_2, g78_3, g78_4, g78_5, n79, n80, n81, n82, g83_2, g83_3, g83_4, g83_5, n84, n85, n86, n87, g88_2, g88_3, g88_4, g88_5, g88_6, g88_7, g88_8, g88_9, n89, n90, n91, n92, n93, n94, g95_2, g95_3, g95_4, g95_5, n96, n97, n98, n99, g100_2, g100_3, g100_4, g100_5, n101, n102, n103, n104, g105_2, g105_3, g105_4, g105_5, g105_6, g105_7, g105_8, g105_9, n106, n107, n108, n109, n110, n111, g112_2, g112_3, g112_4, g112_5, n113, n114, n115, n116, g117_2, g117_3, g117_4, g117_5, n118, n119, n120, n121, g122_0, g122_4, g122_5, g122_6, g122_7, g122_8, g122_18, g122_19, g122_20, g122_21, g122_24, g122_25, g122_28, g122_29, g122_31, g122_32, g122_33, g122_39, g122_40, g122_41, g122_45, g122_46, g122_47, g122_48, n123, n124, n125, n126, n127, n128, n129, n130, n131, n132, n133, n134, n135, n136, n137, n138, n139, n140, n141, n142, n143, n144, n145, n146, e1, r4]
  · rw [if_neg l]
    refine ⟨h, iterW_end ?_, rc, r1, r2, r3, FrG.rf⟩
    show B_X3_doSteps_35 _ _ _ _ _ _ = _
    unfold B_X3_doSteps_35
    simp (disch := omega) only [↓m1_n, li_n, li_0, li_1, lt_y, lt_n, le_y, le_n, eq_n, nL, nLe, nEq, nEm, mEn, nLm, mLn, nLem, mLen, nI_add, nI_mul, nI_sub, nI_m, ib_nI, nx_nI, gd_y, bnd_e, bind_y, ↓reduceIte, hI_uI_o, hI_uI_s, hI_uI_e, hL_uI, hI_uL, hL_uL_o, hL_uL_s, hL_uL_e, and1_a, and1_b, Bool.not_true, Bool.not_false, Nat.zero_add, Nat.add_zero, Nat.add_sub_cancel, eq_self, ne_b, g0_0, g0_1, g0_2, g0_3, g0_4, g0_5, g0_6, g0_7, g0_8, g0_9, n1, n2, g3_2, g3_3, g3_4, g3_5, g3_6, g3_7, g3_8, g3_9, n4, n5, n6, n7, n8, n9, g10_2, g10_3, g10_4, g10_5, n11, n12, n13, n14, g15_2, g15_3, g15_4, g15_5, n16, n17, n18, n19, n20, g21_0, g21_1, g21_2, g21_3, n23, g24_2, g24_3, g24_4, g24_5, n25, n26, n27, n28, n29, n30, g31_0, g31_1, g31_2, n33, g34_2, g34_3, g34_4, g34_5, n35, n36, n37, n38, n39, g40_0, g40_1, g40_2, n41, n42, n43, g44_0, g44_2, g44_3, g44_5, g44_6, g44_10, n45, n46, n47, n48, n49, n50, g51_3, g51_4, g51_5, g51_6, g51_7, n52, n53, n54, n55, n56, g57_3, g57_4, g57_5, g57_6, g57_7, n58, n59, n60, n61, n62, g63_3, n64, g65_3, n66, g67_3, n68, g69_3, n70, g71_2, g71_3, g71_4, g71_5, g71_6, g71_7, g71_8, g71_9, n72, n73, n74, n75, n76, n77, g78_2, g78_3, g78_4, g78_5, n79, n80, n81, n82, g83_2, g83_3, g83_4, g83_5, n84, n85, n86, n87, g88_2, g88_3, g88_4, g88_5, g88_6, g88_7, g88_8, g88_9, n89, n90, n91, n92, n93, n94, g95_2, g95_3, g95_4, g95_5, n96, n97, n98, n99, g100_2, g100_3, g100_4, g100_5, n101, n102, n103, n104, g105_2, g105_3, g105_4, g105_5, g105_6, g105_7, g105_8, g105_9, n106, n107, n108, n109, n110, n111, g112_2, g112_3, g112_4, g112_5, n113, n114, n115, n116, g117_2, g117_3, g117_4, g117_5, n118, n119, n120, n121, g122_0, g122_4, g122_5, g122_6, g122_7, g122_8, g122_18, g122_19, g122_20, g122_21, g122_24, g122_25, g122_28, g122_29, g122_31, g122_32, g122_33, g122_39, g122_40, g122_41, g122_45, g122_46, g122_47, g122_48, n123, n124, n125, n126, n127, n128, n129, n130, n131, n132, n133, n134, n135, n136, n137, n138, n139, n140, n141, n142, n143, n144, n145, n146, cS0 rc, r4]
/-- the whole run of the component -/
theorem c_runL {q : Nat} : ∀ n S h i, gdS q S → meS S ≤ n → CR h S → i + n < 99998 → ∃ h', iterW (fun s : Hp × Int32 × Int32 => B_X3_doSteps_35 s.1 40 3 15 s.2.1 s.2.2) (h, nI (tP S), nI i) = some (h', nI (tD (finN n S))) ∧ RcH h' 3 (tA (finN n S)) ∧ hL h' 40 4 = tR (finN n S) ∧ hI h' 40 5 = tH (finN n S) ∧ hI h' 40 6 = nI (if tP (finN n S) < sN (oS (tA (finN n S))) then 1 else 0) ∧ FrG h h' := by
  intro n
  induction n with
  | zero =>
    intro S h i g m cr hi
    by_cases c : stpd S
    · rw [finN_y c]
      exact c_stop g cr c (by omega)
    · have := (tr_good g c).2
      omega
  | succ n ih =>
    intro S h i g m cr hi
    by_cases c : stpd S
    · rw [finN_y c]
      exact c_stop g cr c (by omega)
    · rw [finN_n c]
      have tg := tr_good g c
      have hp : tP S < sN (oS (tA S)) := Nat.lt_of_not_le (fun e => c (Or.inl e))
      obtain ⟨h1, x1, x2, x3⟩ : ∃ h', B_X3_doSteps_35 h 40 3 15 (nI (tP S)) (nI i) = some (.inl (h', nI (tP (trS S)), nI (i + 1))) ∧ CR h' (trS S) ∧ FrG h h' := by
        by_cases e7 : sK (oS (tA S)) (tP S) = 7
        · exact c_end g cr hp e7 (by omega)
        · exact c_stp g cr hp e7 (Nat.lt_of_not_le (fun e => c (Or.inr ⟨e7, e⟩))) (by omega)
      obtain ⟨h2, y1, y2, y3, y4, y5, y6⟩ := ih (trS S) h1 (i + 1) tg.1 (by omega) x2 (by omega)
      exact ⟨h2, (iterW_go x1).trans y1, y2, y3, y4, y5, x3.trans y6⟩
