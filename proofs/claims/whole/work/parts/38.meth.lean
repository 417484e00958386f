noncomputable def F_X12_does (h : Hp) (x0 : Nat) (x1 : Int32) : Option (Hp × Int32) :=
  gd (ib ((((436 : Int32)) + (((4 : Int32)) * x1)) + ((1 : Int32))) (LEN (GR x0 0))) (bnd (hI h (GR x0 0) (nx ((((436 : Int32)) + (((4 : Int32)) * x1)) + ((1 : Int32))))) (fun v1 => gd (ib ((((436 : Int32)) + (((4 : Int32)) * x1)) + ((2 : Int32))) (LEN (GR x0 0))) (bnd (hI h (GR x0 0) (nx ((((436 : Int32)) + (((4 : Int32)) * x1)) + ((2 : Int32))))) (fun v2 => gd (ib (((436 : Int32)) + (((4 : Int32)) * x1)) (LEN (GR x0 0))) (swt (hI h (GR x0 0) (nx (((436 : Int32)) + (((4 : Int32)) * x1)))) 0 [if v2 = ((1 : Int32)) then (F_X12_passesDeck h x0 v1 ((1 : Int32))).bind (fun r4 => some ((uI r4.1 x0 37 ((hI h x0 37) + r4.2), x1 + ((1 : Int32))))) else (F_X12_passesDeck h x0 v1 ((0 : Int32))).bind (fun r3 => some ((uI r3.1 x0 37 ((hI h x0 37) + r3.2), x1 + ((1 : Int32))))), (F_X12_puts h x0 v1 v2).bind (fun r5 => some ((r5, x1 + ((1 : Int32))))), (F_X12_cuts h x0 v1).bind (fun r6 => some ((r6, x1 + ((1 : Int32))))), (F_X12_turns h x0).bind (fun r7 => some ((r7, x1 + ((1 : Int32))))), (F_X12_wholeSum h x0 v1 v2).bind (fun r8 => some ((uL h x0 36 ((hL h x0 36) + r8.toInt64), x1 + ((1 : Int32))))), gd (ib x1 (LEN (GR x0 21))) (some ((uI h (GR x0 21) (nx x1) v1, x1 + ((1 : Int32)))))] (gd (ib ((0 : Int32)) (LEN (GR x0 0))) (if (hI h (GR x0 0) (nx ((0 : Int32)))) = 0 then gd (ib ((((436 : Int32)) + (((4 : Int32)) * x1)) + ((3 : Int32))) (LEN (GR x0 0))) (some ((h, (hI h (GR x0 0) (nx ((((436 : Int32)) + (((4 : Int32)) * x1)) + ((3 : Int32))))) + ((1 : Int32))))) else gd (ib ((338 : Int32)) (LEN (GR x0 0))) ((F_X12_reads h x0 (hI h (GR x0 0) (nx ((338 : Int32)))) v1).bind (fun r9 => if r9 = v2 then some ((h, x1 + ((1 : Int32)))) else gd (ib ((((436 : Int32)) + (((4 : Int32)) * x1)) + ((3 : Int32))) (LEN (GR x0 0))) (some ((h, (hI h (GR x0 0) (nx ((((436 : Int32)) + (((4 : Int32)) * x1)) + ((3 : Int32))))) + ((1 : Int32))))))))))))))
set_option maxHeartbeats 4000000 in
set_option maxRecDepth 100000 in
theorem go_X12_does {Γ : Cx} (hO : Ok Γ mX12_does) (h : Hp) (x0 : Nat) (x1 : Int32) (hx0 : Is x0 12) {K : Hp × Int32 → Prop} (hR : ∀ r, K r → emHI r = tgt Γ) : EG Γ mX12_does 0 [(0, rf Γ x0), (1, .int x1)] [] h (F_X12_does h x0 x1) K := by
  unfold F_X12_does
  refine x_sipush hO (v := 436) (by decide) dX12_does_0 ?_
  refine x_iconst hO (v := 4) (by decide) dX12_does_3 ?_
  refine x_iload_n hO 1 rfl rfl dX12_does_4 ?_
  refine x_imul hO dX12_does_5 ?_
  refine x_iadd hO dX12_does_6 ?_
  refine x_istore_n hO rfl [(2, .int (((436 : Int32)) + (((4 : Int32)) * x1))), (0, rf Γ x0), (1, .int x1)] dX12_does_7 (by decide) rfl ?_
  refine x_aload_n hO 1 rfl rfl dX12_does_8 ?_
  refine x_getR hO fl_RX12_7 hx0 dX12_does_9 ?_
  refine x_iload_n hO 0 rfl rfl dX12_does_12 ?_
  refine x_iconst hO (v := 1) (by decide) dX12_does_13 ?_
  refine x_iadd hO dX12_does_14 ?_
  refine x_iald hO (gr_12_0 hx0) dX12_does_15 ?_
  refine x_bnd ?_
  generalize hI h (GR x0 0) (nx ((((436 : Int32)) + (((4 : Int32)) * x1)) + ((1 : Int32)))) = v1
  refine x_istore_n hO rfl [(3, .int v1), (2, .int (((436 : Int32)) + (((4 : Int32)) * x1))), (0, rf Γ x0), (1, .int x1)] dX12_does_16 (by decide) rfl ?_
  refine x_aload_n hO 2 rfl rfl dX12_does_17 ?_
  refine x_getR hO fl_RX12_7 hx0 dX12_does_18 ?_
  refine x_iload_n hO 1 rfl rfl dX12_does_21 ?_
  refine x_iconst hO (v := 2) (by decide) dX12_does_22 ?_
  refine x_iadd hO dX12_does_23 ?_
  refine x_iald hO (gr_12_0 hx0) dX12_does_24 ?_
  refine x_bnd ?_
  generalize hI h (GR x0 0) (nx ((((436 : Int32)) + (((4 : Int32)) * x1)) + ((2 : Int32)))) = v2
  refine x_istore hO [(4, .int v2), (3, .int v1), (2, .int (((436 : Int32)) + (((4 : Int32)) * x1))), (0, rf Γ x0), (1, .int x1)] dX12_does_25 (by decide) rfl ?_
  refine x_aload_n hO 3 rfl rfl dX12_does_27 ?_
  refine x_getR hO fl_RX12_7 hx0 dX12_does_28 ?_
  refine x_iload_n hO 2 rfl rfl dX12_does_31 ?_
  refine x_iald hO (gr_12_0 hx0) dX12_does_32 ?_
  refine x_tsw hO (tgs := [72, 100, 110, 118, 125, 145]) (dt := 155) dX12_does_33 rfl (by decide) (by decide) ⟨?_, ?_, ?_, ?_, ?_, ?_, trivial⟩ ?_
  · refine x_aload_n hO 3 rfl rfl dX12_does_72 ?_
    refine x_dup_r hO dX12_does_73 ?_
    refine x_getI hO fl_RX12_343 hx0 dX12_does_74 ?_
    refine x_aload_n hO 3 rfl rfl dX12_does_77 ?_
    refine x_iload_n hO 1 rfl rfl dX12_does_78 ?_
    refine x_iload hO 0 rfl dX12_does_79 ?_
    refine x_iconst hO (v := 1) (by decide) dX12_does_81 ?_
    refine x_icmp_ne hO (tg := 89) dX12_does_82 (by decide) ?_ ?_
    · refine x_iconst hO (v := 0) (by decide) dX12_does_89 ?_
      refine y_HI (x_callV hO lv_RX12_293 hx0 vc_12 (by decide) (As := [.int v1, .int ((0 : Int32))]) rfl (Nat.le_of_ble_eq_true rfl) (ok_X12_passesDeck (cG Γ) h x0 v1 ((0 : Int32)) hx0) dX12_does_90 rfl (Nat.le_of_ble_eq_true rfl)) (fun r3 => ?_)
      refine x_iadd hO dX12_does_93 ?_
      refine x_putI hO fl_RX12_343 hx0 dX12_does_94 ?_
      refine x_goto hO (tg := 193) dX12_does_97 (by decide) ?_
      refine x_iload_n hO 4 rfl rfl dX12_does_193 ?_
      refine x_iconst hO (v := 1) (by decide) dX12_does_194 ?_
      refine x_iadd hO dX12_does_195 ?_
      exact x_iret hO rfl dX12_does_196 (hR _)
    · refine x_iconst hO (v := 1) (by decide) dX12_does_85 ?_
      refine x_goto hO (tg := 90) dX12_does_86 (by decide) ?_
      refine y_HI (x_callV hO lv_RX12_293 hx0 vc_12 (by decide) (As := [.int v1, .int ((1 : Int32))]) rfl (Nat.le_of_ble_eq_true rfl) (ok_X12_passesDeck (cG Γ) h x0 v1 ((1 : Int32)) hx0) dX12_does_90 rfl (Nat.le_of_ble_eq_true rfl)) (fun r4 => ?_)
      refine x_iadd hO dX12_does_93 ?_
      refine x_putI hO fl_RX12_343 hx0 dX12_does_94 ?_
      refine x_goto hO (tg := 193) dX12_does_97 (by decide) ?_
      refine x_iload_n hO 4 rfl rfl dX12_does_193 ?_
      refine x_iconst hO (v := 1) (by decide) dX12_does_194 ?_
      refine x_iadd hO dX12_does_195 ?_
      exact x_iret hO rfl dX12_does_196 (hR _)
  · refine x_aload_n hO 3 rfl rfl dX12_does_100 ?_
    refine x_iload_n hO 1 rfl rfl dX12_does_101 ?_
    refine x_iload hO 0 rfl dX12_does_102 ?_
    refine y_HV (x_callV hO lv_RX12_346 hx0 vc_12 (by decide) (As := [.int v1, .int v2]) rfl (Nat.le_of_ble_eq_true rfl) (ok_X12_puts (cG Γ) h x0 v1 v2 hx0) dX12_does_104 rfl (Nat.le_of_ble_eq_true rfl)) (fun r5 => ?_)
    refine x_goto hO (tg := 193) dX12_does_107 (by decide) ?_
    refine x_iload_n hO 4 rfl rfl dX12_does_193 ?_
    refine x_iconst hO (v := 1) (by decide) dX12_does_194 ?_
    refine x_iadd hO dX12_does_195 ?_
    exact x_iret hO rfl dX12_does_196 (hR _)
  · refine x_aload_n hO 3 rfl rfl dX12_does_110 ?_
    refine x_iload_n hO 1 rfl rfl dX12_does_111 ?_
    refine y_HV (x_callV hO lv_RX12_350 hx0 vc_12 (by decide) (As := [.int v1]) rfl (Nat.le_of_ble_eq_true rfl) (ok_X12_cuts (cG Γ) h x0 v1 hx0) dX12_does_112 rfl (Nat.le_of_ble_eq_true rfl)) (fun r6 => ?_)
    refine x_goto hO (tg := 193) dX12_does_115 (by decide) ?_
    refine x_iload_n hO 4 rfl rfl dX12_does_193 ?_
    refine x_iconst hO (v := 1) (by decide) dX12_does_194 ?_
    refine x_iadd hO dX12_does_195 ?_
    exact x_iret hO rfl dX12_does_196 (hR _)
  · refine x_aload_n hO 3 rfl rfl dX12_does_118 ?_
    refine y_HV (x_callV hO lv_RX12_353 hx0 vc_12 (by decide) (As := []) rfl (Nat.le_of_ble_eq_true rfl) (ok_X12_turns (cG Γ) h x0 hx0) dX12_does_119 rfl (Nat.le_of_ble_eq_true rfl)) (fun r7 => ?_)
    refine x_goto hO (tg := 193) dX12_does_122 (by decide) ?_
    refine x_iload_n hO 4 rfl rfl dX12_does_193 ?_
    refine x_iconst hO (v := 1) (by decide) dX12_does_194 ?_
    refine x_iadd hO dX12_does_195 ?_
    exact x_iret hO rfl dX12_does_196 (hR _)
  · refine x_aload_n hO 3 rfl rfl dX12_does_125 ?_
    refine x_dup_r hO dX12_does_126 ?_
    refine x_getL hO fl_RX12_356 hx0 dX12_does_127 ?_
    refine x_aload_n hO 3 rfl rfl dX12_does_130 ?_
    refine x_iload_n hO 1 rfl rfl dX12_does_131 ?_
    refine x_iload hO 0 rfl dX12_does_132 ?_
    refine y_PI (x_callV hO lv_RX12_330 hx0 vc_12 (by decide) (As := [.int v1, .int v2]) rfl (Nat.le_of_ble_eq_true rfl) (ok_X12_wholeSum (cG Γ) h x0 v1 v2 hx0) dX12_does_134 rfl (Nat.le_of_ble_eq_true rfl)) (fun r8 => ?_)
    refine x_i2l hO dX12_does_137 ?_
    refine x_ladd hO dX12_does_138 ?_
    refine x_putL hO fl_RX12_356 hx0 dX12_does_139 ?_
    refine x_goto hO (tg := 193) dX12_does_142 (by decide) ?_
    refine x_iload_n hO 4 rfl rfl dX12_does_193 ?_
    refine x_iconst hO (v := 1) (by decide) dX12_does_194 ?_
    refine x_iadd hO dX12_does_195 ?_
    exact x_iret hO rfl dX12_does_196 (hR _)
  · refine x_aload_n hO 3 rfl rfl dX12_does_145 ?_
    refine x_getR hO fl_RX12_50 hx0 dX12_does_146 ?_
    refine x_iload_n hO 4 rfl rfl dX12_does_149 ?_
    refine x_iload_n hO 1 rfl rfl dX12_does_150 ?_
    refine x_iast hO (gr_12_21 hx0) dX12_does_151 ?_
    refine x_goto hO (tg := 193) dX12_does_152 (by decide) ?_
    refine x_iload_n hO 4 rfl rfl dX12_does_193 ?_
    refine x_iconst hO (v := 1) (by decide) dX12_does_194 ?_
    refine x_iadd hO dX12_does_195 ?_
    exact x_iret hO rfl dX12_does_196 (hR _)
  · refine x_aload_n hO 3 rfl rfl dX12_does_155 ?_
    refine x_getR hO fl_RX12_7 hx0 dX12_does_156 ?_
    refine x_iconst hO (v := 0) (by decide) dX12_does_159 ?_
    refine x_iald hO (gr_12_0 hx0) dX12_does_160 ?_
    refine x_if_eq hO (tg := 182) dX12_does_161 (by decide) ?_ ?_
    · refine x_aload_n hO 3 rfl rfl dX12_does_182 ?_
      refine x_getR hO fl_RX12_7 hx0 dX12_does_183 ?_
      refine x_iload_n hO 2 rfl rfl dX12_does_186 ?_
      refine x_iconst hO (v := 3) (by decide) dX12_does_187 ?_
      refine x_iadd hO dX12_does_188 ?_
      refine x_iald hO (gr_12_0 hx0) dX12_does_189 ?_
      refine x_iconst hO (v := 1) (by decide) dX12_does_190 ?_
      refine x_iadd hO dX12_does_191 ?_
      exact x_iret hO rfl dX12_does_192 (hR _)
    · refine x_aload_n hO 3 rfl rfl dX12_does_164 ?_
      refine x_aload_n hO 3 rfl rfl dX12_does_165 ?_
      refine x_getR hO fl_RX12_7 hx0 dX12_does_166 ?_
      refine x_sipush hO (v := 338) (by decide) dX12_does_169 ?_
      refine x_iald hO (gr_12_0 hx0) dX12_does_172 ?_
      refine x_iload_n hO 1 rfl rfl dX12_does_173 ?_
      refine y_PI (x_callV hO lv_RX12_155 hx0 vc_12 (by decide) (As := [.int (hI h (GR x0 0) (nx ((338 : Int32)))), .int v1]) rfl (Nat.le_of_ble_eq_true rfl) (ok_X12_reads (cG Γ) h x0 (hI h (GR x0 0) (nx ((338 : Int32)))) v1 hx0) dX12_does_174 rfl (Nat.le_of_ble_eq_true rfl)) (fun r9 => ?_)
      refine x_iload hO 0 rfl dX12_does_177 ?_
      refine x_icmp_eq hO (tg := 193) dX12_does_179 (by decide) ?_ ?_
      · refine x_iload_n hO 4 rfl rfl dX12_does_193 ?_
        refine x_iconst hO (v := 1) (by decide) dX12_does_194 ?_
        refine x_iadd hO dX12_does_195 ?_
        exact x_iret hO rfl dX12_does_196 (hR _)
      · refine x_aload_n hO 3 rfl rfl dX12_does_182 ?_
        refine x_getR hO fl_RX12_7 hx0 dX12_does_183 ?_
        refine x_iload_n hO 2 rfl rfl dX12_does_186 ?_
        refine x_iconst hO (v := 3) (by decide) dX12_does_187 ?_
        refine x_iadd hO dX12_does_188 ?_
        refine x_iald hO (gr_12_0 hx0) dX12_does_189 ?_
        refine x_iconst hO (v := 1) (by decide) dX12_does_190 ?_
        refine x_iadd hO dX12_does_191 ?_
        exact x_iret hO rfl dX12_does_192 (hR _)
theorem ok_X12_does (G : Gl) (h : Hp) (x0 : Nat) (x1 : Int32) (hx0 : Is x0 12) : CN G mX12_does [.ref (gb G + x0), .int x1] h ((F_X12_does h x0 x1).map (emHI)) := CN.fn pn_RX12 (Nat.le_of_ble_eq_true rfl) (fun Γ hG hO => by subst hG; exact go_X12_does hO h x0 x1 hx0 (fun _ q => q))
noncomputable def J_X12_goesThrough_193 (h : Hp) (x0 : Nat) (x1 : Int32) (x2 : Int32) (x3 : Int32) (x4 : Int32) (x5 : Int32) : Option ((Hp × Int32) ⊕ (Hp)) :=
  (F_X12_misreads h x0 (x5 / ((3 : Int32))) x1 (x5 - x5 / ((3 : Int32)) * ((3 : Int32))) ((-1 : Int32))).bind (fun r1 => some (.inl (r1, x5 + (1 : Int32))))
set_option maxHeartbeats 4000000 in
set_option maxRecDepth 100000 in
theorem go_X12_goesThrough_J193 {Γ : Cx} (hO : Ok Γ mX12_goesThrough) (h : Hp) (x0 : Nat) (x1 : Int32) (x2 : Int32) (x3 : Int32) (x4 : Int32) (x5 : Int32) (hx0 : Is x0 12) {K : (Hp × Int32) ⊕ (Hp) → Prop} (hC : ∀ (h : Hp) (x5 : Int32), K (.inl (h, x5)) → EW Γ mX12_goesThrough 112 [(0, rf Γ x0), (1, .int x1), (2, .int x2), (3, .int x3), (4, .int x4), (5, .int x5)] [] h) (hE213 : ∀ (h : Hp), K (.inr h) → EW Γ mX12_goesThrough 213 [(0, rf Γ x0), (1, .int x1), (2, .int x2), (3, .int x3), (4, .int x4)] [] h) : EG Γ mX12_goesThrough 193 [(0, rf Γ x0), (1, .int x1), (2, .int x2), (3, .int x3), (4, .int x4), (5, .int x5)] [] h (J_X12_goesThrough_193 h x0 x1 x2 x3 x4 x5) K := by
  unfold J_X12_goesThrough_193
  refine x_aload_n hO 0 rfl rfl dX12_goesThrough_193 ?_
  refine x_iload hO 5 rfl dX12_goesThrough_194 ?_
  refine x_iconst hO (v := 3) (by decide) dX12_goesThrough_196 ?_
  refine x_idivc hO (by decide) dX12_goesThrough_197 ?_
  refine x_iload_n hO 1 rfl rfl dX12_goesThrough_198 ?_
  refine x_iload hO 5 rfl dX12_goesThrough_199 ?_
  refine x_iconst hO (v := 3) (by decide) dX12_goesThrough_201 ?_
  refine x_iremc hO (by decide) dX12_goesThrough_202 ?_
  refine x_iconst hO (v := -1) (by decide) dX12_goesThrough_203 ?_
  refine y_HV (x_callV hO lv_RX12_384 hx0 vc_12 (by decide) (As := [.int (x5 / ((3 : Int32))), .int x1, .int (x5 - x5 / ((3 : Int32)) * ((3 : Int32))), .int ((-1 : Int32))]) rfl (Nat.le_of_ble_eq_true rfl) (ok_X12_misreads (cG Γ) h x0 (x5 / ((3 : Int32))) x1 (x5 - x5 / ((3 : Int32)) * ((3 : Int32))) ((-1 : Int32)) hx0) dX12_goesThrough_204 rfl (Nat.le_of_ble_eq_true rfl)) (fun r1 => ?_)
  refine x_iinc hO 5 (v := 1) [(5, .int (x5 + (1 : Int32))), (0, rf Γ x0), (1, .int x1), (2, .int x2), (3, .int x3), (4, .int x4)] dX12_goesThrough_207 rfl (by decide) (by decide) rfl ?_
  refine x_goto hO (tg := 112) dX12_goesThrough_210 (by decide) ?_
  exact x_leafs [1, 2, 3, 4, 5, 0] rfl (hC r1 (x5 + (1 : Int32)))
noncomputable def B_X12_goesThrough_112 (h : Hp) (x0 : Nat) (x1 : Int32) (x2 : Int32) (x3 : Int32) (x4 : Int32) (x5 : Int32) : Option ((Hp × Int32) ⊕ (Hp)) :=
  gd (ib ((0 : Int32)) (LEN (GR x0 0))) (if (((3 : Int32)) * (hI h (GR x0 0) (nx ((0 : Int32))))) ≤ x5 then some (.inr h) else if x3 = ((2 : Int32)) then (F_X12_readsBy h x0 (x5 / ((3 : Int32))) x1 (x5 - x5 / ((3 : Int32)) * ((3 : Int32)))).bind (fun r1 => if r1 = ((-2 : Int32)) then some (.inl (h, x5 + (1 : Int32))) else (F_X12_misreads h x0 (x5 / ((3 : Int32))) x1 (x5 - x5 / ((3 : Int32)) * ((3 : Int32))) ((1 : Int32))).bind (fun r2 => (F_X12_isTold r2 x0 x2).bind (fun r3 => if r3 = 0 then J_X12_goesThrough_193 r2 x0 x1 x2 x3 x4 x5 else (F_X12_keepsSet r2 x0 (x4 / ((3 : Int32))) (x4 - x4 / ((3 : Int32)) * ((3 : Int32))) (x5 / ((3 : Int32))) (x5 - x5 / ((3 : Int32)) * ((3 : Int32)))).bind (fun r4 => J_X12_goesThrough_193 r4 x0 x1 x2 x3 x4 x5)))) else some (.inr h))
noncomputable def L_X12_goesThrough_112 (h : Hp) (x0 : Nat) (x1 : Int32) (x2 : Int32) (x3 : Int32) (x4 : Int32) (x5 : Int32) : Option (Hp) := iterW (fun s : Hp × Int32 => B_X12_goesThrough_112 s.1 x0 x1 x2 x3 x4 s.2) (h, x5)
set_option maxHeartbeats 4000000 in
set_option maxRecDepth 100000 in
theorem go_X12_goesThrough_B112 {Γ : Cx} (hO : Ok Γ mX12_goesThrough) (h : Hp) (x0 : Nat) (x1 : Int32) (x2 : Int32) (x3 : Int32) (x4 : Int32) (x5 : Int32) (hx0 : Is x0 12) {K : (Hp × Int32) ⊕ (Hp) → Prop} (hC : ∀ (h : Hp) (x5 : Int32), K (.inl (h, x5)) → EW Γ mX12_goesThrough 112 [(0, rf Γ x0), (1, .int x1), (2, .int x2), (3, .int x3), (4, .int x4), (5, .int x5)] [] h) (hE213 : ∀ (h : Hp), K (.inr h) → EW Γ mX12_goesThrough 213 [(0, rf Γ x0), (1, .int x1), (2, .int x2), (3, .int x3), (4, .int x4)] [] h) : EG Γ mX12_goesThrough 112 [(0, rf Γ x0), (1, .int x1), (2, .int x2), (3, .int x3), (4, .int x4), (5, .int x5)] [] h (B_X12_goesThrough_112 h x0 x1 x2 x3 x4 x5) K := by
  unfold B_X12_goesThrough_112
  refine x_iload hO 5 rfl dX12_goesThrough_112 ?_
  refine x_iconst hO (v := 3) (by decide) dX12_goesThrough_114 ?_
  refine x_aload_n hO 0 rfl rfl dX12_goesThrough_115 ?_
  refine x_getR hO fl_RX12_7 hx0 dX12_goesThrough_116 ?_
  refine x_iconst hO (v := 0) (by decide) dX12_goesThrough_119 ?_
  refine x_iald hO (gr_12_0 hx0) dX12_goesThrough_120 ?_
  refine x_imul hO dX12_goesThrough_121 ?_
  refine x_icmp_ge hO (tg := 213) dX12_goesThrough_122 (by decide) ?_ ?_
  · exact x_leafs [0, 1, 2, 3, 4] rfl (hE213 h)
  · refine x_iload_n hO 3 rfl rfl dX12_goesThrough_125 ?_
    refine x_iconst hO (v := 2) (by decide) dX12_goesThrough_126 ?_
    refine x_icmp_ne hO (tg := 213) dX12_goesThrough_127 (by decide) ?_ ?_
    · exact x_leafs [0, 1, 2, 3, 4] rfl (hE213 h)
    · refine x_aload_n hO 0 rfl rfl dX12_goesThrough_130 ?_
      refine x_iload hO 5 rfl dX12_goesThrough_131 ?_
      refine x_iconst hO (v := 3) (by decide) dX12_goesThrough_133 ?_
      refine x_idivc hO (by decide) dX12_goesThrough_134 ?_
      refine x_iload_n hO 1 rfl rfl dX12_goesThrough_135 ?_
      refine x_iload hO 5 rfl dX12_goesThrough_136 ?_
      refine x_iconst hO (v := 3) (by decide) dX12_goesThrough_138 ?_
      refine x_iremc hO (by decide) dX12_goesThrough_139 ?_
      refine y_PI (x_callV hO lv_RX12_368 hx0 vc_12 (by decide) (As := [.int (x5 / ((3 : Int32))), .int x1, .int (x5 - x5 / ((3 : Int32)) * ((3 : Int32)))]) rfl (Nat.le_of_ble_eq_true rfl) (ok_X12_readsBy (cG Γ) h x0 (x5 / ((3 : Int32))) x1 (x5 - x5 / ((3 : Int32)) * ((3 : Int32))) hx0) dX12_goesThrough_140 rfl (Nat.le_of_ble_eq_true rfl)) (fun r1 => ?_)
      refine x_bipush hO (v := -2) (by decide) dX12_goesThrough_143 ?_
      refine x_icmp_ne hO (tg := 151) dX12_goesThrough_145 (by decide) ?_ ?_
      · refine x_aload_n hO 0 rfl rfl dX12_goesThrough_151 ?_
        refine x_iload hO 5 rfl dX12_goesThrough_152 ?_
        refine x_iconst hO (v := 3) (by decide) dX12_goesThrough_154 ?_
        refine x_idivc hO (by decide) dX12_goesThrough_155 ?_
        refine x_iload_n hO 1 rfl rfl dX12_goesThrough_156 ?_
        refine x_iload hO 5 rfl dX12_goesThrough_157 ?_
        refine x_iconst hO (v := 3) (by decide) dX12_goesThrough_159 ?_
        refine x_iremc hO (by decide) dX12_goesThrough_160 ?_
        refine x_iconst hO (v := 1) (by decide) dX12_goesThrough_161 ?_
        refine y_HV (x_callV hO lv_RX12_384 hx0 vc_12 (by decide) (As := [.int (x5 / ((3 : Int32))), .int x1, .int (x5 - x5 / ((3 : Int32)) * ((3 : Int32))), .int ((1 : Int32))]) rfl (Nat.le_of_ble_eq_true rfl) (ok_X12_misreads (cG Γ) h x0 (x5 / ((3 : Int32))) x1 (x5 - x5 / ((3 : Int32)) * ((3 : Int32))) ((1 : Int32)) hx0) dX12_goesThrough_162 rfl (Nat.le_of_ble_eq_true rfl)) (fun r2 => ?_)
        refine x_aload_n hO 0 rfl rfl dX12_goesThrough_165 ?_
        refine x_iload_n hO 2 rfl rfl dX12_goesThrough_166 ?_
        refine y_PI (x_callV hO lv_RX12_377 hx0 vc_12 (by decide) (As := [.int x2]) rfl (Nat.le_of_ble_eq_true rfl) (ok_X12_isTold (cG Γ) r2 x0 x2 hx0) dX12_goesThrough_167 rfl (Nat.le_of_ble_eq_true rfl)) (fun r3 => ?_)
        refine x_if_eq hO (tg := 193) dX12_goesThrough_170 (by decide) ?_ ?_
        · exact x_sub [0, 1, 2, 3, 4, 5] rfl (go_X12_goesThrough_J193 hO r2 x0 x1 x2 x3 x4 x5 hx0 hC hE213)
        · refine x_aload_n hO 0 rfl rfl dX12_goesThrough_173 ?_
          refine x_iload hO 4 rfl dX12_goesThrough_174 ?_
          refine x_iconst hO (v := 3) (by decide) dX12_goesThrough_176 ?_
          refine x_idivc hO (by decide) dX12_goesThrough_177 ?_
          refine x_iload hO 4 rfl dX12_goesThrough_178 ?_
          refine x_iconst hO (v := 3) (by decide) dX12_goesThrough_180 ?_
          refine x_iremc hO (by decide) dX12_goesThrough_181 ?_
          refine x_iload hO 5 rfl dX12_goesThrough_182 ?_
          refine x_iconst hO (v := 3) (by decide) dX12_goesThrough_184 ?_
          refine x_idivc hO (by decide) dX12_goesThrough_185 ?_
          refine x_iload hO 5 rfl dX12_goesThrough_186 ?_
          refine x_iconst hO (v := 3) (by decide) dX12_goesThrough_188 ?_
          refine x_iremc hO (by decide) dX12_goesThrough_189 ?_
          refine y_HV (x_callV hO lv_RX12_380 hx0 vc_12 (by decide) (As := [.int (x4 / ((3 : Int32))), .int (x4 - x4 / ((3 : Int32)) * ((3 : Int32))), .int (x5 / ((3 : Int32))), .int (x5 - x5 / ((3 : Int32)) * ((3 : Int32)))]) rfl (Nat.le_of_ble_eq_true rfl) (ok_X12_keepsSet (cG Γ) r2 x0 (x4 / ((3 : Int32))) (x4 - x4 / ((3 : Int32)) * ((3 : Int32))) (x5 / ((3 : Int32))) (x5 - x5 / ((3 : Int32)) * ((3 : Int32))) hx0) dX12_goesThrough_190 rfl (Nat.le_of_ble_eq_true rfl)) (fun r4 => ?_)
          exact x_sub [0, 1, 2, 3, 4, 5] rfl (go_X12_goesThrough_J193 hO r4 x0 x1 x2 x3 x4 x5 hx0 hC hE213)
      · refine x_goto hO (tg := 207) dX12_goesThrough_148 (by decide) ?_
        refine x_iinc hO 5 (v := 1) [(5, .int (x5 + (1 : Int32))), (0, rf Γ x0), (1, .int x1), (2, .int x2), (3, .int x3), (4, .int x4)] dX12_goesThrough_207 rfl (by decide) (by decide) rfl ?_
        refine x_goto hO (tg := 112) dX12_goesThrough_210 (by decide) ?_
        exact x_leafs [1, 2, 3, 4, 5, 0] rfl (hC h (x5 + (1 : Int32)))
set_option maxHeartbeats 4000000 in
set_option maxRecDepth 100000 in
theorem go_X12_goesThrough_L112 {Γ : Cx} (hO : Ok Γ mX12_goesThrough) (h : Hp) (x0 : Nat) (x1 : Int32) (x2 : Int32) (x3 : Int32) (x4 : Int32) (x5 : Int32) (hx0 : Is x0 12) {K : Hp → Prop} (hE213 : ∀ (h : Hp), K (h) → EW Γ mX12_goesThrough 213 [(0, rf Γ x0), (1, .int x1), (2, .int x2), (3, .int x3), (4, .int x4)] [] h) : EG Γ mX12_goesThrough 112 [(0, rf Γ x0), (1, .int x1), (2, .int x2), (3, .int x3), (4, .int x4), (5, .int x5)] [] h (L_X12_goesThrough_112 h x0 x1 x2 x3 x4 x5) K := by
  have q := x_loop (Γ := Γ) (M := mX12_goesThrough) (pc := 112) (B := fun s : Hp × Int32 => B_X12_goesThrough_112 s.1 x0 x1 x2 x3 x4 s.2) (lvf := fun s => [(0, rf Γ x0), (1, .int x1), (2, .int x2), (3, .int x3), (4, .int x4), (5, .int s.2)]) (hf := fun s => s.1) (Ky := K) (fun s => go_X12_goesThrough_B112 hO s.1 x0 x1 x2 x3 x4 s.2 hx0 (fun _ _ => id) hE213) (h, x5)
  exact q
noncomputable def J_X12_goesThrough_213 (h : Hp) (x0 : Nat) (x1 : Int32) (x2 : Int32) (x3 : Int32) (x4 : Int32) : Option ((Hp × Int32) ⊕ (Hp)) :=
  (F_X12_misreads h x0 (x4 / ((3 : Int32))) x1 (x4 - x4 / ((3 : Int32)) * ((3 : Int32))) ((-1 : Int32))).bind (fun r1 => some (.inl (r1, x4 + (1 : Int32))))
set_option maxHeartbeats 4000000 in
set_option maxRecDepth 100000 in
theorem go_X12_goesThrough_J213 {Γ : Cx} (hO : Ok Γ mX12_goesThrough) (h : Hp) (x0 : Nat) (x1 : Int32) (x2 : Int32) (x3 : Int32) (x4 : Int32) (hx0 : Is x0 12) {K : (Hp × Int32) ⊕ (Hp) → Prop} (hC : ∀ (h : Hp) (x4 : Int32), K (.inl (h, x4)) → EW Γ mX12_goesThrough 23 [(0, rf Γ x0), (1, .int x1), (2, .int x2), (3, .int x3), (4, .int x4)] [] h) (hR : ∀ r, K (.inr r) → emHV r = tgt Γ) : EG Γ mX12_goesThrough 213 [(0, rf Γ x0), (1, .int x1), (2, .int x2), (3, .int x3), (4, .int x4)] [] h (J_X12_goesThrough_213 h x0 x1 x2 x3 x4) K := by
  unfold J_X12_goesThrough_213
  refine x_aload_n hO 0 rfl rfl dX12_goesThrough_213 ?_
  refine x_iload hO 4 rfl dX12_goesThrough_214 ?_
  refine x_iconst hO (v := 3) (by decide) dX12_goesThrough_216 ?_
  refine x_idivc hO (by decide) dX12_goesThrough_217 ?_
  refine x_iload_n hO 1 rfl rfl dX12_goesThrough_218 ?_
  refine x_iload hO 4 rfl dX12_goesThrough_219 ?_
  refine x_iconst hO (v := 3) (by decide) dX12_goesThrough_221 ?_
  refine x_iremc hO (by decide) dX12_goesThrough_222 ?_
  refine x_iconst hO (v := -1) (by decide) dX12_goesThrough_223 ?_
  refine y_HV (x_callV hO lv_RX12_384 hx0 vc_12 (by decide) (As := [.int (x4 / ((3 : Int32))), .int x1, .int (x4 - x4 / ((3 : Int32)) * ((3 : Int32))), .int ((-1 : Int32))]) rfl (Nat.le_of_ble_eq_true rfl) (ok_X12_misreads (cG Γ) h x0 (x4 / ((3 : Int32))) x1 (x4 - x4 / ((3 : Int32)) * ((3 : Int32))) ((-1 : Int32)) hx0) dX12_goesThrough_224 rfl (Nat.le_of_ble_eq_true rfl)) (fun r1 => ?_)
  refine x_iinc hO 4 (v := 1) [(4, .int (x4 + (1 : Int32))), (0, rf Γ x0), (1, .int x1), (2, .int x2), (3, .int x3)] dX12_goesThrough_227 rfl (by decide) (by decide) rfl ?_
  refine x_goto hO (tg := 23) dX12_goesThrough_230 (by decide) ?_
  exact x_leafs [1, 2, 3, 4, 0] rfl (hC r1 (x4 + (1 : Int32)))
noncomputable def B_X12_goesThrough_23 (h : Hp) (x0 : Nat) (x1 : Int32) (x2 : Int32) (x3 : Int32) (x4 : Int32) : Option ((Hp × Int32) ⊕ (Hp)) :=
  gd (ib ((0 : Int32)) (LEN (GR x0 0))) (if (((3 : Int32)) * (hI h (GR x0 0) (nx ((0 : Int32))))) ≤ x4 then some (.inr h) else if x3 ≤ 0 then some (.inr h) else (F_X12_readsBy h x0 (x4 / ((3 : Int32))) x1 (x4 - x4 / ((3 : Int32)) * ((3 : Int32)))).bind (fun r1 => if r1 = ((-2 : Int32)) then some (.inl (h, x4 + (1 : Int32))) else (F_X12_misreads h x0 (x4 / ((3 : Int32))) x1 (x4 - x4 / ((3 : Int32)) * ((3 : Int32))) ((1 : Int32))).bind (fun r2 => if x3 = ((1 : Int32)) then (F_X12_isTold r2 x0 x2).bind (fun r5 => if r5 = 0 then bnd ((((3 : Int32)) * (x4 / ((3 : Int32)))) + ((3 : Int32))) (fun v6 => (L_X12_goesThrough_112 r2 x0 x1 x2 x3 x4 v6).bind (fun e7 => J_X12_goesThrough_213 e7 x0 x1 x2 x3 x4)) else (F_X12_keepsSet r2 x0 (x4 / ((3 : Int32))) (x4 - x4 / ((3 : Int32)) * ((3 : Int32))) ((-1 : Int32)) ((-1 : Int32))).bind (fun r8 => bnd ((((3 : Int32)) * (x4 / ((3 : Int32)))) + ((3 : Int32))) (fun v9 => (L_X12_goesThrough_112 r8 x0 x1 x2 x3 x4 v9).bind (fun e10 => J_X12_goesThrough_213 e10 x0 x1 x2 x3 x4)))) else bnd ((((3 : Int32)) * (x4 / ((3 : Int32)))) + ((3 : Int32))) (fun v3 => (L_X12_goesThrough_112 r2 x0 x1 x2 x3 x4 v3).bind (fun e4 => J_X12_goesThrough_213 e4 x0 x1 x2 x3 x4)))))
noncomputable def L_X12_goesThrough_23 (h : Hp) (x0 : Nat) (x1 : Int32) (x2 : Int32) (x3 : Int32) (x4 : Int32) : Option (Hp) := iterW (fun s : Hp × Int32 => B_X12_goesThrough_23 s.1 x0 x1 x2 x3 s.2) (h, x4)
set_option maxHeartbeats 4000000 in
set_option maxRecDepth 100000 in
theorem go_X12_goesThrough_B23 {Γ : Cx} (hO : Ok Γ mX12_goesThrough) (h : Hp) (x0 : Nat) (x1 : Int32) (x2 : Int32) (x3 : Int32) (x4 : Int32) (hx0 : Is x0 12) {K : (Hp × Int32) ⊕ (Hp) → Prop} (hC : ∀ (h : Hp) (x4 : Int32), K (.inl (h, x4)) → EW Γ mX12_goesThrough 23 [(0, rf Γ x0), (1, .int x1), (2, .int x2), (3, .int x3), (4, .int x4)] [] h) (hR : ∀ r, K (.inr r) → emHV r = tgt Γ) : EG Γ mX12_goesThrough 23 [(0, rf Γ x0), (1, .int x1), (2, .int x2), (3, .int x3), (4, .int x4)] [] h (B_X12_goesThrough_23 h x0 x1 x2 x3 x4) K := by
  unfold B_X12_goesThrough_23
  refine x_iload hO 4 rfl dX12_goesThrough_23 ?_
  refine x_iconst hO (v := 3) (by decide) dX12_goesThrough_25 ?_
  refine x_aload_n hO 0 rfl rfl dX12_goesThrough_26 ?_
  refine x_getR hO fl_RX12_7 hx0 dX12_goesThrough_27 ?_
  refine x_iconst hO (v := 0) (by decide) dX12_goesThrough_30 ?_
  refine x_iald hO (gr_12_0 hx0) dX12_goesThrough_31 ?_
  refine x_imul hO dX12_goesThrough_32 ?_
  refine x_icmp_ge hO (tg := 233) dX12_goesThrough_33 (by decide) ?_ ?_
  · exact x_vret hO rfl dX12_goesThrough_233 (hR _)
  · refine x_iload_n hO 3 rfl rfl dX12_goesThrough_36 ?_
    refine x_if_le hO (tg := 233) dX12_goesThrough_37 (by decide) ?_ ?_
    · exact x_vret hO rfl dX12_goesThrough_233 (hR _)
    · refine x_aload_n hO 0 rfl rfl dX12_goesThrough_40 ?_
      refine x_iload hO 4 rfl dX12_goesThrough_41 ?_
      refine x_iconst hO (v := 3) (by decide) dX12_goesThrough_43 ?_
      refine x_idivc hO (by decide) dX12_goesThrough_44 ?_
      refine x_iload_n hO 1 rfl rfl dX12_goesThrough_45 ?_
      refine x_iload hO 4 rfl dX12_goesThrough_46 ?_
      refine x_iconst hO (v := 3) (by decide) dX12_goesThrough_48 ?_
      refine x_iremc hO (by decide) dX12_goesThrough_49 ?_
      refine y_PI (x_callV hO lv_RX12_368 hx0 vc_12 (by decide) (As := [.int (x4 / ((3 : Int32))), .int x1, .int (x4 - x4 / ((3 : Int32)) * ((3 : Int32)))]) rfl (Nat.le_of_ble_eq_true rfl) (ok_X12_readsBy (cG Γ) h x0 (x4 / ((3 : Int32))) x1 (x4 - x4 / ((3 : Int32)) * ((3 : Int32))) hx0) dX12_goesThrough_50 rfl (Nat.le_of_ble_eq_true rfl)) (fun r1 => ?_)
      refine x_bipush hO (v := -2) (by decide) dX12_goesThrough_53 ?_
      refine x_icmp_ne hO (tg := 61) dX12_goesThrough_55 (by decide) ?_ ?_
      · refine x_aload_n hO 0 rfl rfl dX12_goesThrough_61 ?_
        refine x_iload hO 4 rfl dX12_goesThrough_62 ?_
        refine x_iconst hO (v := 3) (by decide) dX12_goesThrough_64 ?_
        refine x_idivc hO (by decide) dX12_goesThrough_65 ?_
        refine x_iload_n hO 1 rfl rfl dX12_goesThrough_66 ?_
        refine x_iload hO 4 rfl dX12_goesThrough_67 ?_
        refine x_iconst hO (v := 3) (by decide) dX12_goesThrough_69 ?_
        refine x_iremc hO (by decide) dX12_goesThrough_70 ?_
        refine x_iconst hO (v := 1) (by decide) dX12_goesThrough_71 ?_
        refine y_HV (x_callV hO lv_RX12_384 hx0 vc_12 (by decide) (As := [.int (x4 / ((3 : Int32))), .int x1, .int (x4 - x4 / ((3 : Int32)) * ((3 : Int32))), .int ((1 : Int32))]) rfl (Nat.le_of_ble_eq_true rfl) (ok_X12_misreads (cG Γ) h x0 (x4 / ((3 : Int32))) x1 (x4 - x4 / ((3 : Int32)) * ((3 : Int32))) ((1 : Int32)) hx0) dX12_goesThrough_72 rfl (Nat.le_of_ble_eq_true rfl)) (fun r2 => ?_)
        refine x_iload_n hO 3 rfl rfl dX12_goesThrough_75 ?_
        refine x_iconst hO (v := 1) (by decide) dX12_goesThrough_76 ?_
        refine x_icmp_ne hO (tg := 102) dX12_goesThrough_77 (by decide) ?_ ?_
        · refine x_iconst hO (v := 3) (by decide) dX12_goesThrough_102 ?_
          refine x_iload hO 4 rfl dX12_goesThrough_103 ?_
          refine x_iconst hO (v := 3) (by decide) dX12_goesThrough_105 ?_
          refine x_idivc hO (by decide) dX12_goesThrough_106 ?_
          refine x_imul hO dX12_goesThrough_107 ?_
          refine x_iconst hO (v := 3) (by decide) dX12_goesThrough_108 ?_
          refine x_iadd hO dX12_goesThrough_109 ?_
          refine x_bnd ?_
          generalize (((3 : Int32)) * (x4 / ((3 : Int32)))) + ((3 : Int32)) = v3
          refine x_istore hO [(5, .int v3), (0, rf Γ x0), (1, .int x1), (2, .int x2), (3, .int x3), (4, .int x4)] dX12_goesThrough_110 (by decide) rfl ?_
          refine x_bind (x_sub [1, 2, 3, 4, 5, 0] rfl (go_X12_goesThrough_L112 hO r2 x0 x1 x2 x3 x4 v3 hx0 (fun y4_0 hx => ?_)))
          refine x_run (t := (J_X12_goesThrough_213 y4_0 x0 x1 x2 x3 x4 : Option ((Hp × Int32) ⊕ (Hp)))) hx ?_
          exact x_sub [0, 1, 2, 3, 4] rfl (go_X12_goesThrough_J213 hO y4_0 x0 x1 x2 x3 x4 hx0 hC hR)
        · refine x_aload_n hO 0 rfl rfl dX12_goesThrough_80 ?_
          refine x_iload_n hO 2 rfl rfl dX12_goesThrough_81 ?_
          refine y_PI (x_callV hO lv_RX12_377 hx0 vc_12 (by decide) (As := [.int x2]) rfl (Nat.le_of_ble_eq_true rfl) (ok_X12_isTold (cG Γ) r2 x0 x2 hx0) dX12_goesThrough_82 rfl (Nat.le_of_ble_eq_true rfl)) (fun r5 => ?_)
          refine x_if_eq hO (tg := 102) dX12_goesThrough_85 (by decide) ?_ ?_
          · refine x_iconst hO (v := 3) (by decide) dX12_goesThrough_102 ?_
            refine x_iload hO 4 rfl dX12_goesThrough_103 ?_
            refine x_iconst hO (v := 3) (by decide) dX12_goesThrough_105 ?_
            refine x_idivc hO (by decide) dX12_goesThrough_106 ?_
            refine x_imul hO dX12_goesThrough_107 ?_
            refine x_iconst hO (v := 3) (by decide) dX12_goesThrough_108 ?_
            refine x_iadd hO dX12_goesThrough_109 ?_
            refine x_bnd ?_
            generalize (((3 : Int32)) * (x4 / ((3 : Int32)))) + ((3 : Int32)) = v6
            refine x_istore hO [(5, .int v6), (0, rf Γ x0), (1, .int x1), (2, .int x2), (3, .int x3), (4, .int x4)] dX12_goesThrough_110 (by decide) rfl ?_
            refine x_bind (x_sub [1, 2, 3, 4, 5, 0] rfl (go_X12_goesThrough_L112 hO r2 x0 x1 x2 x3 x4 v6 hx0 (fun y7_0 hx => ?_)))
            refine x_run (t := (J_X12_goesThrough_213 y7_0 x0 x1 x2 x3 x4 : Option ((Hp × Int32) ⊕ (Hp)))) hx ?_
            exact x_sub [0, 1, 2, 3, 4] rfl (go_X12_goesThrough_J213 hO y7_0 x0 x1 x2 x3 x4 hx0 hC hR)
          · refine x_aload_n hO 0 rfl rfl dX12_goesThrough_88 ?_
            refine x_iload hO 4 rfl dX12_goesThrough_89 ?_
            refine x_iconst hO (v := 3) (by decide) dX12_goesThrough_91 ?_
            refine x_idivc hO (by decide) dX12_goesThrough_92 ?_
            refine x_iload hO 4 rfl dX12_goesThrough_93 ?_
            refine x_iconst hO (v := 3) (by decide) dX12_goesThrough_95 ?_
            refine x_iremc hO (by decide) dX12_goesThrough_96 ?_
            refine x_iconst hO (v := -1) (by decide) dX12_goesThrough_97 ?_
            refine x_iconst hO (v := -1) (by decide) dX12_goesThrough_98 ?_
            refine y_HV (x_callV hO lv_RX12_380 hx0 vc_12 (by decide) (As := [.int (x4 / ((3 : Int32))), .int (x4 - x4 / ((3 : Int32)) * ((3 : Int32))), .int ((-1 : Int32)), .int ((-1 : Int32))]) rfl (Nat.le_of_ble_eq_true rfl) (ok_X12_keepsSet (cG Γ) r2 x0 (x4 / ((3 : Int32))) (x4 - x4 / ((3 : Int32)) * ((3 : Int32))) ((-1 : Int32)) ((-1 : Int32)) hx0) dX12_goesThrough_99 rfl (Nat.le_of_ble_eq_true rfl)) (fun r8 => ?_)
            refine x_iconst hO (v := 3) (by decide) dX12_goesThrough_102 ?_
            refine x_iload hO 4 rfl dX12_goesThrough_103 ?_
            refine x_iconst hO (v := 3) (by decide) dX12_goesThrough_105 ?_
            refine x_idivc hO (by decide) dX12_goesThrough_106 ?_
            refine x_imul hO dX12_goesThrough_107 ?_
            refine x_iconst hO (v := 3) (by decide) dX12_goesThrough_108 ?_
            refine x_iadd hO dX12_goesThrough_109 ?_
            refine x_bnd ?_
            generalize (((3 : Int32)) * (x4 / ((3 : Int32)))) + ((3 : Int32)) = v9
            refine x_istore hO [(5, .int v9), (0, rf Γ x0), (1, .int x1), (2, .int x2), (3, .int x3), (4, .int x4)] dX12_goesThrough_110 (by decide) rfl ?_
            refine x_bind (x_sub [1, 2, 3, 4, 5, 0] rfl (go_X12_goesThrough_L112 hO r8 x0 x1 x2 x3 x4 v9 hx0 (fun y10_0 hx => ?_)))
            refine x_run (t := (J_X12_goesThrough_213 y10_0 x0 x1 x2 x3 x4 : Option ((Hp × Int32) ⊕ (Hp)))) hx ?_
            exact x_sub [0, 1, 2, 3, 4] rfl (go_X12_goesThrough_J213 hO y10_0 x0 x1 x2 x3 x4 hx0 hC hR)
      · refine x_goto hO (tg := 227) dX12_goesThrough_58 (by decide) ?_
        refine x_iinc hO 4 (v := 1) [(4, .int (x4 + (1 : Int32))), (0, rf Γ x0), (1, .int x1), (2, .int x2), (3, .int x3)] dX12_goesThrough_227 rfl (by decide) (by decide) rfl ?_
        refine x_goto hO (tg := 23) dX12_goesThrough_230 (by decide) ?_
        exact x_leafs [1, 2, 3, 4, 0] rfl (hC h (x4 + (1 : Int32)))
set_option maxHeartbeats 4000000 in
set_option maxRecDepth 100000 in
theorem go_X12_goesThrough_L23 {Γ : Cx} (hO : Ok Γ mX12_goesThrough) (h : Hp) (x0 : Nat) (x1 : Int32) (x2 : Int32) (x3 : Int32) (x4 : Int32) (hx0 : Is x0 12) {K : Hp → Prop} (hR : ∀ r, K (r) → emHV r = tgt Γ) : EG Γ mX12_goesThrough 23 [(0, rf Γ x0), (1, .int x1), (2, .int x2), (3, .int x3), (4, .int x4)] [] h (L_X12_goesThrough_23 h x0 x1 x2 x3 x4) K := by
  have q := x_loop (Γ := Γ) (M := mX12_goesThrough) (pc := 23) (B := fun s : Hp × Int32 => B_X12_goesThrough_23 s.1 x0 x1 x2 x3 s.2) (lvf := fun s => [(0, rf Γ x0), (1, .int x1), (2, .int x2), (3, .int x3), (4, .int s.2)]) (hf := fun s => s.1) (Ky := K) (fun s => go_X12_goesThrough_B23 hO s.1 x0 x1 x2 x3 s.2 hx0 (fun _ _ => id) hR) (h, x4)
  exact q
noncomputable def F_X12_goesThrough (h : Hp) (x0 : Nat) (x1 : Int32) (x2 : Int32) (x3 : Int32) : Option (Hp) :=
  if x3 = 0 then (F_X12_isTold h x0 x2).bind (fun r1 => if r1 = 0 then L_X12_goesThrough_23 h x0 x1 x2 x3 ((0 : Int32)) else (F_X12_keepsSet h x0 ((-1 : Int32)) ((-1 : Int32)) ((-1 : Int32)) ((-1 : Int32))).bind (fun r2 => L_X12_goesThrough_23 r2 x0 x1 x2 x3 ((0 : Int32)))) else L_X12_goesThrough_23 h x0 x1 x2 x3 ((0 : Int32))
set_option maxHeartbeats 4000000 in
set_option maxRecDepth 100000 in
theorem go_X12_goesThrough {Γ : Cx} (hO : Ok Γ mX12_goesThrough) (h : Hp) (x0 : Nat) (x1 : Int32) (x2 : Int32) (x3 : Int32) (hx0 : Is x0 12) {K : Hp → Prop} (hR : ∀ r, K r → emHV r = tgt Γ) : EG Γ mX12_goesThrough 0 [(0, rf Γ x0), (1, .int x1), (2, .int x2), (3, .int x3)] [] h (F_X12_goesThrough h x0 x1 x2 x3) K := by
  unfold F_X12_goesThrough
  refine x_iload_n hO 3 rfl rfl dX12_goesThrough_0 ?_
  refine x_if_ne hO (tg := 20) dX12_goesThrough_1 (by decide) ?_ ?_
  · refine x_iconst hO (v := 0) (by decide) dX12_goesThrough_20 ?_
    refine x_istore hO [(4, .int ((0 : Int32))), (0, rf Γ x0), (1, .int x1), (2, .int x2), (3, .int x3)] dX12_goesThrough_21 (by decide) rfl ?_
    exact x_sub [1, 2, 3, 4, 0] rfl (go_X12_goesThrough_L23 hO h x0 x1 x2 x3 ((0 : Int32)) hx0 hR)
  · refine x_aload_n hO 0 rfl rfl dX12_goesThrough_4 ?_
    refine x_iload_n hO 2 rfl rfl dX12_goesThrough_5 ?_
    refine y_PI (x_callV hO lv_RX12_377 hx0 vc_12 (by decide) (As := [.int x2]) rfl (Nat.le_of_ble_eq_true rfl) (ok_X12_isTold (cG Γ) h x0 x2 hx0) dX12_goesThrough_6 rfl (Nat.le_of_ble_eq_true rfl)) (fun r1 => ?_)
    refine x_if_eq hO (tg := 20) dX12_goesThrough_9 (by decide) ?_ ?_
    · refine x_iconst hO (v := 0) (by decide) dX12_goesThrough_20 ?_
      refine x_istore hO [(4, .int ((0 : Int32))), (0, rf Γ x0), (1, .int x1), (2, .int x2), (3, .int x3)] dX12_goesThrough_21 (by decide) rfl ?_
      exact x_sub [1, 2, 3, 4, 0] rfl (go_X12_goesThrough_L23 hO h x0 x1 x2 x3 ((0 : Int32)) hx0 hR)
    · refine x_aload_n hO 0 rfl rfl dX12_goesThrough_12 ?_
      refine x_iconst hO (v := -1) (by decide) dX12_goesThrough_13 ?_
      refine x_iconst hO (v := -1) (by decide) dX12_goesThrough_14 ?_
      refine x_iconst hO (v := -1) (by decide) dX12_goesThrough_15 ?_
      refine x_iconst hO (v := -1) (by decide) dX12_goesThrough_16 ?_
      refine y_HV (x_callV hO lv_RX12_380 hx0 vc_12 (by decide) (As := [.int ((-1 : Int32)), .int ((-1 : Int32)), .int ((-1 : Int32)), .int ((-1 : Int32))]) rfl (Nat.le_of_ble_eq_true rfl) (ok_X12_keepsSet (cG Γ) h x0 ((-1 : Int32)) ((-1 : Int32)) ((-1 : Int32)) ((-1 : Int32)) hx0) dX12_goesThrough_17 rfl (Nat.le_of_ble_eq_true rfl)) (fun r2 => ?_)
      refine x_iconst hO (v := 0) (by decide) dX12_goesThrough_20 ?_
      refine x_istore hO [(4, .int ((0 : Int32))), (0, rf Γ x0), (1, .int x1), (2, .int x2), (3, .int x3)] dX12_goesThrough_21 (by decide) rfl ?_
      exact x_sub [1, 2, 3, 4, 0] rfl (go_X12_goesThrough_L23 hO r2 x0 x1 x2 x3 ((0 : Int32)) hx0 hR)
theorem ok_X12_goesThrough (G : Gl) (h : Hp) (x0 : Nat) (x1 : Int32) (x2 : Int32) (x3 : Int32) (hx0 : Is x0 12) : CN G mX12_goesThrough [.ref (gb G + x0), .int x1, .int x2, .int x3] h ((F_X12_goesThrough h x0 x1 x2 x3).map (emHV)) := CN.fn pn_RX12 (Nat.le_of_ble_eq_true rfl) (fun Γ hG hO => by subst hG; exact go_X12_goesThrough hO h x0 x1 x2 x3 hx0 (fun _ q => q))
noncomputable def B_X12_lost_100 (h : Hp) (x0 : Nat) (x5 : Int32) (x9 : Int32) (x10 : Int32) (x7 : Int32) (x8 : Int32) (x12 : Int64) : Option ((Int32 × Int32 × Int64) ⊕ (Int32 × Int32)) :=
  if 0 ≤ (lg_cmp x12 x10.toInt64) then some (.inr ((x7, x8))) else if x7 = 0 then some (.inl (x7 + (1 : Int32), x12.toInt32, x12 + x9.toInt64)) else some (.inl (x7 + (1 : Int32), x8, x12 + x9.toInt64))
noncomputable def L_X12_lost_100 (h : Hp) (x0 : Nat) (x5 : Int32) (x9 : Int32) (x10 : Int32) (x7 : Int32) (x8 : Int32) (x12 : Int64) : Option (Int32 × Int32) := iterW (fun s : Int32 × Int32 × Int64 => B_X12_lost_100 h x0 x5 x9 x10 s.1 s.2.1 s.2.2) (x7, x8, x12)
set_option maxHeartbeats 4000000 in
set_option maxRecDepth 100000 in
theorem go_X12_lost_B100 {Γ : Cx} (hO : Ok Γ mX12_lost) (h : Hp) (x0 : Nat) (x5 : Int32) (x9 : Int32) (x10 : Int32) (x7 : Int32) (x8 : Int32) (x12 : Int64) (hx0 : Is x0 12) {K : (Int32 × Int32 × Int64) ⊕ (Int32 × Int32) → Prop} (hC : ∀ (x7 : Int32) (x8 : Int32) (x12 : Int64), K (.inl (x7, x8, x12)) → EW Γ mX12_lost 100 [(0, rf Γ x0), (5, .int x5), (7, .int x7), (8, .int x8), (9, .int x9), (10, .int x10), (12, .long x12)] [] h) (hE138 : ∀ (x7 : Int32) (x8 : Int32), K (.inr ((x7, x8))) → EW Γ mX12_lost 138 [(0, rf Γ x0), (5, .int x5), (7, .int x7), (8, .int x8)] [] h) : EG Γ mX12_lost 100 [(0, rf Γ x0), (5, .int x5), (7, .int x7), (8, .int x8), (9, .int x9), (10, .int x10), (12, .long x12)] [] h (B_X12_lost_100 h x0 x5 x9 x10 x7 x8 x12) K := by
  unfold B_X12_lost_100
  refine x_lload hO 6 rfl dX12_lost_100 ?_
  refine x_iload hO 5 rfl dX12_lost_102 ?_
  refine x_i2l hO dX12_lost_104 ?_
  refine x_lcmp hO dX12_lost_105 ?_
  refine x_if_ge hO (tg := 138) dX12_lost_106 (by decide) ?_ ?_
  · exact x_leafs [0, 1, 2, 3] rfl (hE138 x7 x8)
  · refine x_iload hO 2 rfl dX12_lost_109 ?_
    refine x_if_ne hO (tg := 120) dX12_lost_111 (by decide) ?_ ?_
    · refine x_iload hO 3 rfl dX12_lost_120 ?_
      refine x_istore hO [(8, .int x8), (0, rf Γ x0), (5, .int x5), (7, .int x7), (9, .int x9), (10, .int x10), (12, .long x12)] dX12_lost_122 (by decide) rfl ?_
      refine x_iinc hO 3 (v := 1) [(7, .int (x7 + (1 : Int32))), (8, .int x8), (0, rf Γ x0), (5, .int x5), (9, .int x9), (10, .int x10), (12, .long x12)] dX12_lost_124 rfl (by decide) (by decide) rfl ?_
      refine x_lload hO 6 rfl dX12_lost_127 ?_
      refine x_iload hO 4 rfl dX12_lost_129 ?_
      refine x_i2l hO dX12_lost_131 ?_
      refine x_ladd hO dX12_lost_132 ?_
      refine x_lstore hO [(12, .long (x12 + x9.toInt64)), (7, .int (x7 + (1 : Int32))), (8, .int x8), (0, rf Γ x0), (5, .int x5), (9, .int x9), (10, .int x10)] dX12_lost_133 (by decide) rfl ?_
      refine x_goto hO (tg := 100) dX12_lost_135 (by decide) ?_
      exact x_leafs [3, 4, 1, 2, 5, 6, 0] rfl (hC (x7 + (1 : Int32)) x8 (x12 + x9.toInt64))
    · refine x_lload hO 6 rfl dX12_lost_114 ?_
      refine x_l2i hO dX12_lost_116 ?_
      refine x_goto hO (tg := 122) dX12_lost_117 (by decide) ?_
      refine x_istore hO [(8, .int x12.toInt32), (0, rf Γ x0), (5, .int x5), (7, .int x7), (9, .int x9), (10, .int x10), (12, .long x12)] dX12_lost_122 (by decide) rfl ?_
      refine x_iinc hO 3 (v := 1) [(7, .int (x7 + (1 : Int32))), (8, .int x12.toInt32), (0, rf Γ x0), (5, .int x5), (9, .int x9), (10, .int x10), (12, .long x12)] dX12_lost_124 rfl (by decide) (by decide) rfl ?_
      refine x_lload hO 6 rfl dX12_lost_127 ?_
      refine x_iload hO 4 rfl dX12_lost_129 ?_
      refine x_i2l hO dX12_lost_131 ?_
      refine x_ladd hO dX12_lost_132 ?_
      refine x_lstore hO [(12, .long (x12 + x9.toInt64)), (7, .int (x7 + (1 : Int32))), (8, .int x12.toInt32), (0, rf Γ x0), (5, .int x5), (9, .int x9), (10, .int x10)] dX12_lost_133 (by decide) rfl ?_
      refine x_goto hO (tg := 100) dX12_lost_135 (by decide) ?_
      exact x_leafs [3, 4, 1, 2, 5, 6, 0] rfl (hC (x7 + (1 : Int32)) x12.toInt32 (x12 + x9.toInt64))
set_option maxHeartbeats 4000000 in
set_option maxRecDepth 100000 in
theorem go_X12_lost_L100 {Γ : Cx} (hO : Ok Γ mX12_lost) (h : Hp) (x0 : Nat) (x5 : Int32) (x9 : Int32) (x10 : Int32) (x7 : Int32) (x8 : Int32) (x12 : Int64) (hx0 : Is x0 12) {K : Int32 × Int32 → Prop} (hE138 : ∀ (x7 : Int32) (x8 : Int32), K ((x7, x8)) → EW Γ mX12_lost 138 [(0, rf Γ x0), (5, .int x5), (7, .int x7), (8, .int x8)] [] h) : EG Γ mX12_lost 100 [(0, rf Γ x0), (5, .int x5), (7, .int x7), (8, .int x8), (9, .int x9), (10, .int x10), (12, .long x12)] [] h (L_X12_lost_100 h x0 x5 x9 x10 x7 x8 x12) K := by
  have q := x_loop (Γ := Γ) (M := mX12_lost) (pc := 100) (B := fun s : Int32 × Int32 × Int64 => B_X12_lost_100 h x0 x5 x9 x10 s.1 s.2.1 s.2.2) (lvf := fun s => [(0, rf Γ x0), (5, .int x5), (7, .int s.1), (8, .int s.2.1), (9, .int x9), (10, .int x10), (12, .long s.2.2)]) (hf := fun s => h) (Ky := K) (fun s => go_X12_lost_B100 hO h x0 x5 x9 x10 s.1 s.2.1 s.2.2 hx0 (fun _ _ _ => id) hE138) (x7, x8, x12)
  exact q
noncomputable def F_X12_lost (h : Hp) (x0 : Nat) (x1 : Int32) (x2 : Int32) (x3 : Int32) (x4 : Int32) (x5 : Int32) : Option (Hp × Int32) :=
  (F_X12_isField h x1 x2).bind (fun r1 => if r1 = 0 then (F_X12_refuse h x0 ((1 : Int32))).bind (fun r2 => some ((r2.1, r2.2))) else (F_X12_isWheel h x3).bind (fun r3 => if r3 = 0 then (F_X12_refuse h x0 ((1 : Int32))).bind (fun r4 => some ((r4.1, r4.2))) else if x4 < 0 then (F_X12_refuse h x0 ((1 : Int32))).bind (fun r5 => some ((r5.1, r5.2))) else (F_X12_tens h x3).bind (fun r6 => if r6 ≤ x4 then (F_X12_refuse h x0 ((1 : Int32))).bind (fun r7 => some ((r7.1, r7.2))) else if x5 < 0 then (F_X12_refuse h x0 ((1 : Int32))).bind (fun r8 => some ((r8.1, r8.2))) else if x5 ≤ ((1 : Int32)) then (F_X12_wholeSum h x0 x1 x2).bind (fun r9 => (F_X12_tens h x3).bind (fun r10 => (F_X12_tens h ((x2 - x1) + ((1 : Int32)))).bind (fun r11 => gd (!decide (r10 = 0)) (gd (!decide (r10 = 0)) (gd (!decide (r10 = 0)) (bnd ((((x4 - (r9 - r9 / r10 * r10)) - (x4 - (r9 - r9 / r10 * r10)) / r10 * r10) + r10) - (((x4 - (r9 - r9 / r10 * r10)) - (x4 - (r9 - r9 / r10 * r10)) / r10 * r10) + r10) / r10 * r10) (fun v12 => (L_X12_lost_100 h x0 x5 r10 r11 ((0 : Int32)) ((-1 : Int32)) v12.toInt64).bind (fun e13 => if x5 = 0 then (F_X12_gives h x0 e13.1).bind (fun r16 => some ((r16.1, r16.2))) else if e13.1 = 0 then (F_X12_refuse h x0 ((6 : Int32))).bind (fun r15 => some ((r15.1, r15.2))) else (F_X12_gives h x0 e13.2).bind (fun r14 => some ((r14.1, r14.2))))))))))) else (F_X12_refuse h x0 ((1 : Int32))).bind (fun r17 => some ((r17.1, r17.2))))))
set_option maxHeartbeats 4000000 in
set_option maxRecDepth 100000 in
theorem go_X12_lost {Γ : Cx} (hO : Ok Γ mX12_lost) (h : Hp) (x0 : Nat) (x1 : Int32) (x2 : Int32) (x3 : Int32) (x4 : Int32) (x5 : Int32) (hx0 : Is x0 12) {K : Hp × Int32 → Prop} (hR : ∀ r, K r → emHI r = tgt Γ) : EG Γ mX12_lost 0 [(0, rf Γ x0), (1, .int x1), (2, .int x2), (3, .int x3), (4, .int x4), (5, .int x5)] [] h (F_X12_lost h x0 x1 x2 x3 x4 x5) K := by
  unfold F_X12_lost
  refine x_iload_n hO 1 rfl rfl dX12_lost_0 ?_
  refine x_iload_n hO 2 rfl rfl dX12_lost_1 ?_
  refine y_PI (x_callS hO lt_RX12_317 (As := [.int x1, .int x2]) rfl (Nat.le_of_ble_eq_true rfl) (ok_X12_isField (cG Γ) h x1 x2) dX12_lost_2 rfl (Nat.le_of_ble_eq_true rfl)) (fun r1 => ?_)
  refine x_if_eq hO (tg := 40) dX12_lost_5 (by decide) ?_ ?_
  · refine x_aload_n hO 0 rfl rfl dX12_lost_40 ?_
    refine x_iconst hO (v := 1) (by decide) dX12_lost_41 ?_
    refine y_HI (x_callV hO lv_RX12_137 hx0 vc_12 (by decide) (As := [.int ((1 : Int32))]) rfl (Nat.le_of_ble_eq_true rfl) (ok_X12_refuse (cG Γ) h x0 ((1 : Int32)) hx0) dX12_lost_42 rfl (Nat.le_of_ble_eq_true rfl)) (fun r2 => ?_)
    exact x_iret hO rfl dX12_lost_45 (hR _)
  · refine x_iload_n hO 3 rfl rfl dX12_lost_8 ?_
    refine y_PI (x_callS hO lt_RX12_327 (As := [.int x3]) rfl (Nat.le_of_ble_eq_true rfl) (ok_X12_isWheel (cG Γ) h x3) dX12_lost_9 rfl (Nat.le_of_ble_eq_true rfl)) (fun r3 => ?_)
    refine x_if_eq hO (tg := 40) dX12_lost_12 (by decide) ?_ ?_
    · refine x_aload_n hO 0 rfl rfl dX12_lost_40 ?_
      refine x_iconst hO (v := 1) (by decide) dX12_lost_41 ?_
      refine y_HI (x_callV hO lv_RX12_137 hx0 vc_12 (by decide) (As := [.int ((1 : Int32))]) rfl (Nat.le_of_ble_eq_true rfl) (ok_X12_refuse (cG Γ) h x0 ((1 : Int32)) hx0) dX12_lost_42 rfl (Nat.le_of_ble_eq_true rfl)) (fun r4 => ?_)
      exact x_iret hO rfl dX12_lost_45 (hR _)
    · refine x_iload hO 4 rfl dX12_lost_15 ?_
      refine x_if_lt hO (tg := 40) dX12_lost_17 (by decide) ?_ ?_
      · refine x_aload_n hO 0 rfl rfl dX12_lost_40 ?_
        refine x_iconst hO (v := 1) (by decide) dX12_lost_41 ?_
        refine y_HI (x_callV hO lv_RX12_137 hx0 vc_12 (by decide) (As := [.int ((1 : Int32))]) rfl (Nat.le_of_ble_eq_true rfl) (ok_X12_refuse (cG Γ) h x0 ((1 : Int32)) hx0) dX12_lost_42 rfl (Nat.le_of_ble_eq_true rfl)) (fun r5 => ?_)
        exact x_iret hO rfl dX12_lost_45 (hR _)
      · refine x_iload hO 4 rfl dX12_lost_20 ?_
        refine x_iload_n hO 3 rfl rfl dX12_lost_22 ?_
        refine y_PI (x_callS hO lt_RX12_333 (As := [.int x3]) rfl (Nat.le_of_ble_eq_true rfl) (ok_X12_tens (cG Γ) h x3) dX12_lost_23 rfl (Nat.le_of_ble_eq_true rfl)) (fun r6 => ?_)
        refine x_icmp_ge hO (tg := 40) dX12_lost_26 (by decide) ?_ ?_
        · refine x_aload_n hO 0 rfl rfl dX12_lost_40 ?_
          refine x_iconst hO (v := 1) (by decide) dX12_lost_41 ?_
          refine y_HI (x_callV hO lv_RX12_137 hx0 vc_12 (by decide) (As := [.int ((1 : Int32))]) rfl (Nat.le_of_ble_eq_true rfl) (ok_X12_refuse (cG Γ) h x0 ((1 : Int32)) hx0) dX12_lost_42 rfl (Nat.le_of_ble_eq_true rfl)) (fun r7 => ?_)
          exact x_iret hO rfl dX12_lost_45 (hR _)
        · refine x_iload hO 5 rfl dX12_lost_29 ?_
          refine x_if_lt hO (tg := 40) dX12_lost_31 (by decide) ?_ ?_
          · refine x_aload_n hO 0 rfl rfl dX12_lost_40 ?_
            refine x_iconst hO (v := 1) (by decide) dX12_lost_41 ?_
            refine y_HI (x_callV hO lv_RX12_137 hx0 vc_12 (by decide) (As := [.int ((1 : Int32))]) rfl (Nat.le_of_ble_eq_true rfl) (ok_X12_refuse (cG Γ) h x0 ((1 : Int32)) hx0) dX12_lost_42 rfl (Nat.le_of_ble_eq_true rfl)) (fun r8 => ?_)
            exact x_iret hO rfl dX12_lost_45 (hR _)
          · refine x_iload hO 5 rfl dX12_lost_34 ?_
            refine x_iconst hO (v := 1) (by decide) dX12_lost_36 ?_
            refine x_icmp_le hO (tg := 46) dX12_lost_37 (by decide) ?_ ?_
            · refine x_aload_n hO 0 rfl rfl dX12_lost_46 ?_
              refine x_iload_n hO 1 rfl rfl dX12_lost_47 ?_
              refine x_iload_n hO 2 rfl rfl dX12_lost_48 ?_
              refine y_PI (x_callV hO lv_RX12_330 hx0 vc_12 (by decide) (As := [.int x1, .int x2]) rfl (Nat.le_of_ble_eq_true rfl) (ok_X12_wholeSum (cG Γ) h x0 x1 x2 hx0) dX12_lost_49 rfl (Nat.le_of_ble_eq_true rfl)) (fun r9 => ?_)
              refine x_istore hO [(6, .int r9), (0, rf Γ x0), (1, .int x1), (2, .int x2), (3, .int x3), (4, .int x4), (5, .int x5)] dX12_lost_52 (by decide) rfl ?_
              refine x_iconst hO (v := 0) (by decide) dX12_lost_54 ?_
              refine x_istore hO [(7, .int ((0 : Int32))), (6, .int r9), (0, rf Γ x0), (1, .int x1), (2, .int x2), (3, .int x3), (4, .int x4), (5, .int x5)] dX12_lost_55 (by decide) rfl ?_
              refine x_iconst hO (v := -1) (by decide) dX12_lost_57 ?_
              refine x_istore hO [(8, .int ((-1 : Int32))), (7, .int ((0 : Int32))), (6, .int r9), (0, rf Γ x0), (1, .int x1), (2, .int x2), (3, .int x3), (4, .int x4), (5, .int x5)] dX12_lost_58 (by decide) rfl ?_
              refine x_iload_n hO 6 rfl rfl dX12_lost_60 ?_
              refine y_PI (x_callS hO lt_RX12_333 (As := [.int x3]) rfl (Nat.le_of_ble_eq_true rfl) (ok_X12_tens (cG Γ) h x3) dX12_lost_61 rfl (Nat.le_of_ble_eq_true rfl)) (fun r10 => ?_)
              refine x_istore hO [(9, .int r10), (8, .int ((-1 : Int32))), (7, .int ((0 : Int32))), (6, .int r9), (0, rf Γ x0), (1, .int x1), (2, .int x2), (3, .int x3), (4, .int x4), (5, .int x5)] dX12_lost_64 (by decide) rfl ?_
              refine x_iload_n hO 6 rfl rfl dX12_lost_66 ?_
              refine x_iload_n hO 5 rfl rfl dX12_lost_67 ?_
              refine x_isub hO dX12_lost_68 ?_
              refine x_iconst hO (v := 1) (by decide) dX12_lost_69 ?_
              refine x_iadd hO dX12_lost_70 ?_
              refine y_PI (x_callS hO lt_RX12_333 (As := [.int ((x2 - x1) + ((1 : Int32)))]) rfl (Nat.le_of_ble_eq_true rfl) (ok_X12_tens (cG Γ) h ((x2 - x1) + ((1 : Int32)))) dX12_lost_71 rfl (Nat.le_of_ble_eq_true rfl)) (fun r11 => ?_)
              refine x_istore hO [(10, .int r11), (9, .int r10), (8, .int ((-1 : Int32))), (7, .int ((0 : Int32))), (6, .int r9), (0, rf Γ x0), (1, .int x1), (2, .int x2), (3, .int x3), (4, .int x4), (5, .int x5)] dX12_lost_74 (by decide) rfl ?_
              refine x_iload hO 9 rfl dX12_lost_76 ?_
              refine x_iload hO 4 rfl dX12_lost_78 ?_
              refine x_iload hO 1 rfl dX12_lost_80 ?_
              refine x_irem hO dX12_lost_82 ?_
              refine x_isub hO dX12_lost_83 ?_
              refine x_iload hO 1 rfl dX12_lost_84 ?_
              refine x_irem hO dX12_lost_86 ?_
              refine x_iload hO 1 rfl dX12_lost_87 ?_
              refine x_iadd hO dX12_lost_89 ?_
              refine x_iload hO 1 rfl dX12_lost_90 ?_
              refine x_irem hO dX12_lost_92 ?_
              refine x_bnd ?_
              generalize (((x4 - (r9 - r9 / r10 * r10)) - (x4 - (r9 - r9 / r10 * r10)) / r10 * r10) + r10) - (((x4 - (r9 - r9 / r10 * r10)) - (x4 - (r9 - r9 / r10 * r10)) / r10 * r10) + r10) / r10 * r10 = v12
              refine x_istore hO [(11, .int v12), (10, .int r11), (9, .int r10), (8, .int ((-1 : Int32))), (7, .int ((0 : Int32))), (6, .int r9), (0, rf Γ x0), (1, .int x1), (2, .int x2), (3, .int x3), (4, .int x4), (5, .int x5)] dX12_lost_93 (by decide) rfl ?_
              refine x_iload hO 0 rfl dX12_lost_95 ?_
              refine x_i2l hO dX12_lost_97 ?_
              refine x_lstore hO [(12, .long v12.toInt64), (11, .int v12), (10, .int r11), (9, .int r10), (8, .int ((-1 : Int32))), (7, .int ((0 : Int32))), (6, .int r9), (0, rf Γ x0), (1, .int x1), (2, .int x2), (3, .int x3), (4, .int x4), (5, .int x5)] dX12_lost_98 (by decide) rfl ?_
              refine x_bind (x_sub [7, 12, 5, 4, 3, 2, 0] rfl (go_X12_lost_L100 hO h x0 x5 r10 r11 ((0 : Int32)) ((-1 : Int32)) v12.toInt64 hx0 (fun y13_0 y13_1 hx => ?_)))
              refine x_run (t := (if x5 = 0 then (F_X12_gives h x0 y13_0).bind (fun r16 => some ((r16.1, r16.2))) else if y13_0 = 0 then (F_X12_refuse h x0 ((6 : Int32))).bind (fun r15 => some ((r15.1, r15.2))) else (F_X12_gives h x0 y13_1).bind (fun r14 => some ((r14.1, r14.2))) : Option (Hp × Int32))) hx ?_
              refine x_iload hO 1 rfl dX12_lost_138 ?_
              refine x_if_ne hO (tg := 150) dX12_lost_140 (by decide) ?_ ?_
              · refine x_iload hO 2 rfl dX12_lost_150 ?_
                refine x_if_ne hO (tg := 164) dX12_lost_152 (by decide) ?_ ?_
                · refine x_aload_n hO 0 rfl rfl dX12_lost_164 ?_
                  refine x_iload hO 3 rfl dX12_lost_165 ?_
                  refine y_HI (x_callV hO lv_RX12_146 hx0 vc_12 (by decide) (As := [.int y13_1]) rfl (Nat.le_of_ble_eq_true rfl) (ok_X12_gives (cG Γ) h x0 y13_1 hx0) dX12_lost_167 rfl (Nat.le_of_ble_eq_true rfl)) (fun r14 => ?_)
                  exact x_iret hO rfl dX12_lost_170 (hR _)
                · refine x_aload_n hO 0 rfl rfl dX12_lost_155 ?_
                  refine x_bipush hO (v := 6) (by decide) dX12_lost_156 ?_
                  refine y_HI (x_callV hO lv_RX12_137 hx0 vc_12 (by decide) (As := [.int ((6 : Int32))]) rfl (Nat.le_of_ble_eq_true rfl) (ok_X12_refuse (cG Γ) h x0 ((6 : Int32)) hx0) dX12_lost_158 rfl (Nat.le_of_ble_eq_true rfl)) (fun r15 => ?_)
                  refine x_goto hO (tg := 170) dX12_lost_161 (by decide) ?_
                  exact x_iret hO rfl dX12_lost_170 (hR _)
              · refine x_aload_n hO 0 rfl rfl dX12_lost_143 ?_
                refine x_iload hO 2 rfl dX12_lost_144 ?_
                refine y_HI (x_callV hO lv_RX12_146 hx0 vc_12 (by decide) (As := [.int y13_0]) rfl (Nat.le_of_ble_eq_true rfl) (ok_X12_gives (cG Γ) h x0 y13_0 hx0) dX12_lost_146 rfl (Nat.le_of_ble_eq_true rfl)) (fun r16 => ?_)
                exact x_iret hO rfl dX12_lost_149 (hR _)
            · refine x_aload_n hO 0 rfl rfl dX12_lost_40 ?_
              refine x_iconst hO (v := 1) (by decide) dX12_lost_41 ?_
              refine y_HI (x_callV hO lv_RX12_137 hx0 vc_12 (by decide) (As := [.int ((1 : Int32))]) rfl (Nat.le_of_ble_eq_true rfl) (ok_X12_refuse (cG Γ) h x0 ((1 : Int32)) hx0) dX12_lost_42 rfl (Nat.le_of_ble_eq_true rfl)) (fun r17 => ?_)
              exact x_iret hO rfl dX12_lost_45 (hR _)
theorem ok_X12_lost (G : Gl) (h : Hp) (x0 : Nat) (x1 : Int32) (x2 : Int32) (x3 : Int32) (x4 : Int32) (x5 : Int32) (hx0 : Is x0 12) : CN G mX12_lost [.ref (gb G + x0), .int x1, .int x2, .int x3, .int x4, .int x5] h ((F_X12_lost h x0 x1 x2 x3 x4 x5).map (emHI)) := CN.fn pn_RX12 (Nat.le_of_ble_eq_true rfl) (fun Γ hG hO => by subst hG; exact go_X12_lost hO h x0 x1 x2 x3 x4 x5 hx0 (fun _ q => q))
noncomputable def B_X12_matched_78 (h : Hp) (x0 : Nat) (x1 : Int32) (x2 : Int32) (x3 : Int32) (x4 : Int32) (x5 : Int32) (x6 : Int32) (x7 : Int32) (x8 : Int32) : Option ((Int32 × Int32) ⊕ (Int32)) :=
  if x5 ≤ x8 then some (.inr x7) else if x7 = 0 then some (.inr x7) else (F_X12_ofCard h x0 x8 ((9 : Int32))).bind (fun r1 => if r1 = ((-1 : Int32)) then some (.inl ((1 : Int32), x8 + (1 : Int32))) else (F_X12_numberOf h x0 x8 x1 x2).bind (fun r2 => if r2 = x6 then some (.inl ((0 : Int32), x8 + (1 : Int32))) else some (.inl ((1 : Int32), x8 + (1 : Int32)))))
noncomputable def L_X12_matched_78 (h : Hp) (x0 : Nat) (x1 : Int32) (x2 : Int32) (x3 : Int32) (x4 : Int32) (x5 : Int32) (x6 : Int32) (x7 : Int32) (x8 : Int32) : Option (Int32) := iterW (fun s : Int32 × Int32 => B_X12_matched_78 h x0 x1 x2 x3 x4 x5 x6 s.1 s.2) (x7, x8)
set_option maxHeartbeats 4000000 in
set_option maxRecDepth 100000 in
theorem go_X12_matched_B78 {Γ : Cx} (hO : Ok Γ mX12_matched) (h : Hp) (x0 : Nat) (x1 : Int32) (x2 : Int32) (x3 : Int32) (x4 : Int32) (x5 : Int32) (x6 : Int32) (x7 : Int32) (x8 : Int32) (hx0 : Is x0 12) {K : (Int32 × Int32) ⊕ (Int32) → Prop} (hC : ∀ (x7 : Int32) (x8 : Int32), K (.inl (x7, x8)) → EW Γ mX12_matched 78 [(0, rf Γ x0), (1, .int x1), (2, .int x2), (3, .int x3), (4, .int x4), (5, .int x5), (6, .int x6), (7, .int x7), (8, .int x8)] [] h) (hE128 : ∀ (x7 : Int32), K (.inr x7) → EW Γ mX12_matched 128 [(0, rf Γ x0), (1, .int x1), (2, .int x2), (3, .int x3), (4, .int x4), (5, .int x5), (6, .int x6), (7, .int x7)] [] h) : EG Γ mX12_matched 78 [(0, rf Γ x0), (1, .int x1), (2, .int x2), (3, .int x3), (4, .int x4), (5, .int x5), (6, .int x6), (7, .int x7), (8, .int x8)] [] h (B_X12_matched_78 h x0 x1 x2 x3 x4 x5 x6 x7 x8) K := by
  unfold B_X12_matched_78
  refine x_iload hO 8 rfl dX12_matched_78 ?_
  refine x_iload hO 5 rfl dX12_matched_80 ?_
  refine x_icmp_ge hO (tg := 128) dX12_matched_82 (by decide) ?_ ?_
  · exact x_leafs [0, 1, 2, 3, 4, 5, 6, 7] rfl (hE128 x7)
  · refine x_iload hO 7 rfl dX12_matched_85 ?_
    refine x_if_eq hO (tg := 128) dX12_matched_87 (by decide) ?_ ?_
    · exact x_leafs [0, 1, 2, 3, 4, 5, 6, 7] rfl (hE128 x7)
    · refine x_aload_n hO 0 rfl rfl dX12_matched_90 ?_
      refine x_iload hO 8 rfl dX12_matched_91 ?_
      refine x_bipush hO (v := 9) (by decide) dX12_matched_93 ?_
      refine y_PI (x_callV hO lv_RX12_130 hx0 vc_12 (by decide) (As := [.int x8, .int ((9 : Int32))]) rfl (Nat.le_of_ble_eq_true rfl) (ok_X12_ofCard (cG Γ) h x0 x8 ((9 : Int32)) hx0) dX12_matched_95 rfl (Nat.le_of_ble_eq_true rfl)) (fun r1 => ?_)
      refine x_iconst hO (v := -1) (by decide) dX12_matched_98 ?_
      refine x_icmp_eq hO (tg := 115) dX12_matched_99 (by decide) ?_ ?_
      · refine x_iconst hO (v := 1) (by decide) dX12_matched_115 ?_
        refine x_goto hO (tg := 120) dX12_matched_116 (by decide) ?_
        refine x_istore hO [(7, .int ((1 : Int32))), (0, rf Γ x0), (1, .int x1), (2, .int x2), (3, .int x3), (4, .int x4), (5, .int x5), (6, .int x6), (8, .int x8)] dX12_matched_120 (by decide) rfl ?_
        refine x_iinc hO 8 (v := 1) [(8, .int (x8 + (1 : Int32))), (7, .int ((1 : Int32))), (0, rf Γ x0), (1, .int x1), (2, .int x2), (3, .int x3), (4, .int x4), (5, .int x5), (6, .int x6)] dX12_matched_122 rfl (by decide) (by decide) rfl ?_
        refine x_goto hO (tg := 78) dX12_matched_125 (by decide) ?_
        exact x_leafs [2, 3, 4, 5, 6, 7, 8, 1, 0] rfl (hC ((1 : Int32)) (x8 + (1 : Int32)))
      · refine x_aload_n hO 0 rfl rfl dX12_matched_102 ?_
        refine x_iload hO 8 rfl dX12_matched_103 ?_
        refine x_iload_n hO 1 rfl rfl dX12_matched_105 ?_
        refine x_iload_n hO 2 rfl rfl dX12_matched_106 ?_
        refine y_PI (x_callV hO lv_RX12_321 hx0 vc_12 (by decide) (As := [.int x8, .int x1, .int x2]) rfl (Nat.le_of_ble_eq_true rfl) (ok_X12_numberOf (cG Γ) h x0 x8 x1 x2 hx0) dX12_matched_107 rfl (Nat.le_of_ble_eq_true rfl)) (fun r2 => ?_)
        refine x_iload hO 6 rfl dX12_matched_110 ?_
        refine x_icmp_eq hO (tg := 119) dX12_matched_112 (by decide) ?_ ?_
        · refine x_iconst hO (v := 0) (by decide) dX12_matched_119 ?_
          refine x_istore hO [(7, .int ((0 : Int32))), (0, rf Γ x0), (1, .int x1), (2, .int x2), (3, .int x3), (4, .int x4), (5, .int x5), (6, .int x6), (8, .int x8)] dX12_matched_120 (by decide) rfl ?_
          refine x_iinc hO 8 (v := 1) [(8, .int (x8 + (1 : Int32))), (7, .int ((0 : Int32))), (0, rf Γ x0), (1, .int x1), (2, .int x2), (3, .int x3), (4, .int x4), (5, .int x5), (6, .int x6)] dX12_matched_122 rfl (by decide) (by decide) rfl ?_
          refine x_goto hO (tg := 78) dX12_matched_125 (by decide) ?_
          exact x_leafs [2, 3, 4, 5, 6, 7, 8, 1, 0] rfl (hC ((0 : Int32)) (x8 + (1 : Int32)))
        · refine x_iconst hO (v := 1) (by decide) dX12_matched_115 ?_
          refine x_goto hO (tg := 120) dX12_matched_116 (by decide) ?_
          refine x_istore hO [(7, .int ((1 : Int32))), (0, rf Γ x0), (1, .int x1), (2, .int x2), (3, .int x3), (4, .int x4), (5, .int x5), (6, .int x6), (8, .int x8)] dX12_matched_120 (by decide) rfl ?_
          refine x_iinc hO 8 (v := 1) [(8, .int (x8 + (1 : Int32))), (7, .int ((1 : Int32))), (0, rf Γ x0), (1, .int x1), (2, .int x2), (3, .int x3), (4, .int x4), (5, .int x5), (6, .int x6)] dX12_matched_122 rfl (by decide) (by decide) rfl ?_
          refine x_goto hO (tg := 78) dX12_matched_125 (by decide) ?_
          exact x_leafs [2, 3, 4, 5, 6, 7, 8, 1, 0] rfl (hC ((1 : Int32)) (x8 + (1 : Int32)))
set_option maxHeartbeats 4000000 in
set_option maxRecDepth 100000 in
theorem go_X12_matched_L78 {Γ : Cx} (hO : Ok Γ mX12_matched) (h : Hp) (x0 : Nat) (x1 : Int32) (x2 : Int32) (x3 : Int32) (x4 : Int32) (x5 : Int32) (x6 : Int32) (x7 : Int32) (x8 : Int32) (hx0 : Is x0 12) {K : Int32 → Prop} (hE128 : ∀ (x7 : Int32), K (x7) → EW Γ mX12_matched 128 [(0, rf Γ x0), (1, .int x1), (2, .int x2), (3, .int x3), (4, .int x4), (5, .int x5), (6, .int x6), (7, .int x7)] [] h) : EG Γ mX12_matched 78 [(0, rf Γ x0), (1, .int x1), (2, .int x2), (3, .int x3), (4, .int x4), (5, .int x5), (6, .int x6), (7, .int x7), (8, .int x8)] [] h (L_X12_matched_78 h x0 x1 x2 x3 x4 x5 x6 x7 x8) K := by
  have q := x_loop (Γ := Γ) (M := mX12_matched) (pc := 78) (B := fun s : Int32 × Int32 => B_X12_matched_78 h x0 x1 x2 x3 x4 x5 x6 s.1 s.2) (lvf := fun s => [(0, rf Γ x0), (1, .int x1), (2, .int x2), (3, .int x3), (4, .int x4), (5, .int x5), (6, .int x6), (7, .int s.1), (8, .int s.2)]) (hf := fun s => h) (Ky := K) (fun s => go_X12_matched_B78 hO h x0 x1 x2 x3 x4 x5 x6 s.1 s.2 hx0 (fun _ _ => id) hE128) (x7, x8)
  exact q
noncomputable def J_X12_matched_152 (h : Hp) (x0 : Nat) (x1 : Int32) (x2 : Int32) (x3 : Int32) (x5 : Int32) (s0 : Int32) (s1 : Int32) (s2 : Int32) : Option ((Int32 × Int32) ⊕ (Hp × Int32)) :=
  if s1 = s2 then some (.inl (s0 + ((1 : Int32)), x5 + (1 : Int32))) else some (.inl (s0 + ((0 : Int32)), x5 + (1 : Int32)))
set_option maxHeartbeats 4000000 in
set_option maxRecDepth 100000 in
theorem go_X12_matched_J152 {Γ : Cx} (hO : Ok Γ mX12_matched) (h : Hp) (x0 : Nat) (x1 : Int32) (x2 : Int32) (x3 : Int32) (x5 : Int32) (s0 : Int32) (s1 : Int32) (s2 : Int32) (hx0 : Is x0 12) {K : (Int32 × Int32) ⊕ (Hp × Int32) → Prop} (hC : ∀ (x4 : Int32) (x5 : Int32), K (.inl (x4, x5)) → EW Γ mX12_matched 29 [(0, rf Γ x0), (1, .int x1), (2, .int x2), (3, .int x3), (4, .int x4), (5, .int x5)] [] h) (hR : ∀ r, K (.inr r) → emHI r = tgt Γ) : EG Γ mX12_matched 152 [(0, rf Γ x0), (1, .int x1), (2, .int x2), (3, .int x3), (5, .int x5)] [.int s2, .int s1, .int s0] h (J_X12_matched_152 h x0 x1 x2 x3 x5 s0 s1 s2) K := by
  unfold J_X12_matched_152
  refine x_icmp_ne hO (tg := 159) dX12_matched_152 (by decide) ?_ ?_
  · refine x_iconst hO (v := 0) (by decide) dX12_matched_159 ?_
    refine x_iadd hO dX12_matched_160 ?_
    refine x_istore hO [(4, .int (s0 + ((0 : Int32)))), (0, rf Γ x0), (1, .int x1), (2, .int x2), (3, .int x3), (5, .int x5)] dX12_matched_161 (by decide) rfl ?_
    refine x_iinc hO 5 (v := 1) [(5, .int (x5 + (1 : Int32))), (4, .int (s0 + ((0 : Int32)))), (0, rf Γ x0), (1, .int x1), (2, .int x2), (3, .int x3)] dX12_matched_163 rfl (by decide) (by decide) rfl ?_
    refine x_goto hO (tg := 29) dX12_matched_166 (by decide) ?_
    exact x_leafs [2, 3, 4, 5, 1, 0] rfl (hC (s0 + ((0 : Int32))) (x5 + (1 : Int32)))
  · refine x_iconst hO (v := 1) (by decide) dX12_matched_155 ?_
    refine x_goto hO (tg := 160) dX12_matched_156 (by decide) ?_
    refine x_iadd hO dX12_matched_160 ?_
    refine x_istore hO [(4, .int (s0 + ((1 : Int32)))), (0, rf Γ x0), (1, .int x1), (2, .int x2), (3, .int x3), (5, .int x5)] dX12_matched_161 (by decide) rfl ?_
    refine x_iinc hO 5 (v := 1) [(5, .int (x5 + (1 : Int32))), (4, .int (s0 + ((1 : Int32)))), (0, rf Γ x0), (1, .int x1), (2, .int x2), (3, .int x3)] dX12_matched_163 rfl (by decide) (by decide) rfl ?_
    refine x_goto hO (tg := 29) dX12_matched_166 (by decide) ?_
    exact x_leafs [2, 3, 4, 5, 1, 0] rfl (hC (s0 + ((1 : Int32))) (x5 + (1 : Int32)))
noncomputable def J_X12_matched_128 (h : Hp) (x0 : Nat) (x1 : Int32) (x2 : Int32) (x3 : Int32) (x4 : Int32) (x5 : Int32) (x6 : Int32) (x7 : Int32) : Option ((Int32 × Int32) ⊕ (Hp × Int32)) :=
  if x7 = 0 then some (.inl (x4 + ((0 : Int32)), x5 + (1 : Int32))) else (F_X12_inksOf h x0 x6 x1 x2).bind (fun r1 => if x3 = 0 then J_X12_matched_152 h x0 x1 x2 x3 x5 x4 r1 ((3 : Int32)) else J_X12_matched_152 h x0 x1 x2 x3 x5 x4 r1 x3)
set_option maxHeartbeats 4000000 in
set_option maxRecDepth 100000 in
theorem go_X12_matched_J128 {Γ : Cx} (hO : Ok Γ mX12_matched) (h : Hp) (x0 : Nat) (x1 : Int32) (x2 : Int32) (x3 : Int32) (x4 : Int32) (x5 : Int32) (x6 : Int32) (x7 : Int32) (hx0 : Is x0 12) {K : (Int32 × Int32) ⊕ (Hp × Int32) → Prop} (hC : ∀ (x4 : Int32) (x5 : Int32), K (.inl (x4, x5)) → EW Γ mX12_matched 29 [(0, rf Γ x0), (1, .int x1), (2, .int x2), (3, .int x3), (4, .int x4), (5, .int x5)] [] h) (hR : ∀ r, K (.inr r) → emHI r = tgt Γ) : EG Γ mX12_matched 128 [(0, rf Γ x0), (1, .int x1), (2, .int x2), (3, .int x3), (4, .int x4), (5, .int x5), (6, .int x6), (7, .int x7)] [] h (J_X12_matched_128 h x0 x1 x2 x3 x4 x5 x6 x7) K := by
  unfold J_X12_matched_128
  refine x_iload hO 4 rfl dX12_matched_128 ?_
  refine x_iload hO 7 rfl dX12_matched_130 ?_
  refine x_if_eq hO (tg := 159) dX12_matched_132 (by decide) ?_ ?_
  · refine x_iconst hO (v := 0) (by decide) dX12_matched_159 ?_
    refine x_iadd hO dX12_matched_160 ?_
    refine x_istore hO [(4, .int (x4 + ((0 : Int32)))), (0, rf Γ x0), (1, .int x1), (2, .int x2), (3, .int x3), (5, .int x5), (6, .int x6), (7, .int x7)] dX12_matched_161 (by decide) rfl ?_
    refine x_iinc hO 5 (v := 1) [(5, .int (x5 + (1 : Int32))), (4, .int (x4 + ((0 : Int32)))), (0, rf Γ x0), (1, .int x1), (2, .int x2), (3, .int x3), (6, .int x6), (7, .int x7)] dX12_matched_163 rfl (by decide) (by decide) rfl ?_
    refine x_goto hO (tg := 29) dX12_matched_166 (by decide) ?_
    exact x_leafs [2, 3, 4, 5, 1, 0] rfl (hC (x4 + ((0 : Int32))) (x5 + (1 : Int32)))
  · refine x_aload_n hO 0 rfl rfl dX12_matched_135 ?_
    refine x_iload hO 6 rfl dX12_matched_136 ?_
    refine x_iload_n hO 1 rfl rfl dX12_matched_138 ?_
    refine x_iload_n hO 2 rfl rfl dX12_matched_139 ?_
    refine y_PI (x_callV hO lv_RX12_340 hx0 vc_12 (by decide) (As := [.int x6, .int x1, .int x2]) rfl (Nat.le_of_ble_eq_true rfl) (ok_X12_inksOf (cG Γ) h x0 x6 x1 x2 hx0) dX12_matched_140 rfl (Nat.le_of_ble_eq_true rfl)) (fun r1 => ?_)
    refine x_iload_n hO 3 rfl rfl dX12_matched_143 ?_
    refine x_if_ne hO (tg := 151) dX12_matched_144 (by decide) ?_ ?_
    · refine x_iload_n hO 3 rfl rfl dX12_matched_151 ?_
      exact x_sub [0, 1, 2, 3, 5] rfl (go_X12_matched_J152 hO h x0 x1 x2 x3 x5 x4 r1 x3 hx0 hC hR)
    · refine x_iconst hO (v := 3) (by decide) dX12_matched_147 ?_
      refine x_goto hO (tg := 152) dX12_matched_148 (by decide) ?_
      exact x_sub [0, 1, 2, 3, 5] rfl (go_X12_matched_J152 hO h x0 x1 x2 x3 x5 x4 r1 ((3 : Int32)) hx0 hC hR)
noncomputable def B_X12_matched_29 (h : Hp) (x0 : Nat) (x1 : Int32) (x2 : Int32) (x3 : Int32) (x4 : Int32) (x5 : Int32) : Option ((Int32 × Int32) ⊕ (Hp × Int32)) :=
  gd (ib ((0 : Int32)) (LEN (GR x0 0))) (if (hI h (GR x0 0) (nx ((0 : Int32)))) ≤ x5 then (F_X12_gives h x0 x4).bind (fun r1 => some (.inr ((r1.1, r1.2)))) else (F_X12_numberOf h x0 x5 x1 x2).bind (fun r2 => if r2 = ((-1 : Int32)) then (L_X12_matched_78 h x0 x1 x2 x3 x4 x5 r2 ((0 : Int32)) ((0 : Int32))).bind (fun e3 => J_X12_matched_128 h x0 x1 x2 x3 x4 x5 r2 e3) else (F_X12_ofCard h x0 x5 ((9 : Int32))).bind (fun r4 => if r4 = ((-1 : Int32)) then (L_X12_matched_78 h x0 x1 x2 x3 x4 x5 r2 ((0 : Int32)) ((0 : Int32))).bind (fun e5 => J_X12_matched_128 h x0 x1 x2 x3 x4 x5 r2 e5) else (L_X12_matched_78 h x0 x1 x2 x3 x4 x5 r2 ((1 : Int32)) ((0 : Int32))).bind (fun e6 => J_X12_matched_128 h x0 x1 x2 x3 x4 x5 r2 e6))))
noncomputable def L_X12_matched_29 (h : Hp) (x0 : Nat) (x1 : Int32) (x2 : Int32) (x3 : Int32) (x4 : Int32) (x5 : Int32) : Option (Hp × Int32) := iterW (fun s : Int32 × Int32 => B_X12_matched_29 h x0 x1 x2 x3 s.1 s.2) (x4, x5)
set_option maxHeartbeats 4000000 in
set_option maxRecDepth 100000 in
theorem go_X12_matched_B29 {Γ : Cx} (hO : Ok Γ mX12_matched) (h : Hp) (x0 : Nat) (x1 : Int32) (x2 : Int32) (x3 : Int32) (x4 : Int32) (x5 : Int32) (hx0 : Is x0 12) {K : (Int32 × Int32) ⊕ (Hp × Int32) → Prop} (hC : ∀ (x4 : Int32) (x5 : Int32), K (.inl (x4, x5)) → EW Γ mX12_matched 29 [(0, rf Γ x0), (1, .int x1), (2, .int x2), (3, .int x3), (4, .int x4), (5, .int x5)] [] h) (hR : ∀ r, K (.inr r) → emHI r = tgt Γ) : EG Γ mX12_matched 29 [(0, rf Γ x0), (1, .int x1), (2, .int x2), (3, .int x3), (4, .int x4), (5, .int x5)] [] h (B_X12_matched_29 h x0 x1 x2 x3 x4 x5) K := by
  unfold B_X12_matched_29
  refine x_iload hO 5 rfl dX12_matched_29 ?_
  refine x_aload_n hO 0 rfl rfl dX12_matched_31 ?_
  refine x_getR hO fl_RX12_7 hx0 dX12_matched_32 ?_
  refine x_iconst hO (v := 0) (by decide) dX12_matched_35 ?_
  refine x_iald hO (gr_12_0 hx0) dX12_matched_36 ?_
  refine x_icmp_ge hO (tg := 169) dX12_matched_37 (by decide) ?_ ?_
  · refine x_aload_n hO 0 rfl rfl dX12_matched_169 ?_
    refine x_iload hO 4 rfl dX12_matched_170 ?_
    refine y_HI (x_callV hO lv_RX12_146 hx0 vc_12 (by decide) (As := [.int x4]) rfl (Nat.le_of_ble_eq_true rfl) (ok_X12_gives (cG Γ) h x0 x4 hx0) dX12_matched_172 rfl (Nat.le_of_ble_eq_true rfl)) (fun r1 => ?_)
    exact x_iret hO rfl dX12_matched_175 (hR _)
  · refine x_aload_n hO 0 rfl rfl dX12_matched_40 ?_
    refine x_iload hO 5 rfl dX12_matched_41 ?_
    refine x_iload_n hO 1 rfl rfl dX12_matched_43 ?_
    refine x_iload_n hO 2 rfl rfl dX12_matched_44 ?_
    refine y_PI (x_callV hO lv_RX12_321 hx0 vc_12 (by decide) (As := [.int x5, .int x1, .int x2]) rfl (Nat.le_of_ble_eq_true rfl) (ok_X12_numberOf (cG Γ) h x0 x5 x1 x2 hx0) dX12_matched_45 rfl (Nat.le_of_ble_eq_true rfl)) (fun r2 => ?_)
    refine x_istore hO [(6, .int r2), (0, rf Γ x0), (1, .int x1), (2, .int x2), (3, .int x3), (4, .int x4), (5, .int x5)] dX12_matched_48 (by decide) rfl ?_
    refine x_iload hO 0 rfl dX12_matched_50 ?_
    refine x_iconst hO (v := -1) (by decide) dX12_matched_52 ?_
    refine x_icmp_eq hO (tg := 72) dX12_matched_53 (by decide) ?_ ?_
    · refine x_iconst hO (v := 0) (by decide) dX12_matched_72 ?_
      refine x_istore hO [(7, .int ((0 : Int32))), (6, .int r2), (0, rf Γ x0), (1, .int x1), (2, .int x2), (3, .int x3), (4, .int x4), (5, .int x5)] dX12_matched_73 (by decide) rfl ?_
      refine x_iconst hO (v := 0) (by decide) dX12_matched_75 ?_
      refine x_istore hO [(8, .int ((0 : Int32))), (7, .int ((0 : Int32))), (6, .int r2), (0, rf Γ x0), (1, .int x1), (2, .int x2), (3, .int x3), (4, .int x4), (5, .int x5)] dX12_matched_76 (by decide) rfl ?_
      refine x_bind (x_sub [3, 4, 5, 6, 7, 8, 2, 1, 0] rfl (go_X12_matched_L78 hO h x0 x1 x2 x3 x4 x5 r2 ((0 : Int32)) ((0 : Int32)) hx0 (fun y3_0 hx => ?_)))
      refine x_run (t := (J_X12_matched_128 h x0 x1 x2 x3 x4 x5 r2 y3_0 : Option ((Int32 × Int32) ⊕ (Hp × Int32)))) hx ?_
      exact x_sub [0, 1, 2, 3, 4, 5, 6, 7] rfl (go_X12_matched_J128 hO h x0 x1 x2 x3 x4 x5 r2 y3_0 hx0 hC hR)
    · refine x_aload_n hO 1 rfl rfl dX12_matched_56 ?_
      refine x_iload hO 6 rfl dX12_matched_57 ?_
      refine x_bipush hO (v := 9) (by decide) dX12_matched_59 ?_
      refine y_PI (x_callV hO lv_RX12_130 hx0 vc_12 (by decide) (As := [.int x5, .int ((9 : Int32))]) rfl (Nat.le_of_ble_eq_true rfl) (ok_X12_ofCard (cG Γ) h x0 x5 ((9 : Int32)) hx0) dX12_matched_61 rfl (Nat.le_of_ble_eq_true rfl)) (fun r4 => ?_)
      refine x_iconst hO (v := -1) (by decide) dX12_matched_64 ?_
      refine x_icmp_eq hO (tg := 72) dX12_matched_65 (by decide) ?_ ?_
      · refine x_iconst hO (v := 0) (by decide) dX12_matched_72 ?_
        refine x_istore hO [(7, .int ((0 : Int32))), (6, .int r2), (0, rf Γ x0), (1, .int x1), (2, .int x2), (3, .int x3), (4, .int x4), (5, .int x5)] dX12_matched_73 (by decide) rfl ?_
        refine x_iconst hO (v := 0) (by decide) dX12_matched_75 ?_
        refine x_istore hO [(8, .int ((0 : Int32))), (7, .int ((0 : Int32))), (6, .int r2), (0, rf Γ x0), (1, .int x1), (2, .int x2), (3, .int x3), (4, .int x4), (5, .int x5)] dX12_matched_76 (by decide) rfl ?_
        refine x_bind (x_sub [3, 4, 5, 6, 7, 8, 2, 1, 0] rfl (go_X12_matched_L78 hO h x0 x1 x2 x3 x4 x5 r2 ((0 : Int32)) ((0 : Int32)) hx0 (fun y5_0 hx => ?_)))
        refine x_run (t := (J_X12_matched_128 h x0 x1 x2 x3 x4 x5 r2 y5_0 : Option ((Int32 × Int32) ⊕ (Hp × Int32)))) hx ?_
        exact x_sub [0, 1, 2, 3, 4, 5, 6, 7] rfl (go_X12_matched_J128 hO h x0 x1 x2 x3 x4 x5 r2 y5_0 hx0 hC hR)
      · refine x_iconst hO (v := 1) (by decide) dX12_matched_68 ?_
        refine x_goto hO (tg := 73) dX12_matched_69 (by decide) ?_
        refine x_istore hO [(7, .int ((1 : Int32))), (6, .int r2), (0, rf Γ x0), (1, .int x1), (2, .int x2), (3, .int x3), (4, .int x4), (5, .int x5)] dX12_matched_73 (by decide) rfl ?_
        refine x_iconst hO (v := 0) (by decide) dX12_matched_75 ?_
        refine x_istore hO [(8, .int ((0 : Int32))), (7, .int ((1 : Int32))), (6, .int r2), (0, rf Γ x0), (1, .int x1), (2, .int x2), (3, .int x3), (4, .int x4), (5, .int x5)] dX12_matched_76 (by decide) rfl ?_
        refine x_bind (x_sub [3, 4, 5, 6, 7, 8, 2, 1, 0] rfl (go_X12_matched_L78 hO h x0 x1 x2 x3 x4 x5 r2 ((1 : Int32)) ((0 : Int32)) hx0 (fun y6_0 hx => ?_)))
        refine x_run (t := (J_X12_matched_128 h x0 x1 x2 x3 x4 x5 r2 y6_0 : Option ((Int32 × Int32) ⊕ (Hp × Int32)))) hx ?_
        exact x_sub [0, 1, 2, 3, 4, 5, 6, 7] rfl (go_X12_matched_J128 hO h x0 x1 x2 x3 x4 x5 r2 y6_0 hx0 hC hR)
set_option maxHeartbeats 4000000 in
set_option maxRecDepth 100000 in
theorem go_X12_matched_L29 {Γ : Cx} (hO : Ok Γ mX12_matched) (h : Hp) (x0 : Nat) (x1 : Int32) (x2 : Int32) (x3 : Int32) (x4 : Int32) (x5 : Int32) (hx0 : Is x0 12) {K : Hp × Int32 → Prop} (hR : ∀ r, K (r) → emHI r = tgt Γ) : EG Γ mX12_matched 29 [(0, rf Γ x0), (1, .int x1), (2, .int x2), (3, .int x3), (4, .int x4), (5, .int x5)] [] h (L_X12_matched_29 h x0 x1 x2 x3 x4 x5) K := by
  have q := x_loop (Γ := Γ) (M := mX12_matched) (pc := 29) (B := fun s : Int32 × Int32 => B_X12_matched_29 h x0 x1 x2 x3 s.1 s.2) (lvf := fun s => [(0, rf Γ x0), (1, .int x1), (2, .int x2), (3, .int x3), (4, .int s.1), (5, .int s.2)]) (hf := fun s => h) (Ky := K) (fun s => go_X12_matched_B29 hO h x0 x1 x2 x3 s.1 s.2 hx0 (fun _ _ => id) hR) (x4, x5)
  exact q
noncomputable def F_X12_matched (h : Hp) (x0 : Nat) (x1 : Int32) (x2 : Int32) (x3 : Int32) : Option (Hp × Int32) :=
  (F_X12_isField h x1 x2).bind (fun r1 => if r1 = 0 then (F_X12_refuse h x0 ((1 : Int32))).bind (fun r2 => some ((r2.1, r2.2))) else if x3 < 0 then (F_X12_refuse h x0 ((1 : Int32))).bind (fun r3 => some ((r3.1, r3.2))) else if x3 ≤ ((2 : Int32)) then L_X12_matched_29 h x0 x1 x2 x3 ((0 : Int32)) ((0 : Int32)) else (F_X12_refuse h x0 ((1 : Int32))).bind (fun r4 => some ((r4.1, r4.2))))
set_option maxHeartbeats 4000000 in
set_option maxRecDepth 100000 in
theorem go_X12_matched {Γ : Cx} (hO : Ok Γ mX12_matched) (h : Hp) (x0 : Nat) (x1 : Int32) (x2 : Int32) (x3 : Int32) (hx0 : Is x0 12) {K : Hp × Int32 → Prop} (hR : ∀ r, K r → emHI r = tgt Γ) : EG Γ mX12_matched 0 [(0, rf Γ x0), (1, .int x1), (2, .int x2), (3, .int x3)] [] h (F_X12_matched h x0 x1 x2 x3) K := by
  unfold F_X12_matched
  refine x_iload_n hO 1 rfl rfl dX12_matched_0 ?_
  refine x_iload_n hO 2 rfl rfl dX12_matched_1 ?_
  refine y_PI (x_callS hO lt_RX12_317 (As := [.int x1, .int x2]) rfl (Nat.le_of_ble_eq_true rfl) (ok_X12_isField (cG Γ) h x1 x2) dX12_matched_2 rfl (Nat.le_of_ble_eq_true rfl)) (fun r1 => ?_)
  refine x_if_eq hO (tg := 17) dX12_matched_5 (by decide) ?_ ?_
  · refine x_aload_n hO 0 rfl rfl dX12_matched_17 ?_
    refine x_iconst hO (v := 1) (by decide) dX12_matched_18 ?_
    refine y_HI (x_callV hO lv_RX12_137 hx0 vc_12 (by decide) (As := [.int ((1 : Int32))]) rfl (Nat.le_of_ble_eq_true rfl) (ok_X12_refuse (cG Γ) h x0 ((1 : Int32)) hx0) dX12_matched_19 rfl (Nat.le_of_ble_eq_true rfl)) (fun r2 => ?_)
    exact x_iret hO rfl dX12_matched_22 (hR _)
  · refine x_iload_n hO 3 rfl rfl dX12_matched_8 ?_
    refine x_if_lt hO (tg := 17) dX12_matched_9 (by decide) ?_ ?_
    · refine x_aload_n hO 0 rfl rfl dX12_matched_17 ?_
      refine x_iconst hO (v := 1) (by decide) dX12_matched_18 ?_
      refine y_HI (x_callV hO lv_RX12_137 hx0 vc_12 (by decide) (As := [.int ((1 : Int32))]) rfl (Nat.le_of_ble_eq_true rfl) (ok_X12_refuse (cG Γ) h x0 ((1 : Int32)) hx0) dX12_matched_19 rfl (Nat.le_of_ble_eq_true rfl)) (fun r3 => ?_)
      exact x_iret hO rfl dX12_matched_22 (hR _)
    · refine x_iload_n hO 3 rfl rfl dX12_matched_12 ?_
      refine x_iconst hO (v := 2) (by decide) dX12_matched_13 ?_
      refine x_icmp_le hO (tg := 23) dX12_matched_14 (by decide) ?_ ?_
      · refine x_iconst hO (v := 0) (by decide) dX12_matched_23 ?_
        refine x_istore hO [(4, .int ((0 : Int32))), (0, rf Γ x0), (1, .int x1), (2, .int x2), (3, .int x3)] dX12_matched_24 (by decide) rfl ?_
        refine x_iconst hO (v := 0) (by decide) dX12_matched_26 ?_
        refine x_istore hO [(5, .int ((0 : Int32))), (4, .int ((0 : Int32))), (0, rf Γ x0), (1, .int x1), (2, .int x2), (3, .int x3)] dX12_matched_27 (by decide) rfl ?_
        exact x_sub [2, 3, 4, 5, 1, 0] rfl (go_X12_matched_L29 hO h x0 x1 x2 x3 ((0 : Int32)) ((0 : Int32)) hx0 hR)
      · refine x_aload_n hO 0 rfl rfl dX12_matched_17 ?_
        refine x_iconst hO (v := 1) (by decide) dX12_matched_18 ?_
        refine y_HI (x_callV hO lv_RX12_137 hx0 vc_12 (by decide) (As := [.int ((1 : Int32))]) rfl (Nat.le_of_ble_eq_true rfl) (ok_X12_refuse (cG Γ) h x0 ((1 : Int32)) hx0) dX12_matched_19 rfl (Nat.le_of_ble_eq_true rfl)) (fun r4 => ?_)
        exact x_iret hO rfl dX12_matched_22 (hR _)
theorem ok_X12_matched (G : Gl) (h : Hp) (x0 : Nat) (x1 : Int32) (x2 : Int32) (x3 : Int32) (hx0 : Is x0 12) : CN G mX12_matched [.ref (gb G + x0), .int x1, .int x2, .int x3] h ((F_X12_matched h x0 x1 x2 x3).map (emHI)) := CN.fn pn_RX12 (Nat.le_of_ble_eq_true rfl) (fun Γ hG hO => by subst hG; exact go_X12_matched hO h x0 x1 x2 x3 hx0 (fun _ q => q))
noncomputable def F_X12_ordered (h : Hp) (x0 : Nat) (x1 : Int32) (x2 : Int32) : Option (Hp × Int32) :=
  (F_X12_wrongKey h x0 x1 x2).bind (fun r1 => if r1.2 ≤ 0 then (F_X12_takes r1.1 x0).bind (fun r2 => (F_X12_isOrdered r2 x0).bind (fun r3 => if r3 = 0 then (F_X12_gives r2 x0 ((0 : Int32))).bind (fun r4 => some ((r4.1, r4.2))) else (F_X12_gives r2 x0 ((1 : Int32))).bind (fun r5 => some ((r5.1, r5.2))))) else (F_X12_refuse r1.1 x0 r1.2).bind (fun r6 => some ((r6.1, r6.2))))
set_option maxHeartbeats 4000000 in
set_option maxRecDepth 100000 in
theorem go_X12_ordered {Γ : Cx} (hO : Ok Γ mX12_ordered) (h : Hp) (x0 : Nat) (x1 : Int32) (x2 : Int32) (hx0 : Is x0 12) {K : Hp × Int32 → Prop} (hR : ∀ r, K r → emHI r = tgt Γ) : EG Γ mX12_ordered 0 [(0, rf Γ x0), (1, .int x1), (2, .int x2)] [] h (F_X12_ordered h x0 x1 x2) K := by
  unfold F_X12_ordered
  refine x_aload_n hO 0 rfl rfl dX12_ordered_0 ?_
  refine x_iload_n hO 1 rfl rfl dX12_ordered_1 ?_
  refine x_iload_n hO 2 rfl rfl dX12_ordered_2 ?_
  refine y_HI (x_callV hO lv_RX12_305 hx0 vc_12 (by decide) (As := [.int x1, .int x2]) rfl (Nat.le_of_ble_eq_true rfl) (ok_X12_wrongKey (cG Γ) h x0 x1 x2 hx0) dX12_ordered_3 rfl (Nat.le_of_ble_eq_true rfl)) (fun r1 => ?_)
  refine x_istore_n hO rfl [(3, .int r1.2), (0, rf Γ x0), (1, .int x1), (2, .int x2)] dX12_ordered_6 (by decide) rfl ?_
  refine x_iload_n hO 0 rfl rfl dX12_ordered_7 ?_
  refine x_if_le hO (tg := 17) dX12_ordered_8 (by decide) ?_ ?_
  · refine x_aload_n hO 1 rfl rfl dX12_ordered_17 ?_
    refine y_HV (x_callV hO lv_RX12_283 hx0 vc_12 (by decide) (As := []) rfl (Nat.le_of_ble_eq_true rfl) (ok_X12_takes (cG Γ) r1.1 x0 hx0) dX12_ordered_18 rfl (Nat.le_of_ble_eq_true rfl)) (fun r2 => ?_)
    refine x_aload_n hO 1 rfl rfl dX12_ordered_21 ?_
    refine x_aload_n hO 1 rfl rfl dX12_ordered_22 ?_
    refine y_PI (x_callV hO lv_RX12_308 hx0 vc_12 (by decide) (As := []) rfl (Nat.le_of_ble_eq_true rfl) (ok_X12_isOrdered (cG Γ) r2 x0 hx0) dX12_ordered_23 rfl (Nat.le_of_ble_eq_true rfl)) (fun r3 => ?_)
    refine x_if_eq hO (tg := 33) dX12_ordered_26 (by decide) ?_ ?_
    · refine x_iconst hO (v := 0) (by decide) dX12_ordered_33 ?_
      refine y_HI (x_callV hO lv_RX12_146 hx0 vc_12 (by decide) (As := [.int ((0 : Int32))]) rfl (Nat.le_of_ble_eq_true rfl) (ok_X12_gives (cG Γ) r2 x0 ((0 : Int32)) hx0) dX12_ordered_34 rfl (Nat.le_of_ble_eq_true rfl)) (fun r4 => ?_)
      exact x_iret hO rfl dX12_ordered_37 (hR _)
    · refine x_iconst hO (v := 1) (by decide) dX12_ordered_29 ?_
      refine x_goto hO (tg := 34) dX12_ordered_30 (by decide) ?_
      refine y_HI (x_callV hO lv_RX12_146 hx0 vc_12 (by decide) (As := [.int ((1 : Int32))]) rfl (Nat.le_of_ble_eq_true rfl) (ok_X12_gives (cG Γ) r2 x0 ((1 : Int32)) hx0) dX12_ordered_34 rfl (Nat.le_of_ble_eq_true rfl)) (fun r5 => ?_)
      exact x_iret hO rfl dX12_ordered_37 (hR _)
  · refine x_aload_n hO 1 rfl rfl dX12_ordered_11 ?_
    refine x_iload_n hO 0 rfl rfl dX12_ordered_12 ?_
    refine y_HI (x_callV hO lv_RX12_137 hx0 vc_12 (by decide) (As := [.int r1.2]) rfl (Nat.le_of_ble_eq_true rfl) (ok_X12_refuse (cG Γ) r1.1 x0 r1.2 hx0) dX12_ordered_13 rfl (Nat.le_of_ble_eq_true rfl)) (fun r6 => ?_)
    exact x_iret hO rfl dX12_ordered_16 (hR _)
theorem ok_X12_ordered (G : Gl) (h : Hp) (x0 : Nat) (x1 : Int32) (x2 : Int32) (hx0 : Is x0 12) : CN G mX12_ordered [.ref (gb G + x0), .int x1, .int x2] h ((F_X12_ordered h x0 x1 x2).map (emHI)) := CN.fn pn_RX12 (Nat.le_of_ble_eq_true rfl) (fun Γ hG hO => by subst hG; exact go_X12_ordered hO h x0 x1 x2 hx0 (fun _ q => q))
noncomputable def F_X12_pass (h : Hp) (x0 : Nat) (x1 : Int32) (x2 : Int32) : Option (Hp × Int32) :=
  (F_X12_isColumn h x1).bind (fun r1 => if r1 = 0 then (F_X12_refuse h x0 ((1 : Int32))).bind (fun r2 => some ((r2.1, r2.2))) else (F_X12_passesDeck h x0 x1 x2).bind (fun r3 => (F_X12_gives r3.1 x0 r3.2).bind (fun r4 => some ((r4.1, r4.2)))))
set_option maxHeartbeats 4000000 in
set_option maxRecDepth 100000 in
theorem go_X12_pass {Γ : Cx} (hO : Ok Γ mX12_pass) (h : Hp) (x0 : Nat) (x1 : Int32) (x2 : Int32) (hx0 : Is x0 12) {K : Hp × Int32 → Prop} (hR : ∀ r, K r → emHI r = tgt Γ) : EG Γ mX12_pass 0 [(0, rf Γ x0), (1, .int x1), (2, .int x2)] [] h (F_X12_pass h x0 x1 x2) K := by
  unfold F_X12_pass
  refine x_iload_n hO 1 rfl rfl dX12_pass_0 ?_
  refine y_PI (x_callS hO lt_RX12_152 (As := [.int x1]) rfl (Nat.le_of_ble_eq_true rfl) (ok_X12_isColumn (cG Γ) h x1) dX12_pass_1 rfl (Nat.le_of_ble_eq_true rfl)) (fun r1 => ?_)
  refine x_if_eq hO (tg := 20) dX12_pass_4 (by decide) ?_ ?_
  · refine x_aload_n hO 0 rfl rfl dX12_pass_20 ?_
    refine x_iconst hO (v := 1) (by decide) dX12_pass_21 ?_
    refine y_HI (x_callV hO lv_RX12_137 hx0 vc_12 (by decide) (As := [.int ((1 : Int32))]) rfl (Nat.le_of_ble_eq_true rfl) (ok_X12_refuse (cG Γ) h x0 ((1 : Int32)) hx0) dX12_pass_22 rfl (Nat.le_of_ble_eq_true rfl)) (fun r2 => ?_)
    exact x_iret hO rfl dX12_pass_25 (hR _)
  · refine x_aload_n hO 0 rfl rfl dX12_pass_7 ?_
    refine x_aload_n hO 0 rfl rfl dX12_pass_8 ?_
    refine x_iload_n hO 1 rfl rfl dX12_pass_9 ?_
    refine x_iload_n hO 2 rfl rfl dX12_pass_10 ?_
    refine y_HI (x_callV hO lv_RX12_293 hx0 vc_12 (by decide) (As := [.int x1, .int x2]) rfl (Nat.le_of_ble_eq_true rfl) (ok_X12_passesDeck (cG Γ) h x0 x1 x2 hx0) dX12_pass_11 rfl (Nat.le_of_ble_eq_true rfl)) (fun r3 => ?_)
    refine y_HI (x_callV hO lv_RX12_146 hx0 vc_12 (by decide) (As := [.int r3.2]) rfl (Nat.le_of_ble_eq_true rfl) (ok_X12_gives (cG Γ) r3.1 x0 r3.2 hx0) dX12_pass_14 rfl (Nat.le_of_ble_eq_true rfl)) (fun r4 => ?_)
    refine x_goto hO (tg := 25) dX12_pass_17 (by decide) ?_
    exact x_iret hO rfl dX12_pass_25 (hR _)
theorem ok_X12_pass (G : Gl) (h : Hp) (x0 : Nat) (x1 : Int32) (x2 : Int32) (hx0 : Is x0 12) : CN G mX12_pass [.ref (gb G + x0), .int x1, .int x2] h ((F_X12_pass h x0 x1 x2).map (emHI)) := CN.fn pn_RX12 (Nat.le_of_ble_eq_true rfl) (fun Γ hG hO => by subst hG; exact go_X12_pass hO h x0 x1 x2 hx0 (fun _ q => q))
noncomputable def F_X12_sum (h : Hp) (x0 : Nat) (x1 : Int32) (x2 : Int32) (x3 : Int32) (x4 : Int32) : Option (Hp × Int32) :=
  (F_X12_isField h x1 x2).bind (fun r1 => if r1 = 0 then (F_X12_refuse h x0 ((1 : Int32))).bind (fun r2 => some ((r2.1, r2.2))) else (F_X12_isWheel h x3).bind (fun r3 => if r3 = 0 then (F_X12_refuse h x0 ((1 : Int32))).bind (fun r4 => some ((r4.1, r4.2))) else if x4 < 0 then (F_X12_refuse h x0 ((1 : Int32))).bind (fun r5 => some ((r5.1, r5.2))) else if x4 ≤ ((1 : Int32)) then (F_X12_wholeSum h x0 x1 x2).bind (fun r6 => if x4 = 0 then (F_X12_tens h x3).bind (fun r9 => gd (!decide (r9 = 0)) ((F_X12_gives h x0 (r6 - r6 / r9 * r9)).bind (fun r10 => some ((r10.1, r10.2))))) else (F_X12_tens h x3).bind (fun r7 => gd (!decide (r7 = 0)) ((F_X12_gives h x0 (r6 / r7)).bind (fun r8 => some ((r8.1, r8.2)))))) else (F_X12_refuse h x0 ((1 : Int32))).bind (fun r11 => some ((r11.1, r11.2)))))
set_option maxHeartbeats 4000000 in
set_option maxRecDepth 100000 in
theorem go_X12_sum {Γ : Cx} (hO : Ok Γ mX12_sum) (h : Hp) (x0 : Nat) (x1 : Int32) (x2 : Int32) (x3 : Int32) (x4 : Int32) (hx0 : Is x0 12) {K : Hp × Int32 → Prop} (hR : ∀ r, K r → emHI r = tgt Γ) : EG Γ mX12_sum 0 [(0, rf Γ x0), (1, .int x1), (2, .int x2), (3, .int x3), (4, .int x4)] [] h (F_X12_sum h x0 x1 x2 x3 x4) K := by
  unfold F_X12_sum
  refine x_iload_n hO 1 rfl rfl dX12_sum_0 ?_
  refine x_iload_n hO 2 rfl rfl dX12_sum_1 ?_
  refine y_PI (x_callS hO lt_RX12_317 (As := [.int x1, .int x2]) rfl (Nat.le_of_ble_eq_true rfl) (ok_X12_isField (cG Γ) h x1 x2) dX12_sum_2 rfl (Nat.le_of_ble_eq_true rfl)) (fun r1 => ?_)
  refine x_if_eq hO (tg := 26) dX12_sum_5 (by decide) ?_ ?_
  · refine x_aload_n hO 0 rfl rfl dX12_sum_26 ?_
    refine x_iconst hO (v := 1) (by decide) dX12_sum_27 ?_
    refine y_HI (x_callV hO lv_RX12_137 hx0 vc_12 (by decide) (As := [.int ((1 : Int32))]) rfl (Nat.le_of_ble_eq_true rfl) (ok_X12_refuse (cG Γ) h x0 ((1 : Int32)) hx0) dX12_sum_28 rfl (Nat.le_of_ble_eq_true rfl)) (fun r2 => ?_)
    exact x_iret hO rfl dX12_sum_31 (hR _)
  · refine x_iload_n hO 3 rfl rfl dX12_sum_8 ?_
    refine y_PI (x_callS hO lt_RX12_327 (As := [.int x3]) rfl (Nat.le_of_ble_eq_true rfl) (ok_X12_isWheel (cG Γ) h x3) dX12_sum_9 rfl (Nat.le_of_ble_eq_true rfl)) (fun r3 => ?_)
    refine x_if_eq hO (tg := 26) dX12_sum_12 (by decide) ?_ ?_
    · refine x_aload_n hO 0 rfl rfl dX12_sum_26 ?_
      refine x_iconst hO (v := 1) (by decide) dX12_sum_27 ?_
      refine y_HI (x_callV hO lv_RX12_137 hx0 vc_12 (by decide) (As := [.int ((1 : Int32))]) rfl (Nat.le_of_ble_eq_true rfl) (ok_X12_refuse (cG Γ) h x0 ((1 : Int32)) hx0) dX12_sum_28 rfl (Nat.le_of_ble_eq_true rfl)) (fun r4 => ?_)
      exact x_iret hO rfl dX12_sum_31 (hR _)
    · refine x_iload hO 4 rfl dX12_sum_15 ?_
      refine x_if_lt hO (tg := 26) dX12_sum_17 (by decide) ?_ ?_
      · refine x_aload_n hO 0 rfl rfl dX12_sum_26 ?_
        refine x_iconst hO (v := 1) (by decide) dX12_sum_27 ?_
        refine y_HI (x_callV hO lv_RX12_137 hx0 vc_12 (by decide) (As := [.int ((1 : Int32))]) rfl (Nat.le_of_ble_eq_true rfl) (ok_X12_refuse (cG Γ) h x0 ((1 : Int32)) hx0) dX12_sum_28 rfl (Nat.le_of_ble_eq_true rfl)) (fun r5 => ?_)
        exact x_iret hO rfl dX12_sum_31 (hR _)
      · refine x_iload hO 4 rfl dX12_sum_20 ?_
        refine x_iconst hO (v := 1) (by decide) dX12_sum_22 ?_
        refine x_icmp_le hO (tg := 32) dX12_sum_23 (by decide) ?_ ?_
        · refine x_aload_n hO 0 rfl rfl dX12_sum_32 ?_
          refine x_iload_n hO 1 rfl rfl dX12_sum_33 ?_
          refine x_iload_n hO 2 rfl rfl dX12_sum_34 ?_
          refine y_PI (x_callV hO lv_RX12_330 hx0 vc_12 (by decide) (As := [.int x1, .int x2]) rfl (Nat.le_of_ble_eq_true rfl) (ok_X12_wholeSum (cG Γ) h x0 x1 x2 hx0) dX12_sum_35 rfl (Nat.le_of_ble_eq_true rfl)) (fun r6 => ?_)
          refine x_istore hO [(5, .int r6), (0, rf Γ x0), (1, .int x1), (2, .int x2), (3, .int x3), (4, .int x4)] dX12_sum_38 (by decide) rfl ?_
          refine x_aload_n hO 1 rfl rfl dX12_sum_40 ?_
          refine x_iload hO 5 rfl dX12_sum_41 ?_
          refine x_if_ne hO (tg := 56) dX12_sum_43 (by decide) ?_ ?_
          · refine x_iload hO 0 rfl dX12_sum_56 ?_
            refine x_iload_n hO 4 rfl rfl dX12_sum_58 ?_
            refine y_PI (x_callS hO lt_RX12_333 (As := [.int x3]) rfl (Nat.le_of_ble_eq_true rfl) (ok_X12_tens (cG Γ) h x3) dX12_sum_59 rfl (Nat.le_of_ble_eq_true rfl)) (fun r7 => ?_)
            refine x_idiv hO dX12_sum_62 ?_
            refine y_HI (x_callV hO lv_RX12_146 hx0 vc_12 (by decide) (As := [.int (r6 / r7)]) rfl (Nat.le_of_ble_eq_true rfl) (ok_X12_gives (cG Γ) h x0 (r6 / r7) hx0) dX12_sum_63 rfl (Nat.le_of_ble_eq_true rfl)) (fun r8 => ?_)
            exact x_iret hO rfl dX12_sum_66 (hR _)
          · refine x_iload hO 0 rfl dX12_sum_46 ?_
            refine x_iload_n hO 4 rfl rfl dX12_sum_48 ?_
            refine y_PI (x_callS hO lt_RX12_333 (As := [.int x3]) rfl (Nat.le_of_ble_eq_true rfl) (ok_X12_tens (cG Γ) h x3) dX12_sum_49 rfl (Nat.le_of_ble_eq_true rfl)) (fun r9 => ?_)
            refine x_irem hO dX12_sum_52 ?_
            refine x_goto hO (tg := 63) dX12_sum_53 (by decide) ?_
            refine y_HI (x_callV hO lv_RX12_146 hx0 vc_12 (by decide) (As := [.int (r6 - r6 / r9 * r9)]) rfl (Nat.le_of_ble_eq_true rfl) (ok_X12_gives (cG Γ) h x0 (r6 - r6 / r9 * r9) hx0) dX12_sum_63 rfl (Nat.le_of_ble_eq_true rfl)) (fun r10 => ?_)
            exact x_iret hO rfl dX12_sum_66 (hR _)
        · refine x_aload_n hO 0 rfl rfl dX12_sum_26 ?_
          refine x_iconst hO (v := 1) (by decide) dX12_sum_27 ?_
          refine y_HI (x_callV hO lv_RX12_137 hx0 vc_12 (by decide) (As := [.int ((1 : Int32))]) rfl (Nat.le_of_ble_eq_true rfl) (ok_X12_refuse (cG Γ) h x0 ((1 : Int32)) hx0) dX12_sum_28 rfl (Nat.le_of_ble_eq_true rfl)) (fun r11 => ?_)
          exact x_iret hO rfl dX12_sum_31 (hR _)
theorem ok_X12_sum (G : Gl) (h : Hp) (x0 : Nat) (x1 : Int32) (x2 : Int32) (x3 : Int32) (x4 : Int32) (hx0 : Is x0 12) : CN G mX12_sum [.ref (gb G + x0), .int x1, .int x2, .int x3, .int x4] h ((F_X12_sum h x0 x1 x2 x3 x4).map (emHI)) := CN.fn pn_RX12 (Nat.le_of_ble_eq_true rfl) (fun Γ hG hO => by subst hG; exact go_X12_sum hO h x0 x1 x2 x3 x4 hx0 (fun _ q => q))
noncomputable def B_X12_triesRow_8 (h : Hp) (x0 : Nat) (x1 : Int32) (x2 : Int32) (x3 : Int32) : Option ((Hp × Int32 × Int32) ⊕ (Hp × Int32)) :=
  if x1 ≤ x3 then some (.inr ((h, x2))) else gd (ib x3 (LEN (GR x0 32))) ((F_X12_passes h x0 (hI h (GR x0 32) (nx x3)) ((0 : Int32))).bind (fun r1 => some (.inl (r1, x2 + (hI r1 x0 27), x3 + (1 : Int32)))))
noncomputable def L_X12_triesRow_8 (h : Hp) (x0 : Nat) (x1 : Int32) (x2 : Int32) (x3 : Int32) : Option (Hp × Int32) := iterW (fun s : Hp × Int32 × Int32 => B_X12_triesRow_8 s.1 x0 x1 s.2.1 s.2.2) (h, x2, x3)
set_option maxHeartbeats 4000000 in
set_option maxRecDepth 100000 in
theorem go_X12_triesRow_B8 {Γ : Cx} (hO : Ok Γ mX12_triesRow) (h : Hp) (x0 : Nat) (x1 : Int32) (x2 : Int32) (x3 : Int32) (hx0 : Is x0 12) {K : (Hp × Int32 × Int32) ⊕ (Hp × Int32) → Prop} (hC : ∀ (h : Hp) (x2 : Int32) (x3 : Int32), K (.inl (h, x2, x3)) → EW Γ mX12_triesRow 8 [(0, rf Γ x0), (1, .int x1), (2, .int x2), (3, .int x3)] [] h) (hE37 : ∀ (h : Hp) (x2 : Int32), K (.inr ((h, x2))) → EW Γ mX12_triesRow 37 [(0, rf Γ x0), (2, .int x2)] [] h) : EG Γ mX12_triesRow 8 [(0, rf Γ x0), (1, .int x1), (2, .int x2), (3, .int x3)] [] h (B_X12_triesRow_8 h x0 x1 x2 x3) K := by
  unfold B_X12_triesRow_8
  refine x_iload_n hO 3 rfl rfl dX12_triesRow_8 ?_
  refine x_iload_n hO 1 rfl rfl dX12_triesRow_9 ?_
  refine x_icmp_ge hO (tg := 37) dX12_triesRow_10 (by decide) ?_ ?_
  · exact x_leafs [0, 2] rfl (hE37 h x2)
  · refine x_aload_n hO 0 rfl rfl dX12_triesRow_13 ?_
    refine x_aload_n hO 0 rfl rfl dX12_triesRow_14 ?_
    refine x_getR hO fl_RX12_68 hx0 dX12_triesRow_15 ?_
    refine x_iload_n hO 3 rfl rfl dX12_triesRow_18 ?_
    refine x_iald hO (gr_12_32 hx0) dX12_triesRow_19 ?_
    refine x_iconst hO (v := 0) (by decide) dX12_triesRow_20 ?_
    refine y_HV (x_callV hO lv_RX12_286 hx0 vc_12 (by decide) (As := [.int (hI h (GR x0 32) (nx x3)), .int ((0 : Int32))]) rfl (Nat.le_of_ble_eq_true rfl) (ok_X12_passes (cG Γ) h x0 (hI h (GR x0 32) (nx x3)) ((0 : Int32)) hx0) dX12_triesRow_21 rfl (Nat.le_of_ble_eq_true rfl)) (fun r1 => ?_)
    refine x_iload_n hO 2 rfl rfl dX12_triesRow_24 ?_
    refine x_aload_n hO 0 rfl rfl dX12_triesRow_25 ?_
    refine x_getI hO fl_RX12_280 hx0 dX12_triesRow_26 ?_
    refine x_iadd hO dX12_triesRow_29 ?_
    refine x_istore_n hO rfl [(2, .int (x2 + (hI r1 x0 27))), (0, rf Γ x0), (1, .int x1), (3, .int x3)] dX12_triesRow_30 (by decide) rfl ?_
    refine x_iinc hO 3 (v := 1) [(3, .int (x3 + (1 : Int32))), (2, .int (x2 + (hI r1 x0 27))), (0, rf Γ x0), (1, .int x1)] dX12_triesRow_31 rfl (by decide) (by decide) rfl ?_
    refine x_goto hO (tg := 8) dX12_triesRow_34 (by decide) ?_
    exact x_leafs [2, 3, 1, 0] rfl (hC r1 (x2 + (hI r1 x0 27)) (x3 + (1 : Int32)))
set_option maxHeartbeats 4000000 in
set_option maxRecDepth 100000 in
theorem go_X12_triesRow_L8 {Γ : Cx} (hO : Ok Γ mX12_triesRow) (h : Hp) (x0 : Nat) (x1 : Int32) (x2 : Int32) (x3 : Int32) (hx0 : Is x0 12) {K : Hp × Int32 → Prop} (hE37 : ∀ (h : Hp) (x2 : Int32), K ((h, x2)) → EW Γ mX12_triesRow 37 [(0, rf Γ x0), (2, .int x2)] [] h) : EG Γ mX12_triesRow 8 [(0, rf Γ x0), (1, .int x1), (2, .int x2), (3, .int x3)] [] h (L_X12_triesRow_8 h x0 x1 x2 x3) K := by
  have q := x_loop (Γ := Γ) (M := mX12_triesRow) (pc := 8) (B := fun s : Hp × Int32 × Int32 => B_X12_triesRow_8 s.1 x0 x1 s.2.1 s.2.2) (lvf := fun s => [(0, rf Γ x0), (1, .int x1), (2, .int s.2.1), (3, .int s.2.2)]) (hf := fun s => s.1) (Ky := K) (fun s => go_X12_triesRow_B8 hO s.1 x0 x1 s.2.1 s.2.2 hx0 (fun _ _ _ => id) hE37) (h, x2, x3)
  exact q
noncomputable def F_X12_triesRow (h : Hp) (x0 : Nat) (x1 : Int32) : Option (Hp × Int32) :=
  (F_X12_takes h x0).bind (fun r1 => (L_X12_triesRow_8 r1 x0 x1 ((0 : Int32)) ((0 : Int32))).bind (fun e2 => (F_X12_isOrdered e2.1 x0).bind (fun r3 => if r3 = 0 then some ((e2.1, (-1 : Int32))) else some ((e2.1, e2.2)))))
set_option maxHeartbeats 4000000 in
set_option maxRecDepth 100000 in
theorem go_X12_triesRow {Γ : Cx} (hO : Ok Γ mX12_triesRow) (h : Hp) (x0 : Nat) (x1 : Int32) (hx0 : Is x0 12) {K : Hp × Int32 → Prop} (hR : ∀ r, K r → emHI r = tgt Γ) : EG Γ mX12_triesRow 0 [(0, rf Γ x0), (1, .int x1)] [] h (F_X12_triesRow h x0 x1) K := by
  unfold F_X12_triesRow
  refine x_iconst hO (v := 0) (by decide) dX12_triesRow_0 ?_
  refine x_istore_n hO rfl [(2, .int ((0 : Int32))), (0, rf Γ x0), (1, .int x1)] dX12_triesRow_1 (by decide) rfl ?_
  refine x_aload_n hO 1 rfl rfl dX12_triesRow_2 ?_
  refine y_HV (x_callV hO lv_RX12_283 hx0 vc_12 (by decide) (As := []) rfl (Nat.le_of_ble_eq_true rfl) (ok_X12_takes (cG Γ) h x0 hx0) dX12_triesRow_3 rfl (Nat.le_of_ble_eq_true rfl)) (fun r1 => ?_)
  refine x_iconst hO (v := 0) (by decide) dX12_triesRow_6 ?_
  refine x_istore_n hO rfl [(3, .int ((0 : Int32))), (2, .int ((0 : Int32))), (0, rf Γ x0), (1, .int x1)] dX12_triesRow_7 (by decide) rfl ?_
  refine x_bind (x_sub [2, 3, 1, 0] rfl (go_X12_triesRow_L8 hO r1 x0 x1 ((0 : Int32)) ((0 : Int32)) hx0 (fun y2_0 y2_1 hx => ?_)))
  refine x_run (t := ((F_X12_isOrdered y2_0 x0).bind (fun r3 => if r3 = 0 then some ((y2_0, (-1 : Int32))) else some ((y2_0, y2_1))) : Option (Hp × Int32))) hx ?_
  refine x_aload_n hO 0 rfl rfl dX12_triesRow_37 ?_
  refine y_PI (x_callV hO lv_RX12_308 hx0 vc_12 (by decide) (As := []) rfl (Nat.le_of_ble_eq_true rfl) (ok_X12_isOrdered (cG Γ) y2_0 x0 hx0) dX12_triesRow_38 rfl (Nat.le_of_ble_eq_true rfl)) (fun r3 => ?_)
  refine x_if_eq hO (tg := 48) dX12_triesRow_41 (by decide) ?_ ?_
  · refine x_iconst hO (v := -1) (by decide) dX12_triesRow_48 ?_
    exact x_iret hO rfl dX12_triesRow_49 (hR _)
  · refine x_iload_n hO 1 rfl rfl dX12_triesRow_44 ?_
    refine x_goto hO (tg := 49) dX12_triesRow_45 (by decide) ?_
    exact x_iret hO rfl dX12_triesRow_49 (hR _)
theorem ok_X12_triesRow (G : Gl) (h : Hp) (x0 : Nat) (x1 : Int32) (hx0 : Is x0 12) : CN G mX12_triesRow [.ref (gb G + x0), .int x1] h ((F_X12_triesRow h x0 x1).map (emHI)) := CN.fn pn_RX12 (Nat.le_of_ble_eq_true rfl) (fun Γ hG hO => by subst hG; exact go_X12_triesRow hO h x0 x1 hx0 (fun _ q => q))
noncomputable def J_X3_collateBy_50 (h : Hp) (x0 : Nat) (x1 : Nat) (x2 : Int32) (x3 : Int32) (x4 : Int32) (x5 : Int32) (x6 : Int32) : Option ((Hp × Int32 × Int32 × Int32) ⊕ (Hp × Int32)) :=
  (F_X3_zeroComesFirst h x1 x5 x6 x2 x3).bind (fun r1 => if r1 = 0 then gd (ib x6 (LEN (GR x1 7))) (gd (ib x4 (LEN (GR x0 0))) ((F_X3_nextInInk (uI h (GR x0 0) (nx x4) (hI h (GR x1 7) (nx x6))) x1 (x6 + ((1 : Int32))) ((1 : Int32)) x2 x3).bind (fun r2 => some (.inl (uI h (GR x0 0) (nx x4) (hI h (GR x1 7) (nx x6)), x4 + (1 : Int32), x5, r2))))) else gd (ib x5 (LEN (GR x1 7))) (gd (ib x4 (LEN (GR x0 0))) ((F_X3_nextInInk (uI h (GR x0 0) (nx x4) (hI h (GR x1 7) (nx x5))) x1 (x5 + ((1 : Int32))) ((0 : Int32)) x2 x3).bind (fun r3 => some (.inl (uI h (GR x0 0) (nx x4) (hI h (GR x1 7) (nx x5)), x4 + (1 : Int32), r3, x6))))))
set_option maxHeartbeats 4000000 in
set_option maxRecDepth 100000 in
theorem go_X3_collateBy_J50 {Γ : Cx} (hO : Ok Γ mX3_collateBy) (h : Hp) (x0 : Nat) (x1 : Nat) (x2 : Int32) (x3 : Int32) (x4 : Int32) (x5 : Int32) (x6 : Int32) (hx0 : Is x0 3) (hx1 : Is x1 2) {K : (Hp × Int32 × Int32 × Int32) ⊕ (Hp × Int32) → Prop} (hC : ∀ (h : Hp) (x4 : Int32) (x5 : Int32) (x6 : Int32), K (.inl (h, x4, x5, x6)) → EW Γ mX3_collateBy 23 [(0, rf Γ x0), (1, rf Γ x1), (2, .int x2), (3, .int x3), (4, .int x4), (5, .int x5), (6, .int x6)] [] h) (hE126 : ∀ (h : Hp) (x4 : Int32), K (.inr ((h, x4))) → EW Γ mX3_collateBy 126 [(0, rf Γ x0), (1, rf Γ x1), (2, .int x2), (3, .int x3), (4, .int x4)] [] h) : EG Γ mX3_collateBy 50 [(0, rf Γ x0), (1, rf Γ x1), (2, .int x2), (3, .int x3), (4, .int x4), (5, .int x5), (6, .int x6)] [] h (J_X3_collateBy_50 h x0 x1 x2 x3 x4 x5 x6) K := by
  unfold J_X3_collateBy_50
  refine x_aload_n hO 1 rfl rfl dX3_collateBy_50 ?_
  refine x_iload hO 5 rfl dX3_collateBy_51 ?_
  refine x_iload hO 6 rfl dX3_collateBy_53 ?_
  refine x_iload_n hO 2 rfl rfl dX3_collateBy_55 ?_
  refine x_iload_n hO 3 rfl rfl dX3_collateBy_56 ?_
  refine y_PI (x_callS hO lt_RX3_83 (As := [rf Γ x1, .int x5, .int x6, .int x2, .int x3]) rfl (Nat.le_of_ble_eq_true rfl) (ok_X3_zeroComesFirst (cG Γ) h x1 x5 x6 x2 x3 hx1) dX3_collateBy_57 rfl (Nat.le_of_ble_eq_true rfl)) (fun r1 => ?_)
  refine x_if_eq hO (tg := 93) dX3_collateBy_60 (by decide) ?_ ?_
  · refine x_aload_n hO 0 rfl rfl dX3_collateBy_93 ?_
    refine x_getR hO fl_RX3_9 hx0 dX3_collateBy_94 ?_
    refine x_iload hO 4 rfl dX3_collateBy_97 ?_
    refine x_aload_n hO 1 rfl rfl dX3_collateBy_99 ?_
    refine x_getR hO fl_RX3_53 hx1 dX3_collateBy_100 ?_
    refine x_iload hO 6 rfl dX3_collateBy_103 ?_
    refine x_iald hO (gr_2_7 hx1) dX3_collateBy_105 ?_
    refine x_iast hO (gr_3_0 hx0) dX3_collateBy_106 ?_
    refine x_aload_n hO 1 rfl rfl dX3_collateBy_107 ?_
    refine x_iload hO 6 rfl dX3_collateBy_108 ?_
    refine x_iconst hO (v := 1) (by decide) dX3_collateBy_110 ?_
    refine x_iadd hO dX3_collateBy_111 ?_
    refine x_iconst hO (v := 1) (by decide) dX3_collateBy_112 ?_
    refine x_iload_n hO 2 rfl rfl dX3_collateBy_113 ?_
    refine x_iload_n hO 3 rfl rfl dX3_collateBy_114 ?_
    refine y_PI (x_callS hO lt_RX3_79 (As := [rf Γ x1, .int (x6 + ((1 : Int32))), .int ((1 : Int32)), .int x2, .int x3]) rfl (Nat.le_of_ble_eq_true rfl) (ok_X3_nextInInk (cG Γ) (uI h (GR x0 0) (nx x4) (hI h (GR x1 7) (nx x6))) x1 (x6 + ((1 : Int32))) ((1 : Int32)) x2 x3 hx1) dX3_collateBy_115 rfl (Nat.le_of_ble_eq_true rfl)) (fun r2 => ?_)
    refine x_istore hO [(6, .int r2), (0, rf Γ x0), (1, rf Γ x1), (2, .int x2), (3, .int x3), (4, .int x4), (5, .int x5)] dX3_collateBy_118 (by decide) rfl ?_
    refine x_iinc hO 5 (v := 1) [(4, .int (x4 + (1 : Int32))), (6, .int r2), (0, rf Γ x0), (1, rf Γ x1), (2, .int x2), (3, .int x3), (5, .int x5)] dX3_collateBy_120 rfl (by decide) (by decide) rfl ?_
    refine x_goto hO (tg := 23) dX3_collateBy_123 (by decide) ?_
    exact x_leafs [2, 3, 4, 5, 0, 6, 1] rfl (hC (uI h (GR x0 0) (nx x4) (hI h (GR x1 7) (nx x6))) (x4 + (1 : Int32)) x5 r2)
  · refine x_aload_n hO 0 rfl rfl dX3_collateBy_63 ?_
    refine x_getR hO fl_RX3_9 hx0 dX3_collateBy_64 ?_
    refine x_iload hO 4 rfl dX3_collateBy_67 ?_
    refine x_aload_n hO 1 rfl rfl dX3_collateBy_69 ?_
    refine x_getR hO fl_RX3_53 hx1 dX3_collateBy_70 ?_
    refine x_iload hO 5 rfl dX3_collateBy_73 ?_
    refine x_iald hO (gr_2_7 hx1) dX3_collateBy_75 ?_
    refine x_iast hO (gr_3_0 hx0) dX3_collateBy_76 ?_
    refine x_aload_n hO 1 rfl rfl dX3_collateBy_77 ?_
    refine x_iload hO 5 rfl dX3_collateBy_78 ?_
    refine x_iconst hO (v := 1) (by decide) dX3_collateBy_80 ?_
    refine x_iadd hO dX3_collateBy_81 ?_
    refine x_iconst hO (v := 0) (by decide) dX3_collateBy_82 ?_
    refine x_iload_n hO 2 rfl rfl dX3_collateBy_83 ?_
    refine x_iload_n hO 3 rfl rfl dX3_collateBy_84 ?_
    refine y_PI (x_callS hO lt_RX3_79 (As := [rf Γ x1, .int (x5 + ((1 : Int32))), .int ((0 : Int32)), .int x2, .int x3]) rfl (Nat.le_of_ble_eq_true rfl) (ok_X3_nextInInk (cG Γ) (uI h (GR x0 0) (nx x4) (hI h (GR x1 7) (nx x5))) x1 (x5 + ((1 : Int32))) ((0 : Int32)) x2 x3 hx1) dX3_collateBy_85 rfl (Nat.le_of_ble_eq_true rfl)) (fun r3 => ?_)
    refine x_istore hO [(5, .int r3), (0, rf Γ x0), (1, rf Γ x1), (2, .int x2), (3, .int x3), (4, .int x4), (6, .int x6)] dX3_collateBy_88 (by decide) rfl ?_
    refine x_goto hO (tg := 120) dX3_collateBy_90 (by decide) ?_
    refine x_iinc hO 5 (v := 1) [(4, .int (x4 + (1 : Int32))), (5, .int r3), (0, rf Γ x0), (1, rf Γ x1), (2, .int x2), (3, .int x3), (6, .int x6)] dX3_collateBy_120 rfl (by decide) (by decide) rfl ?_
    refine x_goto hO (tg := 23) dX3_collateBy_123 (by decide) ?_
    exact x_leafs [2, 3, 4, 5, 0, 1, 6] rfl (hC (uI h (GR x0 0) (nx x4) (hI h (GR x1 7) (nx x5))) (x4 + (1 : Int32)) r3 x6)
noncomputable def B_X3_collateBy_23 (h : Hp) (x0 : Nat) (x1 : Nat) (x2 : Int32) (x3 : Int32) (x4 : Int32) (x5 : Int32) (x6 : Int32) : Option ((Hp × Int32 × Int32 × Int32) ⊕ (Hp × Int32)) :=
  if (hI h x1 0) ≤ x4 then some (.inr ((h, x4))) else if x5 < (hI h x1 0) then J_X3_collateBy_50 h x0 x1 x2 x3 x4 x5 x6 else if (hI h x1 0) ≤ x6 then some (.inr ((h, x4))) else J_X3_collateBy_50 h x0 x1 x2 x3 x4 x5 x6
noncomputable def L_X3_collateBy_23 (h : Hp) (x0 : Nat) (x1 : Nat) (x2 : Int32) (x3 : Int32) (x4 : Int32) (x5 : Int32) (x6 : Int32) : Option (Hp × Int32) := iterW (fun s : Hp × Int32 × Int32 × Int32 => B_X3_collateBy_23 s.1 x0 x1 x2 x3 s.2.1 s.2.2.1 s.2.2.2) (h, x4, x5, x6)
set_option maxHeartbeats 4000000 in
set_option maxRecDepth 100000 in
theorem go_X3_collateBy_B23 {Γ : Cx} (hO : Ok Γ mX3_collateBy) (h : Hp) (x0 : Nat) (x1 : Nat) (x2 : Int32) (x3 : Int32) (x4 : Int32) (x5 : Int32) (x6 : Int32) (hx0 : Is x0 3) (hx1 : Is x1 2) {K : (Hp × Int32 × Int32 × Int32) ⊕ (Hp × Int32) → Prop} (hC : ∀ (h : Hp) (x4 : Int32) (x5 : Int32) (x6 : Int32), K (.inl (h, x4, x5, x6)) → EW Γ mX3_collateBy 23 [(0, rf Γ x0), (1, rf Γ x1), (2, .int x2), (3, .int x3), (4, .int x4), (5, .int x5), (6, .int x6)] [] h) (hE126 : ∀ (h : Hp) (x4 : Int32), K (.inr ((h, x4))) → EW Γ mX3_collateBy 126 [(0, rf Γ x0), (1, rf Γ x1), (2, .int x2), (3, .int x3), (4, .int x4)] [] h) : EG Γ mX3_collateBy 23 [(0, rf Γ x0), (1, rf Γ x1), (2, .int x2), (3, .int x3), (4, .int x4), (5, .int x5), (6, .int x6)] [] h (B_X3_collateBy_23 h x0 x1 x2 x3 x4 x5 x6) K := by
  unfold B_X3_collateBy_23
  refine x_iload hO 4 rfl dX3_collateBy_23 ?_
  refine x_aload_n hO 1 rfl rfl dX3_collateBy_25 ?_
  refine x_getI hO fl_RX3_45 hx1 dX3_collateBy_26 ?_
  refine x_icmp_ge hO (tg := 126) dX3_collateBy_29 (by decide) ?_ ?_
  · exact x_leafs [0, 1, 2, 3, 4] rfl (hE126 h x4)
  · refine x_iload hO 5 rfl dX3_collateBy_32 ?_
    refine x_aload_n hO 1 rfl rfl dX3_collateBy_34 ?_
    refine x_getI hO fl_RX3_45 hx1 dX3_collateBy_35 ?_
    refine x_icmp_lt hO (tg := 50) dX3_collateBy_38 (by decide) ?_ ?_
    · exact x_sub [0, 1, 2, 3, 4, 5, 6] rfl (go_X3_collateBy_J50 hO h x0 x1 x2 x3 x4 x5 x6 hx0 hx1 hC hE126)
    · refine x_iload hO 6 rfl dX3_collateBy_41 ?_
      refine x_aload_n hO 1 rfl rfl dX3_collateBy_43 ?_
      refine x_getI hO fl_RX3_45 hx1 dX3_collateBy_44 ?_
      refine x_icmp_ge hO (tg := 126) dX3_collateBy_47 (by decide) ?_ ?_
      · exact x_leafs [0, 1, 2, 3, 4] rfl (hE126 h x4)
      · exact x_sub [0, 1, 2, 3, 4, 5, 6] rfl (go_X3_collateBy_J50 hO h x0 x1 x2 x3 x4 x5 x6 hx0 hx1 hC hE126)
set_option maxHeartbeats 4000000 in
set_option maxRecDepth 100000 in
theorem go_X3_collateBy_L23 {Γ : Cx} (hO : Ok Γ mX3_collateBy) (h : Hp) (x0 : Nat) (x1 : Nat) (x2 : Int32) (x3 : Int32) (x4 : Int32) (x5 : Int32) (x6 : Int32) (hx0 : Is x0 3) (hx1 : Is x1 2) {K : Hp × Int32 → Prop} (hE126 : ∀ (h : Hp) (x4 : Int32), K ((h, x4)) → EW Γ mX3_collateBy 126 [(0, rf Γ x0), (1, rf Γ x1), (2, .int x2), (3, .int x3), (4, .int x4)] [] h) : EG Γ mX3_collateBy 23 [(0, rf Γ x0), (1, rf Γ x1), (2, .int x2), (3, .int x3), (4, .int x4), (5, .int x5), (6, .int x6)] [] h (L_X3_collateBy_23 h x0 x1 x2 x3 x4 x5 x6) K := by
  have q := x_loop (Γ := Γ) (M := mX3_collateBy) (pc := 23) (B := fun s : Hp × Int32 × Int32 × Int32 => B_X3_collateBy_23 s.1 x0 x1 x2 x3 s.2.1 s.2.2.1 s.2.2.2) (lvf := fun s => [(0, rf Γ x0), (1, rf Γ x1), (2, .int x2), (3, .int x3), (4, .int s.2.1), (5, .int s.2.2.1), (6, .int s.2.2.2)]) (hf := fun s => s.1) (Ky := K) (fun s => go_X3_collateBy_B23 hO s.1 x0 x1 x2 x3 s.2.1 s.2.2.1 s.2.2.2 hx0 hx1 (fun _ _ _ _ => id) hE126) (h, x4, x5, x6)
  exact q
noncomputable def B_X3_collateBy_138 (h : Hp) (x0 : Nat) (x1 : Nat) (x2 : Int32) (x3 : Int32) (x7 : Int32) (x4 : Int32) (x8 : Int32) : Option ((Hp × Int32 × Int32) ⊕ (Hp × Int32)) :=
  if (hI h x1 0) ≤ x8 then gd (cpok ((0 : Int32)) ((0 : Int32)) (hI h x1 0) (LEN (GR x0 0)) (LEN (GR x1 7))) (some (.inr ((sI h (GR x1 7) (va_cpy (hI h (GR x0 0)) (hI h (GR x1 7)) (nx ((0 : Int32))) (nx ((0 : Int32))) (nx (hI h x1 0))), x7)))) else if (hI h x1 0) ≤ x4 then gd (cpok ((0 : Int32)) ((0 : Int32)) (hI h x1 0) (LEN (GR x0 0)) (LEN (GR x1 7))) (some (.inr ((sI h (GR x1 7) (va_cpy (hI h (GR x0 0)) (hI h (GR x1 7)) (nx ((0 : Int32))) (nx ((0 : Int32))) (nx (hI h x1 0))), x7)))) else gd (ib x8 (LEN (GR x1 7))) (gd (ib (hI h (GR x1 7) (nx x8)) (LEN (GR x1 5))) (if (hI h (GR x1 5) (nx (hI h (GR x1 7) (nx x8)))) = ((-1 : Int32)) then gd (ib x4 (LEN (GR x0 0))) (some (.inl (uI h (GR x0 0) (nx x4) (hI h (GR x1 7) (nx x8)), x4 + (1 : Int32), x8 + (1 : Int32)))) else (F_X2_fieldOf h x1 (hI h (GR x1 7) (nx x8)) x2 x3).bind (fun r1 => if r1 = ((-1 : Int32)) then gd (ib x4 (LEN (GR x0 0))) (some (.inl (uI h (GR x0 0) (nx x4) (hI h (GR x1 7) (nx x8)), x4 + (1 : Int32), x8 + (1 : Int32)))) else some (.inl (h, x4, x8 + (1 : Int32))))))
noncomputable def L_X3_collateBy_138 (h : Hp) (x0 : Nat) (x1 : Nat) (x2 : Int32) (x3 : Int32) (x7 : Int32) (x4 : Int32) (x8 : Int32) : Option (Hp × Int32) := iterW (fun s : Hp × Int32 × Int32 => B_X3_collateBy_138 s.1 x0 x1 x2 x3 x7 s.2.1 s.2.2) (h, x4, x8)
set_option maxHeartbeats 4000000 in
set_option maxRecDepth 100000 in
theorem go_X3_collateBy_B138 {Γ : Cx} (hO : Ok Γ mX3_collateBy) (h : Hp) (x0 : Nat) (x1 : Nat) (x2 : Int32) (x3 : Int32) (x7 : Int32) (x4 : Int32) (x8 : Int32) (hx0 : Is x0 3) (hx1 : Is x1 2) {K : (Hp × Int32 × Int32) ⊕ (Hp × Int32) → Prop} (hC : ∀ (h : Hp) (x4 : Int32) (x8 : Int32), K (.inl (h, x4, x8)) → EW Γ mX3_collateBy 138 [(0, rf Γ x0), (1, rf Γ x1), (2, .int x2), (3, .int x3), (4, .int x4), (7, .int x7), (8, .int x8)] [] h) (hR : ∀ r, K (.inr r) → emHI r = tgt Γ) : EG Γ mX3_collateBy 138 [(0, rf Γ x0), (1, rf Γ x1), (2, .int x2), (3, .int x3), (4, .int x4), (7, .int x7), (8, .int x8)] [] h (B_X3_collateBy_138 h x0 x1 x2 x3 x7 x4 x8) K := by
  unfold B_X3_collateBy_138
  refine x_iload hO 6 rfl dX3_collateBy_138 ?_
  refine x_aload_n hO 1 rfl rfl dX3_collateBy_140 ?_
  refine x_getI hO fl_RX3_45 hx1 dX3_collateBy_141 ?_
  refine x_icmp_ge hO (tg := 206) dX3_collateBy_144 (by decide) ?_ ?_
  · refine x_aload_n hO 0 rfl rfl dX3_collateBy_206 ?_
    refine x_getR hO fl_RX3_9 hx0 dX3_collateBy_207 ?_
    refine x_iconst hO (v := 0) (by decide) dX3_collateBy_210 ?_
    refine x_aload_n hO 1 rfl rfl dX3_collateBy_211 ?_
    refine x_getR hO fl_RX3_53 hx1 dX3_collateBy_212 ?_
    refine x_iconst hO (v := 0) (by decide) dX3_collateBy_215 ?_
    refine x_aload_n hO 1 rfl rfl dX3_collateBy_216 ?_
    refine x_getI hO fl_RX3_45 hx1 dX3_collateBy_217 ?_
    refine x_copyI hO lc_RX3_73 (gr_3_0 hx0) (gr_2_7 hx1) (Nat.le_of_ble_eq_true rfl) (Nat.le_of_ble_eq_true rfl) dX3_collateBy_220 ?_
    refine x_iload hO 5 rfl dX3_collateBy_223 ?_
    exact x_iret hO rfl dX3_collateBy_225 (hR _)
  · refine x_iload hO 4 rfl dX3_collateBy_147 ?_
    refine x_aload_n hO 1 rfl rfl dX3_collateBy_149 ?_
    refine x_getI hO fl_RX3_45 hx1 dX3_collateBy_150 ?_
    refine x_icmp_ge hO (tg := 206) dX3_collateBy_153 (by decide) ?_ ?_
    · refine x_aload_n hO 0 rfl rfl dX3_collateBy_206 ?_
      refine x_getR hO fl_RX3_9 hx0 dX3_collateBy_207 ?_
      refine x_iconst hO (v := 0) (by decide) dX3_collateBy_210 ?_
      refine x_aload_n hO 1 rfl rfl dX3_collateBy_211 ?_
      refine x_getR hO fl_RX3_53 hx1 dX3_collateBy_212 ?_
      refine x_iconst hO (v := 0) (by decide) dX3_collateBy_215 ?_
      refine x_aload_n hO 1 rfl rfl dX3_collateBy_216 ?_
      refine x_getI hO fl_RX3_45 hx1 dX3_collateBy_217 ?_
      refine x_copyI hO lc_RX3_73 (gr_3_0 hx0) (gr_2_7 hx1) (Nat.le_of_ble_eq_true rfl) (Nat.le_of_ble_eq_true rfl) dX3_collateBy_220 ?_
      refine x_iload hO 5 rfl dX3_collateBy_223 ?_
      exact x_iret hO rfl dX3_collateBy_225 (hR _)
    · refine x_aload_n hO 1 rfl rfl dX3_collateBy_156 ?_
      refine x_getR hO fl_RX3_53 hx1 dX3_collateBy_157 ?_
      refine x_iload hO 6 rfl dX3_collateBy_160 ?_
      refine x_iald hO (gr_2_7 hx1) dX3_collateBy_162 ?_
      refine x_istore hO [(9, .int (hI h (GR x1 7) (nx x8))), (0, rf Γ x0), (1, rf Γ x1), (2, .int x2), (3, .int x3), (4, .int x4), (7, .int x7), (8, .int x8)] dX3_collateBy_163 (by decide) rfl ?_
      refine x_aload_n hO 2 rfl rfl dX3_collateBy_165 ?_
      refine x_getR hO fl_RX3_87 hx1 dX3_collateBy_166 ?_
      refine x_iload hO 0 rfl dX3_collateBy_169 ?_
      refine x_iald hO (gr_2_5 hx1) dX3_collateBy_171 ?_
      refine x_iconst hO (v := -1) (by decide) dX3_collateBy_172 ?_
      refine x_icmp_eq hO (tg := 188) dX3_collateBy_173 (by decide) ?_ ?_
      · refine x_aload_n hO 1 rfl rfl dX3_collateBy_188 ?_
        refine x_getR hO fl_RX3_9 hx0 dX3_collateBy_189 ?_
        refine x_iload hO 5 rfl dX3_collateBy_192 ?_
        refine x_iload hO 0 rfl dX3_collateBy_194 ?_
        refine x_iast hO (gr_3_0 hx0) dX3_collateBy_196 ?_
        refine x_iinc hO 5 (v := 1) [(4, .int (x4 + (1 : Int32))), (9, .int (hI h (GR x1 7) (nx x8))), (0, rf Γ x0), (1, rf Γ x1), (2, .int x2), (3, .int x3), (7, .int x7), (8, .int x8)] dX3_collateBy_197 rfl (by decide) (by decide) rfl ?_
        refine x_iinc hO 7 (v := 1) [(8, .int (x8 + (1 : Int32))), (4, .int (x4 + (1 : Int32))), (9, .int (hI h (GR x1 7) (nx x8))), (0, rf Γ x0), (1, rf Γ x1), (2, .int x2), (3, .int x3), (7, .int x7)] dX3_collateBy_200 rfl (by decide) (by decide) rfl ?_
        refine x_goto hO (tg := 138) dX3_collateBy_203 (by decide) ?_
        exact x_leafs [3, 4, 5, 6, 1, 7, 0] rfl (hC (uI h (GR x0 0) (nx x4) (hI h (GR x1 7) (nx x8))) (x4 + (1 : Int32)) (x8 + (1 : Int32)))
      · refine x_aload_n hO 2 rfl rfl dX3_collateBy_176 ?_
        refine x_iload hO 0 rfl dX3_collateBy_177 ?_
        refine x_iload_n hO 3 rfl rfl dX3_collateBy_179 ?_
        refine x_iload_n hO 4 rfl rfl dX3_collateBy_180 ?_
        refine y_PI (x_callV hO lv_RX3_90 hx1 vc_2 (by decide) (As := [.int (hI h (GR x1 7) (nx x8)), .int x2, .int x3]) rfl (Nat.le_of_ble_eq_true rfl) (ok_X2_fieldOf (cG Γ) h x1 (hI h (GR x1 7) (nx x8)) x2 x3 hx1) dX3_collateBy_181 rfl (Nat.le_of_ble_eq_true rfl)) (fun r1 => ?_)
        refine x_iconst hO (v := -1) (by decide) dX3_collateBy_184 ?_
        refine x_icmp_ne hO (tg := 200) dX3_collateBy_185 (by decide) ?_ ?_
        · refine x_iinc hO 7 (v := 1) [(8, .int (x8 + (1 : Int32))), (9, .int (hI h (GR x1 7) (nx x8))), (0, rf Γ x0), (1, rf Γ x1), (2, .int x2), (3, .int x3), (4, .int x4), (7, .int x7)] dX3_collateBy_200 rfl (by decide) (by decide) rfl ?_
          refine x_goto hO (tg := 138) dX3_collateBy_203 (by decide) ?_
          exact x_leafs [2, 3, 4, 5, 6, 7, 0] rfl (hC h x4 (x8 + (1 : Int32)))
        · refine x_aload_n hO 1 rfl rfl dX3_collateBy_188 ?_
          refine x_getR hO fl_RX3_9 hx0 dX3_collateBy_189 ?_
          refine x_iload hO 5 rfl dX3_collateBy_192 ?_
          refine x_iload hO 0 rfl dX3_collateBy_194 ?_
          refine x_iast hO (gr_3_0 hx0) dX3_collateBy_196 ?_
          refine x_iinc hO 5 (v := 1) [(4, .int (x4 + (1 : Int32))), (9, .int (hI h (GR x1 7) (nx x8))), (0, rf Γ x0), (1, rf Γ x1), (2, .int x2), (3, .int x3), (7, .int x7), (8, .int x8)] dX3_collateBy_197 rfl (by decide) (by decide) rfl ?_
          refine x_iinc hO 7 (v := 1) [(8, .int (x8 + (1 : Int32))), (4, .int (x4 + (1 : Int32))), (9, .int (hI h (GR x1 7) (nx x8))), (0, rf Γ x0), (1, rf Γ x1), (2, .int x2), (3, .int x3), (7, .int x7)] dX3_collateBy_200 rfl (by decide) (by decide) rfl ?_
          refine x_goto hO (tg := 138) dX3_collateBy_203 (by decide) ?_
          exact x_leafs [3, 4, 5, 6, 1, 7, 0] rfl (hC (uI h (GR x0 0) (nx x4) (hI h (GR x1 7) (nx x8))) (x4 + (1 : Int32)) (x8 + (1 : Int32)))
set_option maxHeartbeats 4000000 in
set_option maxRecDepth 100000 in
theorem go_X3_collateBy_L138 {Γ : Cx} (hO : Ok Γ mX3_collateBy) (h : Hp) (x0 : Nat) (x1 : Nat) (x2 : Int32) (x3 : Int32) (x7 : Int32) (x4 : Int32) (x8 : Int32) (hx0 : Is x0 3) (hx1 : Is x1 2) {K : Hp × Int32 → Prop} (hR : ∀ r, K (r) → emHI r = tgt Γ) : EG Γ mX3_collateBy 138 [(0, rf Γ x0), (1, rf Γ x1), (2, .int x2), (3, .int x3), (4, .int x4), (7, .int x7), (8, .int x8)] [] h (L_X3_collateBy_138 h x0 x1 x2 x3 x7 x4 x8) K := by
  have q := x_loop (Γ := Γ) (M := mX3_collateBy) (pc := 138) (B := fun s : Hp × Int32 × Int32 => B_X3_collateBy_138 s.1 x0 x1 x2 x3 x7 s.2.1 s.2.2) (lvf := fun s => [(0, rf Γ x0), (1, rf Γ x1), (2, .int x2), (3, .int x3), (4, .int s.2.1), (7, .int x7), (8, .int s.2.2)]) (hf := fun s => s.1) (Ky := K) (fun s => go_X3_collateBy_B138 hO s.1 x0 x1 x2 x3 x7 s.2.1 s.2.2 hx0 hx1 (fun _ _ _ => id) hR) (h, x4, x8)
  exact q
noncomputable def F_X3_collateBy (h : Hp) (x0 : Nat) (x1 : Nat) (x2 : Int32) (x3 : Int32) : Option (Hp × Int32) :=
  (F_X3_nextInInk h x1 ((0 : Int32)) ((0 : Int32)) x2 x3).bind (fun r1 => (F_X3_nextInInk h x1 ((0 : Int32)) ((1 : Int32)) x2 x3).bind (fun r2 => (L_X3_collateBy_23 h x0 x1 x2 x3 ((0 : Int32)) r1 r2).bind (fun e3 => L_X3_collateBy_138 e3.1 x0 x1 x2 x3 ((hI e3.1 x1 0) - e3.2) e3.2 ((0 : Int32)))))
set_option maxHeartbeats 4000000 in
set_option maxRecDepth 100000 in
theorem go_X3_collateBy {Γ : Cx} (hO : Ok Γ mX3_collateBy) (h : Hp) (x0 : Nat) (x1 : Nat) (x2 : Int32) (x3 : Int32) (hx0 : Is x0 3) (hx1 : Is x1 2) {K : Hp × Int32 → Prop} (hR : ∀ r, K r → emHI r = tgt Γ) : EG Γ mX3_collateBy 0 [(0, rf Γ x0), (1, rf Γ x1), (2, .int x2), (3, .int x3)] [] h (F_X3_collateBy h x0 x1 x2 x3) K := by
  unfold F_X3_collateBy
  refine x_iconst hO (v := 0) (by decide) dX3_collateBy_0 ?_
  refine x_istore hO [(4, .int ((0 : Int32))), (0, rf Γ x0), (1, rf Γ x1), (2, .int x2), (3, .int x3)] dX3_collateBy_1 (by decide) rfl ?_
  refine x_aload_n hO 2 rfl rfl dX3_collateBy_3 ?_
  refine x_iconst hO (v := 0) (by decide) dX3_collateBy_4 ?_
  refine x_iconst hO (v := 0) (by decide) dX3_collateBy_5 ?_
  refine x_iload_n hO 3 rfl rfl dX3_collateBy_6 ?_
  refine x_iload_n hO 4 rfl rfl dX3_collateBy_7 ?_
  refine y_PI (x_callS hO lt_RX3_79 (As := [rf Γ x1, .int ((0 : Int32)), .int ((0 : Int32)), .int x2, .int x3]) rfl (Nat.le_of_ble_eq_true rfl) (ok_X3_nextInInk (cG Γ) h x1 ((0 : Int32)) ((0 : Int32)) x2 x3 hx1) dX3_collateBy_8 rfl (Nat.le_of_ble_eq_true rfl)) (fun r1 => ?_)
  refine x_istore hO [(5, .int r1), (4, .int ((0 : Int32))), (0, rf Γ x0), (1, rf Γ x1), (2, .int x2), (3, .int x3)] dX3_collateBy_11 (by decide) rfl ?_
  refine x_aload_n hO 3 rfl rfl dX3_collateBy_13 ?_
  refine x_iconst hO (v := 0) (by decide) dX3_collateBy_14 ?_
  refine x_iconst hO (v := 1) (by decide) dX3_collateBy_15 ?_
  refine x_iload_n hO 4 rfl rfl dX3_collateBy_16 ?_
  refine x_iload_n hO 5 rfl rfl dX3_collateBy_17 ?_
  refine y_PI (x_callS hO lt_RX3_79 (As := [rf Γ x1, .int ((0 : Int32)), .int ((1 : Int32)), .int x2, .int x3]) rfl (Nat.le_of_ble_eq_true rfl) (ok_X3_nextInInk (cG Γ) h x1 ((0 : Int32)) ((1 : Int32)) x2 x3 hx1) dX3_collateBy_18 rfl (Nat.le_of_ble_eq_true rfl)) (fun r2 => ?_)
  refine x_istore hO [(6, .int r2), (5, .int r1), (4, .int ((0 : Int32))), (0, rf Γ x0), (1, rf Γ x1), (2, .int x2), (3, .int x3)] dX3_collateBy_21 (by decide) rfl ?_
  refine x_bind (x_sub [3, 4, 5, 6, 2, 1, 0] rfl (go_X3_collateBy_L23 hO h x0 x1 x2 x3 ((0 : Int32)) r1 r2 hx0 hx1 (fun y3_0 y3_1 hx => ?_)))
  refine x_run (t := (L_X3_collateBy_138 y3_0 x0 x1 x2 x3 ((hI y3_0 x1 0) - y3_1) y3_1 ((0 : Int32)) : Option (Hp × Int32))) hx ?_
  refine x_aload_n hO 1 rfl rfl dX3_collateBy_126 ?_
  refine x_getI hO fl_RX3_45 hx1 dX3_collateBy_127 ?_
  refine x_iload hO 4 rfl dX3_collateBy_130 ?_
  refine x_isub hO dX3_collateBy_132 ?_
  refine x_istore hO [(7, .int ((hI y3_0 x1 0) - y3_1)), (0, rf Γ x0), (1, rf Γ x1), (2, .int x2), (3, .int x3), (4, .int y3_1)] dX3_collateBy_133 (by decide) rfl ?_
  refine x_iconst hO (v := 0) (by decide) dX3_collateBy_135 ?_
  refine x_istore hO [(8, .int ((0 : Int32))), (7, .int ((hI y3_0 x1 0) - y3_1)), (0, rf Γ x0), (1, rf Γ x1), (2, .int x2), (3, .int x3), (4, .int y3_1)] dX3_collateBy_136 (by decide) rfl ?_
  exact x_sub [2, 3, 4, 5, 6, 1, 0] rfl (go_X3_collateBy_L138 hO y3_0 x0 x1 x2 x3 ((hI y3_0 x1 0) - y3_1) y3_1 ((0 : Int32)) hx0 hx1 hR)
theorem ok_X3_collateBy (G : Gl) (h : Hp) (x0 : Nat) (x1 : Nat) (x2 : Int32) (x3 : Int32) (hx0 : Is x0 3) (hx1 : Is x1 2) : CN G mX3_collateBy [.ref (gb G + x0), .ref (gb G + x1), .int x2, .int x3] h ((F_X3_collateBy h x0 x1 x2 x3).map (emHI)) := CN.fn pn_RX3 (Nat.le_of_ble_eq_true rfl) (fun Γ hG hO => by subst hG; exact go_X3_collateBy hO h x0 x1 x2 x3 hx0 hx1 (fun _ q => q))
noncomputable def B_X3_doSteps_35 (h : Hp) (x0 : Nat) (x1 : Nat) (x2 : Nat) (x3 : Int32) (x4 : Int32) : Option ((Hp × Int32 × Int32) ⊕ (Hp × Int32)) :=
  if ((100000 : Int32)) ≤ x4 then some (.inr ((h, hI h x0 7))) else if (hI h x2 1) ≤ x3 then some (.inr ((h, hI h x0 7))) else if (hI h x0 6) = 0 then gd (ib x3 (LEN (GR x2 2))) (if (hI h (GR x2 2) (nx x3)) = ((7 : Int32)) then (F_X3_behindEnd h x0 x2 x3).bind (fun r2 => some (.inl (r2.1, r2.2, x4 + (1 : Int32)))) else if (hI h x0 7) < ((200 : Int32)) then (F_X3_doStep (uI h x0 7 ((hI h x0 7) + ((1 : Int32)))) x0 x1 x3).bind (fun r1 => some (.inl (r1.1, r1.2, x4 + (1 : Int32)))) else some (.inl (uI h x0 6 ((1 : Int32)), x3, x4 + (1 : Int32)))) else some (.inr ((h, hI h x0 7)))
noncomputable def L_X3_doSteps_35 (h : Hp) (x0 : Nat) (x1 : Nat) (x2 : Nat) (x3 : Int32) (x4 : Int32) : Option (Hp × Int32) := iterW (fun s : Hp × Int32 × Int32 => B_X3_doSteps_35 s.1 x0 x1 x2 s.2.1 s.2.2) (h, x3, x4)
set_option maxHeartbeats 4000000 in
set_option maxRecDepth 100000 in
theorem go_X3_doSteps_B35 {Γ : Cx} (hO : Ok Γ mX3_doSteps) (h : Hp) (x0 : Nat) (x1 : Nat) (x2 : Nat) (x3 : Int32) (x4 : Int32) (hx0 : Is x0 3) (hx1 : Is x1 2) (hx2 : Is x2 9) {K : (Hp × Int32 × Int32) ⊕ (Hp × Int32) → Prop} (hC : ∀ (h : Hp) (x3 : Int32) (x4 : Int32), K (.inl (h, x3, x4)) → EW Γ mX3_doSteps 35 [(0, rf Γ x0), (1, rf Γ x1), (2, rf Γ x2), (3, .int x3), (4, .int x4)] [] h) (hR : ∀ r, K (.inr r) → emHI r = tgt Γ) : EG Γ mX3_doSteps 35 [(0, rf Γ x0), (1, rf Γ x1), (2, rf Γ x2), (3, .int x3), (4, .int x4)] [] h (B_X3_doSteps_35 h x0 x1 x2 x3 x4) K := by
  unfold B_X3_doSteps_35
  refine x_iload hO 4 rfl dX3_doSteps_35 ?_
  refine x_ldc hO cn_RX3_101 dX3_doSteps_37 ?_
  refine x_icmp_ge hO (tg := 119) dX3_doSteps_39 (by decide) ?_ ?_
  · refine x_aload_n hO 0 rfl rfl dX3_doSteps_119 ?_
    refine x_getI hO fl_RX3_38 hx0 dX3_doSteps_120 ?_
    exact x_iret hO rfl dX3_doSteps_123 (hR _)
  · refine x_iload_n hO 3 rfl rfl dX3_doSteps_42 ?_
    refine x_aload_n hO 2 rfl rfl dX3_doSteps_43 ?_
    refine x_getI hO fl_RX3_102 hx2 dX3_doSteps_44 ?_
    refine x_icmp_ge hO (tg := 119) dX3_doSteps_47 (by decide) ?_ ?_
    · refine x_aload_n hO 0 rfl rfl dX3_doSteps_119 ?_
      refine x_getI hO fl_RX3_38 hx0 dX3_doSteps_120 ?_
      exact x_iret hO rfl dX3_doSteps_123 (hR _)
    · refine x_aload_n hO 0 rfl rfl dX3_doSteps_50 ?_
      refine x_getI hO fl_RX3_35 hx0 dX3_doSteps_51 ?_
      refine x_if_ne hO (tg := 119) dX3_doSteps_54 (by decide) ?_ ?_
      · refine x_aload_n hO 0 rfl rfl dX3_doSteps_119 ?_
        refine x_getI hO fl_RX3_38 hx0 dX3_doSteps_120 ?_
        exact x_iret hO rfl dX3_doSteps_123 (hR _)
      · refine x_aload_n hO 2 rfl rfl dX3_doSteps_57 ?_
        refine x_getR hO fl_RX3_105 hx2 dX3_doSteps_58 ?_
        refine x_iload_n hO 3 rfl rfl dX3_doSteps_61 ?_
        refine x_iald hO (gr_9_2 hx2) dX3_doSteps_62 ?_
        refine x_bipush hO (v := 7) (by decide) dX3_doSteps_63 ?_
        refine x_icmp_ne hO (tg := 78) dX3_doSteps_65 (by decide) ?_ ?_
        · refine x_aload_n hO 0 rfl rfl dX3_doSteps_78 ?_
          refine x_getI hO fl_RX3_38 hx0 dX3_doSteps_79 ?_
          refine x_sipush hO (v := 200) (by decide) dX3_doSteps_82 ?_
          refine x_icmp_lt hO (tg := 96) dX3_doSteps_85 (by decide) ?_ ?_
          · refine x_aload_n hO 0 rfl rfl dX3_doSteps_96 ?_
            refine x_dup_r hO dX3_doSteps_97 ?_
            refine x_getI hO fl_RX3_38 hx0 dX3_doSteps_98 ?_
            refine x_iconst hO (v := 1) (by decide) dX3_doSteps_101 ?_
            refine x_iadd hO dX3_doSteps_102 ?_
            refine x_putI hO fl_RX3_38 hx0 dX3_doSteps_103 ?_
            refine x_aload_n hO 0 rfl rfl dX3_doSteps_106 ?_
            refine x_aload_n hO 1 rfl rfl dX3_doSteps_107 ?_
            refine x_iload_n hO 3 rfl rfl dX3_doSteps_108 ?_
            refine y_HI (x_callV hO lv_RX3_112 hx0 vc_3 (by decide) (As := [rf Γ x1, .int x3]) rfl (Nat.le_of_ble_eq_true rfl) (ok_X3_doStep (cG Γ) (uI h x0 7 ((hI h x0 7) + ((1 : Int32)))) x0 x1 x3 hx0 hx1) dX3_doSteps_109 rfl (Nat.le_of_ble_eq_true rfl)) (fun r1 => ?_)
            refine x_istore_n hO rfl [(3, .int r1.2), (0, rf Γ x0), (1, rf Γ x1), (2, rf Γ x2), (4, .int x4)] dX3_doSteps_112 (by decide) rfl ?_
            refine x_iinc hO 4 (v := 1) [(4, .int (x4 + (1 : Int32))), (3, .int r1.2), (0, rf Γ x0), (1, rf Γ x1), (2, rf Γ x2)] dX3_doSteps_113 rfl (by decide) (by decide) rfl ?_
            refine x_goto hO (tg := 35) dX3_doSteps_116 (by decide) ?_
            exact x_leafs [2, 3, 4, 1, 0] rfl (hC r1.1 r1.2 (x4 + (1 : Int32)))
          · refine x_aload_n hO 0 rfl rfl dX3_doSteps_88 ?_
            refine x_iconst hO (v := 1) (by decide) dX3_doSteps_89 ?_
            refine x_putZ hO (by decide) fl_RX3_35 hx0 dX3_doSteps_90 ?_
            refine x_goto hO (tg := 113) dX3_doSteps_93 (by decide) ?_
            refine x_iinc hO 4 (v := 1) [(4, .int (x4 + (1 : Int32))), (0, rf Γ x0), (1, rf Γ x1), (2, rf Γ x2), (3, .int x3)] dX3_doSteps_113 rfl (by decide) (by decide) rfl ?_
            refine x_goto hO (tg := 35) dX3_doSteps_116 (by decide) ?_
            exact x_leafs [1, 2, 3, 4, 0] rfl (hC (uI h x0 6 ((1 : Int32))) x3 (x4 + (1 : Int32)))
        · refine x_aload_n hO 0 rfl rfl dX3_doSteps_68 ?_
          refine x_aload_n hO 2 rfl rfl dX3_doSteps_69 ?_
          refine x_iload_n hO 3 rfl rfl dX3_doSteps_70 ?_
          refine y_HI (x_callV hO lv_RX3_108 hx0 vc_3 (by decide) (As := [rf Γ x2, .int x3]) rfl (Nat.le_of_ble_eq_true rfl) (ok_X3_behindEnd (cG Γ) h x0 x2 x3 hx0 hx2) dX3_doSteps_71 rfl (Nat.le_of_ble_eq_true rfl)) (fun r2 => ?_)
          refine x_istore_n hO rfl [(3, .int r2.2), (0, rf Γ x0), (1, rf Γ x1), (2, rf Γ x2), (4, .int x4)] dX3_doSteps_74 (by decide) rfl ?_
          refine x_goto hO (tg := 113) dX3_doSteps_75 (by decide) ?_
          refine x_iinc hO 4 (v := 1) [(4, .int (x4 + (1 : Int32))), (3, .int r2.2), (0, rf Γ x0), (1, rf Γ x1), (2, rf Γ x2)] dX3_doSteps_113 rfl (by decide) (by decide) rfl ?_
          refine x_goto hO (tg := 35) dX3_doSteps_116 (by decide) ?_
          exact x_leafs [2, 3, 4, 1, 0] rfl (hC r2.1 r2.2 (x4 + (1 : Int32)))
set_option maxHeartbeats 4000000 in
set_option maxRecDepth 100000 in
theorem go_X3_doSteps_L35 {Γ : Cx} (hO : Ok Γ mX3_doSteps) (h : Hp) (x0 : Nat) (x1 : Nat) (x2 : Nat) (x3 : Int32) (x4 : Int32) (hx0 : Is x0 3) (hx1 : Is x1 2) (hx2 : Is x2 9) {K : Hp × Int32 → Prop} (hR : ∀ r, K (r) → emHI r = tgt Γ) : EG Γ mX3_doSteps 35 [(0, rf Γ x0), (1, rf Γ x1), (2, rf Γ x2), (3, .int x3), (4, .int x4)] [] h (L_X3_doSteps_35 h x0 x1 x2 x3 x4) K := by
  have q := x_loop (Γ := Γ) (M := mX3_doSteps) (pc := 35) (B := fun s : Hp × Int32 × Int32 => B_X3_doSteps_35 s.1 x0 x1 x2 s.2.1 s.2.2) (lvf := fun s => [(0, rf Γ x0), (1, rf Γ x1), (2, rf Γ x2), (3, .int s.2.1), (4, .int s.2.2)]) (hf := fun s => s.1) (Ky := K) (fun s => go_X3_doSteps_B35 hO s.1 x0 x1 x2 s.2.1 s.2.2 hx0 hx1 hx2 (fun _ _ _ => id) hR) (h, x3, x4)
  exact q
noncomputable def F_X3_doSteps (h : Hp) (x0 : Nat) (x1 : Nat) : Option (Hp × Int32) :=
  L_X3_doSteps_35 (uI (uI (uI (uL (uI h x0 3 ((1 : Int32))) x0 4 ((0 : Int64))) x0 5 ((0 : Int32))) x0 6 ((0 : Int32))) x0 7 ((0 : Int32))) x0 x1 (GR x1 9) ((0 : Int32)) ((0 : Int32))
set_option maxHeartbeats 4000000 in
set_option maxRecDepth 100000 in
theorem go_X3_doSteps {Γ : Cx} (hO : Ok Γ mX3_doSteps) (h : Hp) (x0 : Nat) (x1 : Nat) (hx0 : Is x0 3) (hx1 : Is x1 2) {K : Hp × Int32 → Prop} (hR : ∀ r, K r → emHI r = tgt Γ) : EG Γ mX3_doSteps 0 [(0, rf Γ x0), (1, rf Γ x1)] [] h (F_X3_doSteps h x0 x1) K := by
  unfold F_X3_doSteps
  refine x_aload_n hO 1 rfl rfl dX3_doSteps_0 ?_
  refine x_getR hO fl_RX3_97 hx1 dX3_doSteps_1 ?_
  refine x_astore_n hO rfl [(2, rf Γ (GR x1 9)), (0, rf Γ x0), (1, rf Γ x1)] dX3_doSteps_4 (by decide) rfl ?_
  refine x_aload_n hO 1 rfl rfl dX3_doSteps_5 ?_
  refine x_iconst hO (v := 1) (by decide) dX3_doSteps_6 ?_
  refine x_putZ hO (by decide) fl_RX3_23 hx0 dX3_doSteps_7 ?_
  refine x_aload_n hO 1 rfl rfl dX3_doSteps_10 ?_
  refine x_lconst hO (v := 0) (by decide) dX3_doSteps_11 ?_
  refine x_putL hO fl_RX3_27 hx0 dX3_doSteps_12 ?_
  refine x_aload_n hO 1 rfl rfl dX3_doSteps_15 ?_
  refine x_iconst hO (v := 0) (by decide) dX3_doSteps_16 ?_
  refine x_putI hO fl_RX3_31 hx0 dX3_doSteps_17 ?_
  refine x_aload_n hO 1 rfl rfl dX3_doSteps_20 ?_
  refine x_iconst hO (v := 0) (by decide) dX3_doSteps_21 ?_
  refine x_putZ hO (by decide) fl_RX3_35 hx0 dX3_doSteps_22 ?_
  refine x_aload_n hO 1 rfl rfl dX3_doSteps_25 ?_
  refine x_iconst hO (v := 0) (by decide) dX3_doSteps_26 ?_
  refine x_putI hO fl_RX3_38 hx0 dX3_doSteps_27 ?_
  refine x_iconst hO (v := 0) (by decide) dX3_doSteps_30 ?_
  refine x_istore_n hO rfl [(3, .int ((0 : Int32))), (2, rf Γ (GR x1 9)), (0, rf Γ x0), (1, rf Γ x1)] dX3_doSteps_31 (by decide) rfl ?_
  refine x_iconst hO (v := 0) (by decide) dX3_doSteps_32 ?_
  refine x_istore hO [(4, .int ((0 : Int32))), (3, .int ((0 : Int32))), (2, rf Γ (GR x1 9)), (0, rf Γ x0), (1, rf Γ x1)] dX3_doSteps_33 (by decide) rfl ?_
  exact x_sub [3, 4, 2, 1, 0] rfl (go_X3_doSteps_L35 hO (uI (uI (uI (uL (uI h x0 3 ((1 : Int32))) x0 4 ((0 : Int64))) x0 5 ((0 : Int32))) x0 6 ((0 : Int32))) x0 7 ((0 : Int32))) x0 x1 (GR x1 9) ((0 : Int32)) ((0 : Int32)) hx0 hx1 (gr_2_9 hx1) hR)
theorem ok_X3_doSteps (G : Gl) (h : Hp) (x0 : Nat) (x1 : Nat) (hx0 : Is x0 3) (hx1 : Is x1 2) : CN G mX3_doSteps [.ref (gb G + x0), .ref (gb G + x1)] h ((F_X3_doSteps h x0 x1).map (emHI)) := CN.fn pn_RX3 (Nat.le_of_ble_eq_true rfl) (fun Γ hG hO => by subst hG; exact go_X3_doSteps hO h x0 x1 hx0 hx1 (fun _ q => q))
noncomputable def J_X4_search_53 (h : Hp) (x0 : Nat) (x4 : Int32) (s0 : Int32) : Option ((Hp × Int32) ⊕ ((Hp × Int32 × Int32) ⊕ (Hp × Int32))) :=
  if s0 ≤ 0 then some (.inl (h, x4 + (1 : Int32))) else some (.inr (.inl ((h, x4, s0))))
set_option maxHeartbeats 4000000 in
set_option maxRecDepth 100000 in
theorem go_X4_search_J53 {Γ : Cx} (hO : Ok Γ mX4_search) (h : Hp) (x0 : Nat) (x4 : Int32) (s0 : Int32) (hx0 : Is x0 4) {K : (Hp × Int32) ⊕ ((Hp × Int32 × Int32) ⊕ (Hp × Int32)) → Prop} (hC : ∀ (h : Hp) (x4 : Int32), K (.inl (h, x4)) → EW Γ mX4_search 10 [(0, rf Γ x0), (4, .int x4)] [] h) (hE60 : ∀ (h : Hp) (x4 : Int32) (x5 : Int32), K (.inr (.inl ((h, x4, x5)))) → EW Γ mX4_search 60 [(0, rf Γ x0), (4, .int x4), (5, .int x5)] [] h) (hR : ∀ r, K (.inr (.inr r)) → emHI r = tgt Γ) : EG Γ mX4_search 53 [(0, rf Γ x0), (4, .int x4)] [.int s0] h (J_X4_search_53 h x0 x4 s0) K := by
  unfold J_X4_search_53
  refine x_istore hO [(5, .int s0), (0, rf Γ x0), (4, .int x4)] dX4_search_53 (by decide) rfl ?_
  refine x_iload hO 0 rfl dX4_search_55 ?_
  refine x_if_le hO (tg := 97) dX4_search_57 (by decide) ?_ ?_
  · refine x_iinc hO 2 (v := 1) [(4, .int (x4 + (1 : Int32))), (5, .int s0), (0, rf Γ x0)] dX4_search_97 rfl (by decide) (by decide) rfl ?_
    refine x_goto hO (tg := 10) dX4_search_100 (by decide) ?_
    exact x_leafs [2, 0] rfl (hC h (x4 + (1 : Int32)))
  · exact x_leafs [1, 2, 0] rfl (hE60 h x4 s0)
noncomputable def B_X4_search_10 (h : Hp) (x0 : Nat) (x4 : Int32) : Option ((Hp × Int32) ⊕ ((Hp × Int32 × Int32) ⊕ (Hp × Int32))) :=
  if ((2 : Int32)) < x4 then some (.inr (.inr ((h, (0 : Int32))))) else if x4 = 0 then (F_X4_closed h x0).bind (fun r3 => if r3 = 0 then J_X4_search_53 h x0 x4 ((0 : Int32)) else J_X4_search_53 h x0 x4 ((1 : Int32))) else if x4 = ((1 : Int32)) then (F_X4_searchOne h x0).bind (fun r2 => J_X4_search_53 r2.1 x0 x4 r2.2) else (F_X4_searchTwo h x0).bind (fun r1 => J_X4_search_53 r1.1 x0 x4 r1.2)
noncomputable def L_X4_search_10 (h : Hp) (x0 : Nat) (x4 : Int32) : Option ((Hp × Int32 × Int32) ⊕ (Hp × Int32)) := iterW (fun s : Hp × Int32 => B_X4_search_10 s.1 x0 s.2) (h, x4)
set_option maxHeartbeats 4000000 in
set_option maxRecDepth 100000 in
theorem go_X4_search_B10 {Γ : Cx} (hO : Ok Γ mX4_search) (h : Hp) (x0 : Nat) (x4 : Int32) (hx0 : Is x0 4) {K : (Hp × Int32) ⊕ ((Hp × Int32 × Int32) ⊕ (Hp × Int32)) → Prop} (hC : ∀ (h : Hp) (x4 : Int32), K (.inl (h, x4)) → EW Γ mX4_search 10 [(0, rf Γ x0), (4, .int x4)] [] h) (hE60 : ∀ (h : Hp) (x4 : Int32) (x5 : Int32), K (.inr (.inl ((h, x4, x5)))) → EW Γ mX4_search 60 [(0, rf Γ x0), (4, .int x4), (5, .int x5)] [] h) (hR : ∀ r, K (.inr (.inr r)) → emHI r = tgt Γ) : EG Γ mX4_search 10 [(0, rf Γ x0), (4, .int x4)] [] h (B_X4_search_10 h x0 x4) K := by
  unfold B_X4_search_10
  refine x_iload hO 1 rfl dX4_search_10 ?_
  refine x_iconst hO (v := 2) (by decide) dX4_search_12 ?_
  refine x_icmp_gt hO (tg := 103) dX4_search_13 (by decide) ?_ ?_
  · refine x_iconst hO (v := 0) (by decide) dX4_search_103 ?_
    exact x_zretv hO rfl (by decide) dX4_search_104 (hR _)
  · refine x_iload hO 1 rfl dX4_search_16 ?_
    refine x_if_ne hO (tg := 36) dX4_search_18 (by decide) ?_ ?_
    · refine x_iload hO 1 rfl dX4_search_36 ?_
      refine x_iconst hO (v := 1) (by decide) dX4_search_38 ?_
      refine x_icmp_ne hO (tg := 49) dX4_search_39 (by decide) ?_ ?_
      · refine x_aload_n hO 0 rfl rfl dX4_search_49 ?_
        refine y_HI (x_callV hO lv_RX4_57 hx0 vc_4 (by decide) (As := []) rfl (Nat.le_of_ble_eq_true rfl) (ok_X4_searchTwo (cG Γ) h x0 hx0) dX4_search_50 rfl (Nat.le_of_ble_eq_true rfl)) (fun r1 => ?_)
        exact x_sub [0, 1] rfl (go_X4_search_J53 hO r1.1 x0 x4 r1.2 hx0 hC hE60 hR)
      · refine x_aload_n hO 0 rfl rfl dX4_search_42 ?_
        refine y_HI (x_callV hO lv_RX4_53 hx0 vc_4 (by decide) (As := []) rfl (Nat.le_of_ble_eq_true rfl) (ok_X4_searchOne (cG Γ) h x0 hx0) dX4_search_43 rfl (Nat.le_of_ble_eq_true rfl)) (fun r2 => ?_)
        refine x_goto hO (tg := 53) dX4_search_46 (by decide) ?_
        exact x_sub [0, 1] rfl (go_X4_search_J53 hO r2.1 x0 x4 r2.2 hx0 hC hE60 hR)
    · refine x_aload_n hO 0 rfl rfl dX4_search_21 ?_
      refine y_PI (x_callV hO lv_RX4_49 hx0 vc_4 (by decide) (As := []) rfl (Nat.le_of_ble_eq_true rfl) (ok_X4_closed (cG Γ) h x0 hx0) dX4_search_22 rfl (Nat.le_of_ble_eq_true rfl)) (fun r3 => ?_)
      refine x_if_eq hO (tg := 32) dX4_search_25 (by decide) ?_ ?_
      · refine x_iconst hO (v := 0) (by decide) dX4_search_32 ?_
        refine x_goto hO (tg := 53) dX4_search_33 (by decide) ?_
        exact x_sub [0, 1] rfl (go_X4_search_J53 hO h x0 x4 ((0 : Int32)) hx0 hC hE60 hR)
      · refine x_iconst hO (v := 1) (by decide) dX4_search_28 ?_
        refine x_goto hO (tg := 53) dX4_search_29 (by decide) ?_
        exact x_sub [0, 1] rfl (go_X4_search_J53 hO h x0 x4 ((1 : Int32)) hx0 hC hE60 hR)
set_option maxHeartbeats 4000000 in
set_option maxRecDepth 100000 in
theorem go_X4_search_L10 {Γ : Cx} (hO : Ok Γ mX4_search) (h : Hp) (x0 : Nat) (x4 : Int32) (hx0 : Is x0 4) {K : (Hp × Int32 × Int32) ⊕ (Hp × Int32) → Prop} (hE60 : ∀ (h : Hp) (x4 : Int32) (x5 : Int32), K (.inl ((h, x4, x5))) → EW Γ mX4_search 60 [(0, rf Γ x0), (4, .int x4), (5, .int x5)] [] h) (hR : ∀ r, K (.inr r) → emHI r = tgt Γ) : EG Γ mX4_search 10 [(0, rf Γ x0), (4, .int x4)] [] h (L_X4_search_10 h x0 x4) K := by
  have q := x_loop (Γ := Γ) (M := mX4_search) (pc := 10) (B := fun s : Hp × Int32 => B_X4_search_10 s.1 x0 s.2) (lvf := fun s => [(0, rf Γ x0), (4, .int s.2)]) (hf := fun s => s.1) (Ky := K) (fun s => go_X4_search_B10 hO s.1 x0 s.2 hx0 (fun _ _ => id) hE60 hR) (h, x4)
  exact q
noncomputable def F_X4_search (h : Hp) (x0 : Nat) (x1 : Nat) (x2 : Int32) (x3 : Nat) : Option (Hp × Int32) :=
  (F_X4_prepare h x0 x1 x2 x3).bind (fun r1 => (L_X4_search_10 r1 x0 ((0 : Int32))).bind (Sum.elim (fun e2 => gd (cpok ((0 : Int32)) ((0 : Int32)) (nI (LEN (GR x0 3))) (LEN (GR x0 4)) (LEN (GR x0 3))) (bnd (sI (uI (uI (uI e2.1 x0 0 ((1 : Int32))) x0 1 e2.2.1) x0 2 e2.2.2) (GR x0 3) (va_cpy (hI (uI (uI (uI e2.1 x0 0 ((1 : Int32))) x0 1 e2.2.1) x0 2 e2.2.2) (GR x0 4)) (hI (uI (uI (uI e2.1 x0 0 ((1 : Int32))) x0 1 e2.2.1) x0 2 e2.2.2) (GR x0 3)) (nx ((0 : Int32))) (nx ((0 : Int32))) (nx (nI (LEN (GR x0 3)))))) (fun h3 => some ((h3, (1 : Int32)))))) (fun r4 => some r4)))
set_option maxHeartbeats 4000000 in
set_option maxRecDepth 100000 in
theorem go_X4_search {Γ : Cx} (hO : Ok Γ mX4_search) (h : Hp) (x0 : Nat) (x1 : Nat) (x2 : Int32) (x3 : Nat) (hx0 : Is x0 4) (hx1 : Is x1 2) (hx3 : Is x3 15) {K : Hp × Int32 → Prop} (hR : ∀ r, K r → emHI r = tgt Γ) : EG Γ mX4_search 0 [(0, rf Γ x0), (1, rf Γ x1), (2, .int x2), (3, rf Γ x3)] [] h (F_X4_search h x0 x1 x2 x3) K := by
  unfold F_X4_search
  refine x_aload_n hO 0 rfl rfl dX4_search_0 ?_
  refine x_aload_n hO 1 rfl rfl dX4_search_1 ?_
  refine x_iload_n hO 2 rfl rfl dX4_search_2 ?_
  refine x_aload_n hO 3 rfl rfl dX4_search_3 ?_
  refine y_HV (x_callV hO lv_RX4_45 hx0 vc_4 (by decide) (As := [rf Γ x1, .int x2, rf Γ x3]) rfl (Nat.le_of_ble_eq_true rfl) (ok_X4_prepare (cG Γ) h x0 x1 x2 x3 hx0 hx1 hx3) dX4_search_4 rfl (Nat.le_of_ble_eq_true rfl)) (fun r1 => ?_)
  refine x_iconst hO (v := 0) (by decide) dX4_search_7 ?_
  refine x_istore hO [(4, .int ((0 : Int32))), (0, rf Γ x0), (1, rf Γ x1), (2, .int x2), (3, rf Γ x3)] dX4_search_8 (by decide) rfl ?_
  refine x_bind (x_sub [1, 0] rfl (go_X4_search_L10 hO r1 x0 ((0 : Int32)) hx0 (fun y2_0 y2_1 y2_2 hx => ?_) (fun r hr => by obtain ⟨z, q, k⟩ := hr; cases q; exact hR _ k)))
  refine x_run (t := (gd (cpok ((0 : Int32)) ((0 : Int32)) (nI (LEN (GR x0 3))) (LEN (GR x0 4)) (LEN (GR x0 3))) (bnd (sI (uI (uI (uI y2_0 x0 0 ((1 : Int32))) x0 1 y2_1) x0 2 y2_2) (GR x0 3) (va_cpy (hI (uI (uI (uI y2_0 x0 0 ((1 : Int32))) x0 1 y2_1) x0 2 y2_2) (GR x0 4)) (hI (uI (uI (uI y2_0 x0 0 ((1 : Int32))) x0 1 y2_1) x0 2 y2_2) (GR x0 3)) (nx ((0 : Int32))) (nx ((0 : Int32))) (nx (nI (LEN (GR x0 3)))))) (fun h3 => some ((h3, (1 : Int32))))) : Option (Hp × Int32))) hx ?_
  refine x_aload_n hO 0 rfl rfl dX4_search_60 ?_
  refine x_iconst hO (v := 1) (by decide) dX4_search_61 ?_
  refine x_putZ hO (by decide) fl_RX4_9 hx0 dX4_search_62 ?_
  refine x_aload_n hO 0 rfl rfl dX4_search_65 ?_
  refine x_iload hO 1 rfl dX4_search_66 ?_
  refine x_putI hO fl_RX4_15 hx0 dX4_search_68 ?_
  refine x_aload_n hO 0 rfl rfl dX4_search_71 ?_
  refine x_iload hO 2 rfl dX4_search_72 ?_
  refine x_putI hO fl_RX4_19 hx0 dX4_search_74 ?_
  refine x_aload_n hO 0 rfl rfl dX4_search_77 ?_
  refine x_getR hO fl_RX4_26 hx0 dX4_search_78 ?_
  refine x_iconst hO (v := 0) (by decide) dX4_search_81 ?_
  refine x_aload_n hO 0 rfl rfl dX4_search_82 ?_
  refine x_getR hO fl_RX4_22 hx0 dX4_search_83 ?_
  refine x_iconst hO (v := 0) (by decide) dX4_search_86 ?_
  refine x_aload_n hO 0 rfl rfl dX4_search_87 ?_
  refine x_getR hO fl_RX4_22 hx0 dX4_search_88 ?_
  refine x_alenI hO (gr_4_3 hx0) dX4_search_91 ?_
  refine x_copyI hO lc_RX4_60 (gr_4_4 hx0) (gr_4_3 hx0) (Nat.le_of_ble_eq_true rfl) (Nat.le_of_ble_eq_true rfl) dX4_search_92 ?_
  refine x_bnd ?_
  generalize sI (uI (uI (uI y2_0 x0 0 ((1 : Int32))) x0 1 y2_1) x0 2 y2_2) (GR x0 3) (va_cpy (hI (uI (uI (uI y2_0 x0 0 ((1 : Int32))) x0 1 y2_1) x0 2 y2_2) (GR x0 4)) (hI (uI (uI (uI y2_0 x0 0 ((1 : Int32))) x0 1 y2_1) x0 2 y2_2) (GR x0 3)) (nx ((0 : Int32))) (nx ((0 : Int32))) (nx (nI (LEN (GR x0 3))))) = h3
  refine x_iconst hO (v := 1) (by decide) dX4_search_95 ?_
  exact x_zretv hO rfl (by decide) dX4_search_96 (hR _)
theorem ok_X4_search (G : Gl) (h : Hp) (x0 : Nat) (x1 : Nat) (x2 : Int32) (x3 : Nat) (hx0 : Is x0 4) (hx1 : Is x1 2) (hx3 : Is x3 15) : CN G mX4_search [.ref (gb G + x0), .ref (gb G + x1), .int x2, .ref (gb G + x3)] h ((F_X4_search h x0 x1 x2 x3).map (emHI)) := CN.fn pn_RX4 (Nat.le_of_ble_eq_true rfl) (fun Γ hG hO => by subst hG; exact go_X4_search hO h x0 x1 x2 x3 hx0 hx1 hx3 (fun _ q => q))
noncomputable def B_X6_search_9 (h : Hp) (x0 : Nat) (x1 : Nat) (x2 : Nat) (x3 : Int32) (x4 : Int32) : Option ((Hp × Int32 × Int32) ⊕ (Hp × Int32)) :=
  if (hI h x0 4) < x4 then some (.inr ((h, (0 : Int32)))) else (F_X6_searchRows h x0 x1 x2 x4 x3).bind (fun r1 => if r1.2 = 0 then some (.inl (r1.1, x3 * (hI r1.1 x0 4), x4 + (1 : Int32))) else some (.inr ((uI (uI r1.1 x0 7 ((1 : Int32))) x0 8 x4, (1 : Int32)))))
noncomputable def L_X6_search_9 (h : Hp) (x0 : Nat) (x1 : Nat) (x2 : Nat) (x3 : Int32) (x4 : Int32) : Option (Hp × Int32) := iterW (fun s : Hp × Int32 × Int32 => B_X6_search_9 s.1 x0 x1 x2 s.2.1 s.2.2) (h, x3, x4)
set_option maxHeartbeats 4000000 in
set_option maxRecDepth 100000 in
theorem go_X6_search_B9 {Γ : Cx} (hO : Ok Γ mX6_search) (h : Hp) (x0 : Nat) (x1 : Nat) (x2 : Nat) (x3 : Int32) (x4 : Int32) (hx0 : Is x0 6) (hx1 : Is x1 2) (hx2 : Is x2 3) {K : (Hp × Int32 × Int32) ⊕ (Hp × Int32) → Prop} (hC : ∀ (h : Hp) (x3 : Int32) (x4 : Int32), K (.inl (h, x3, x4)) → EW Γ mX6_search 9 [(0, rf Γ x0), (1, rf Γ x1), (2, rf Γ x2), (3, .int x3), (4, .int x4)] [] h) (hR : ∀ r, K (.inr r) → emHI r = tgt Γ) : EG Γ mX6_search 9 [(0, rf Γ x0), (1, rf Γ x1), (2, rf Γ x2), (3, .int x3), (4, .int x4)] [] h (B_X6_search_9 h x0 x1 x2 x3 x4) K := by
  unfold B_X6_search_9
  refine x_iload hO 4 rfl dX6_search_9 ?_
  refine x_aload_n hO 0 rfl rfl dX6_search_11 ?_
  refine x_getI hO fl_RX6_25 hx0 dX6_search_12 ?_
  refine x_icmp_gt hO (tg := 56) dX6_search_15 (by decide) ?_ ?_
  · refine x_iconst hO (v := 0) (by decide) dX6_search_56 ?_
    exact x_zretv hO rfl (by decide) dX6_search_57 (hR _)
  · refine x_aload_n hO 0 rfl rfl dX6_search_18 ?_
    refine x_aload_n hO 1 rfl rfl dX6_search_19 ?_
    refine x_aload_n hO 2 rfl rfl dX6_search_20 ?_
    refine x_iload hO 4 rfl dX6_search_21 ?_
    refine x_iload_n hO 3 rfl rfl dX6_search_23 ?_
    refine y_HI (x_callV hO lv_RX6_68 hx0 vc_6 (by decide) (As := [rf Γ x1, rf Γ x2, .int x4, .int x3]) rfl (Nat.le_of_ble_eq_true rfl) (ok_X6_searchRows (cG Γ) h x0 x1 x2 x4 x3 hx0 hx1 hx2) dX6_search_24 rfl (Nat.le_of_ble_eq_true rfl)) (fun r1 => ?_)
    refine x_if_eq hO (tg := 43) dX6_search_27 (by decide) ?_ ?_
    · refine x_iload_n hO 3 rfl rfl dX6_search_43 ?_
      refine x_aload_n hO 0 rfl rfl dX6_search_44 ?_
      refine x_getI hO fl_RX6_25 hx0 dX6_search_45 ?_
      refine x_imul hO dX6_search_48 ?_
      refine x_istore_n hO rfl [(3, .int (x3 * (hI r1.1 x0 4))), (0, rf Γ x0), (1, rf Γ x1), (2, rf Γ x2), (4, .int x4)] dX6_search_49 (by decide) rfl ?_
      refine x_iinc hO 4 (v := 1) [(4, .int (x4 + (1 : Int32))), (3, .int (x3 * (hI r1.1 x0 4))), (0, rf Γ x0), (1, rf Γ x1), (2, rf Γ x2)] dX6_search_50 rfl (by decide) (by decide) rfl ?_
      refine x_goto hO (tg := 9) dX6_search_53 (by decide) ?_
      exact x_leafs [2, 3, 4, 1, 0] rfl (hC r1.1 (x3 * (hI r1.1 x0 4)) (x4 + (1 : Int32)))
    · refine x_aload_n hO 0 rfl rfl dX6_search_30 ?_
      refine x_iconst hO (v := 1) (by decide) dX6_search_31 ?_
      refine x_putZ hO (by decide) fl_RX6_34 hx0 dX6_search_32 ?_
      refine x_aload_n hO 0 rfl rfl dX6_search_35 ?_
      refine x_iload hO 4 rfl dX6_search_36 ?_
      refine x_putI hO fl_RX6_38 hx0 dX6_search_38 ?_
      refine x_iconst hO (v := 1) (by decide) dX6_search_41 ?_
      exact x_zretv hO rfl (by decide) dX6_search_42 (hR _)
set_option maxHeartbeats 4000000 in
set_option maxRecDepth 100000 in
theorem go_X6_search_L9 {Γ : Cx} (hO : Ok Γ mX6_search) (h : Hp) (x0 : Nat) (x1 : Nat) (x2 : Nat) (x3 : Int32) (x4 : Int32) (hx0 : Is x0 6) (hx1 : Is x1 2) (hx2 : Is x2 3) {K : Hp × Int32 → Prop} (hR : ∀ r, K (r) → emHI r = tgt Γ) : EG Γ mX6_search 9 [(0, rf Γ x0), (1, rf Γ x1), (2, rf Γ x2), (3, .int x3), (4, .int x4)] [] h (L_X6_search_9 h x0 x1 x2 x3 x4) K := by
  have q := x_loop (Γ := Γ) (M := mX6_search) (pc := 9) (B := fun s : Hp × Int32 × Int32 => B_X6_search_9 s.1 x0 x1 x2 s.2.1 s.2.2) (lvf := fun s => [(0, rf Γ x0), (1, rf Γ x1), (2, rf Γ x2), (3, .int s.2.1), (4, .int s.2.2)]) (hf := fun s => s.1) (Ky := K) (fun s => go_X6_search_B9 hO s.1 x0 x1 x2 s.2.1 s.2.2 hx0 hx1 hx2 (fun _ _ _ => id) hR) (h, x3, x4)
  exact q
noncomputable def F_X6_search (h : Hp) (x0 : Nat) (x1 : Nat) (x2 : Nat) : Option (Hp × Int32) :=
  (F_X6_gatherColumns h x0).bind (fun r1 => L_X6_search_9 r1 x0 x1 x2 ((1 : Int32)) ((0 : Int32)))
set_option maxHeartbeats 4000000 in
set_option maxRecDepth 100000 in
theorem go_X6_search {Γ : Cx} (hO : Ok Γ mX6_search) (h : Hp) (x0 : Nat) (x1 : Nat) (x2 : Nat) (hx0 : Is x0 6) (hx1 : Is x1 2) (hx2 : Is x2 3) {K : Hp × Int32 → Prop} (hR : ∀ r, K r → emHI r = tgt Γ) : EG Γ mX6_search 0 [(0, rf Γ x0), (1, rf Γ x1), (2, rf Γ x2)] [] h (F_X6_search h x0 x1 x2) K := by
  unfold F_X6_search
  refine x_aload_n hO 0 rfl rfl dX6_search_0 ?_
  refine y_HV (x_callV hO lv_RX6_65 hx0 vc_6 (by decide) (As := []) rfl (Nat.le_of_ble_eq_true rfl) (ok_X6_gatherColumns (cG Γ) h x0 hx0) dX6_search_1 rfl (Nat.le_of_ble_eq_true rfl)) (fun r1 => ?_)
  refine x_iconst hO (v := 1) (by decide) dX6_search_4 ?_
  refine x_istore_n hO rfl [(3, .int ((1 : Int32))), (0, rf Γ x0), (1, rf Γ x1), (2, rf Γ x2)] dX6_search_5 (by decide) rfl ?_
  refine x_iconst hO (v := 0) (by decide) dX6_search_6 ?_
  refine x_istore hO [(4, .int ((0 : Int32))), (3, .int ((1 : Int32))), (0, rf Γ x0), (1, rf Γ x1), (2, rf Γ x2)] dX6_search_7 (by decide) rfl ?_
  exact x_sub [2, 3, 4, 1, 0] rfl (go_X6_search_L9 hO r1 x0 x1 x2 ((1 : Int32)) ((0 : Int32)) hx0 hx1 hx2 hR)
theorem ok_X6_search (G : Gl) (h : Hp) (x0 : Nat) (x1 : Nat) (x2 : Nat) (hx0 : Is x0 6) (hx1 : Is x1 2) (hx2 : Is x2 3) : CN G mX6_search [.ref (gb G + x0), .ref (gb G + x1), .ref (gb G + x2)] h ((F_X6_search h x0 x1 x2).map (emHI)) := CN.fn pn_RX6 (Nat.le_of_ble_eq_true rfl) (fun Γ hG hO => by subst hG; exact go_X6_search hO h x0 x1 x2 hx0 hx1 hx2 (fun _ q => q))
noncomputable def F_X11_collate (h : Hp) (x0 : Nat) (x1 : Int32) (x2 : Int32) : Option (Hp × Int32) :=
  (F_X11_isField h x1 x2).bind (fun r1 => if r1 = 0 then (F_X11_refuse h x0 ((1 : Int32))).bind (fun r4 => some ((r4.1, r4.2))) else (F_X3_collateBy h (GR x0 6) (GR x0 2) x1 x2).bind (fun r2 => (F_X11_answer r2.1 x0 r2.2).bind (fun r3 => some ((r3.1, r3.2)))))
set_option maxHeartbeats 4000000 in
set_option maxRecDepth 100000 in
theorem go_X11_collate {Γ : Cx} (hO : Ok Γ mX11_collate) (h : Hp) (x0 : Nat) (x1 : Int32) (x2 : Int32) (hx0 : Is x0 11) {K : Hp × Int32 → Prop} (hR : ∀ r, K r → emHI r = tgt Γ) : EG Γ mX11_collate 0 [(0, rf Γ x0), (1, .int x1), (2, .int x2)] [] h (F_X11_collate h x0 x1 x2) K := by
  unfold F_X11_collate
  refine x_iload_n hO 1 rfl rfl dX11_collate_0 ?_
  refine x_iload_n hO 2 rfl rfl dX11_collate_1 ?_
  refine y_PI (x_callS hO lt_RX11_277 (As := [.int x1, .int x2]) rfl (Nat.le_of_ble_eq_true rfl) (ok_X11_isField (cG Γ) h x1 x2) dX11_collate_2 rfl (Nat.le_of_ble_eq_true rfl)) (fun r1 => ?_)
  refine x_if_ne hO (tg := 14) dX11_collate_5 (by decide) ?_ ?_
  · refine x_aload_n hO 0 rfl rfl dX11_collate_14 ?_
    refine x_aload_n hO 0 rfl rfl dX11_collate_15 ?_
    refine x_getR hO fl_RX11_47 hx0 dX11_collate_16 ?_
    refine x_aload_n hO 0 rfl rfl dX11_collate_19 ?_
    refine x_getR hO fl_RX11_22 hx0 dX11_collate_20 ?_
    refine x_iload_n hO 1 rfl rfl dX11_collate_23 ?_
    refine x_iload_n hO 2 rfl rfl dX11_collate_24 ?_
    refine y_HI (x_callV hO lv_RX11_303 (gr_11_6 hx0) vc_3 (by decide) (As := [rf Γ (GR x0 2), .int x1, .int x2]) rfl (Nat.le_of_ble_eq_true rfl) (ok_X3_collateBy (cG Γ) h (GR x0 6) (GR x0 2) x1 x2 (gr_11_6 hx0) (gr_11_2 hx0)) dX11_collate_25 rfl (Nat.le_of_ble_eq_true rfl)) (fun r2 => ?_)
    refine y_HI (x_callV hO lv_RX11_157 hx0 vc_11 (by decide) (As := [.int r2.2]) rfl (Nat.le_of_ble_eq_true rfl) (ok_X11_answer (cG Γ) r2.1 x0 r2.2 hx0) dX11_collate_28 rfl (Nat.le_of_ble_eq_true rfl)) (fun r3 => ?_)
    exact x_iret hO rfl dX11_collate_31 (hR _)
  · refine x_aload_n hO 0 rfl rfl dX11_collate_8 ?_
    refine x_iconst hO (v := 1) (by decide) dX11_collate_9 ?_
    refine y_HI (x_callV hO lv_RX11_119 hx0 vc_11 (by decide) (As := [.int ((1 : Int32))]) rfl (Nat.le_of_ble_eq_true rfl) (ok_X11_refuse (cG Γ) h x0 ((1 : Int32)) hx0) dX11_collate_10 rfl (Nat.le_of_ble_eq_true rfl)) (fun r4 => ?_)
    exact x_iret hO rfl dX11_collate_13 (hR _)
theorem ok_X11_collate (G : Gl) (h : Hp) (x0 : Nat) (x1 : Int32) (x2 : Int32) (hx0 : Is x0 11) : CN G mX11_collate [.ref (gb G + x0), .int x1, .int x2] h ((F_X11_collate h x0 x1 x2).map (emHI)) := CN.fn pn_RX11 (Nat.le_of_ble_eq_true rfl) (fun Γ hG hO => by subst hG; exact go_X11_collate hO h x0 x1 x2 hx0 (fun _ q => q))
noncomputable def F_X11_fewest (h : Hp) (x0 : Nat) (x1 : Int32) (x2 : Int32) : Option (Hp × Int32) :=
  (F_X11_isColumn h x1).bind (fun r1 => if r1 = 0 then (F_X11_refuse h x0 ((1 : Int32))).bind (fun r2 => some ((r2.1, r2.2))) else (F_X11_isTray h x2).bind (fun r3 => if r3 = 0 then (F_X11_refuse h x0 ((1 : Int32))).bind (fun r10 => some ((r10.1, r10.2))) else (F_X11_rowStatus h x0 x2 ((13 : Int32))).bind (fun r4 => if r4 = 0 then gd (ib x2 (LEN (GR x0 0))) ((F_X4_search h (GR x0 8) (GR x0 2) x1 (GR (GR (GR x0 0) (nx x2)) 3)).bind (fun r6 => if r6.2 = 0 then (F_X11_refuse r6.1 x0 ((6 : Int32))).bind (fun r8 => some ((r8.1, r8.2))) else (F_X11_answer r6.1 x0 (hI r6.1 (GR x0 8) 1)).bind (fun r7 => some ((r7.1, r7.2))))) else (F_X11_refuse h x0 r4).bind (fun r9 => some ((r9.1, r9.2))))))
set_option maxHeartbeats 4000000 in
set_option maxRecDepth 100000 in
theorem go_X11_fewest {Γ : Cx} (hO : Ok Γ mX11_fewest) (h : Hp) (x0 : Nat) (x1 : Int32) (x2 : Int32) (hx0 : Is x0 11) {K : Hp × Int32 → Prop} (hR : ∀ r, K r → emHI r = tgt Γ) : EG Γ mX11_fewest 0 [(0, rf Γ x0), (1, .int x1), (2, .int x2)] [] h (F_X11_fewest h x0 x1 x2) K := by
  unfold F_X11_fewest
  refine x_iload_n hO 1 rfl rfl dX11_fewest_0 ?_
  refine y_PI (x_callS hO lt_RX11_163 (As := [.int x1]) rfl (Nat.le_of_ble_eq_true rfl) (ok_X11_isColumn (cG Γ) h x1) dX11_fewest_1 rfl (Nat.le_of_ble_eq_true rfl)) (fun r1 => ?_)
  refine x_if_eq hO (tg := 14) dX11_fewest_4 (by decide) ?_ ?_
  · refine x_aload_n hO 0 rfl rfl dX11_fewest_14 ?_
    refine x_iconst hO (v := 1) (by decide) dX11_fewest_15 ?_
    refine y_HI (x_callV hO lv_RX11_119 hx0 vc_11 (by decide) (As := [.int ((1 : Int32))]) rfl (Nat.le_of_ble_eq_true rfl) (ok_X11_refuse (cG Γ) h x0 ((1 : Int32)) hx0) dX11_fewest_16 rfl (Nat.le_of_ble_eq_true rfl)) (fun r2 => ?_)
    exact x_iret hO rfl dX11_fewest_19 (hR _)
  · refine x_iload_n hO 2 rfl rfl dX11_fewest_7 ?_
    refine y_PI (x_callS hO lt_RX11_96 (As := [.int x2]) rfl (Nat.le_of_ble_eq_true rfl) (ok_X11_isTray (cG Γ) h x2) dX11_fewest_8 rfl (Nat.le_of_ble_eq_true rfl)) (fun r3 => ?_)
    refine x_if_ne hO (tg := 20) dX11_fewest_11 (by decide) ?_ ?_
    · refine x_aload_n hO 0 rfl rfl dX11_fewest_20 ?_
      refine x_iload_n hO 2 rfl rfl dX11_fewest_21 ?_
      refine x_bipush hO (v := 13) (by decide) dX11_fewest_22 ?_
      refine y_PI (x_callV hO lv_RX11_144 hx0 vc_11 (by decide) (As := [.int x2, .int ((13 : Int32))]) rfl (Nat.le_of_ble_eq_true rfl) (ok_X11_rowStatus (cG Γ) h x0 x2 ((13 : Int32)) hx0) dX11_fewest_24 rfl (Nat.le_of_ble_eq_true rfl)) (fun r4 => ?_)
      refine x_istore_n hO rfl [(3, .int r4), (0, rf Γ x0), (1, .int x1), (2, .int x2)] dX11_fewest_27 (by decide) rfl ?_
      refine x_iload_n hO 0 rfl rfl dX11_fewest_28 ?_
      refine x_if_eq hO (tg := 38) dX11_fewest_29 (by decide) ?_ ?_
      · refine x_aload_n hO 1 rfl rfl dX11_fewest_38 ?_
        refine x_getR hO fl_RX11_61 hx0 dX11_fewest_39 ?_
        refine x_aload_n hO 1 rfl rfl dX11_fewest_42 ?_
        refine x_getR hO fl_RX11_22 hx0 dX11_fewest_43 ?_
        refine x_iload_n hO 2 rfl rfl dX11_fewest_46 ?_
        refine x_aload_n hO 1 rfl rfl dX11_fewest_47 ?_
        refine x_getR hO fl_RX11_11 hx0 dX11_fewest_48 ?_
        refine x_iload_n hO 3 rfl rfl dX11_fewest_51 ?_
        refine x_aaldT hO (gr_11_0 hx0) dX11_fewest_52 (fun q5 => ?_)
        refine x_getR hO fl_RX11_123 q5 dX11_fewest_53 ?_
        refine y_HI (x_callV hO lv_RX11_337 (gr_11_8 hx0) vc_4 (by decide) (As := [rf Γ (GR x0 2), .int x1, rf Γ (GR (GR (GR x0 0) (nx x2)) 3)]) rfl (Nat.le_of_ble_eq_true rfl) (ok_X4_search (cG Γ) h (GR x0 8) (GR x0 2) x1 (GR (GR (GR x0 0) (nx x2)) 3) (gr_11_8 hx0) (gr_11_2 hx0) (gr_10_3 q5)) dX11_fewest_56 rfl (Nat.le_of_ble_eq_true rfl)) (fun r6 => ?_)
        refine x_if_ne hO (tg := 69) dX11_fewest_59 (by decide) ?_ ?_
        · refine x_aload_n hO 1 rfl rfl dX11_fewest_69 ?_
          refine x_aload_n hO 1 rfl rfl dX11_fewest_70 ?_
          refine x_getR hO fl_RX11_61 hx0 dX11_fewest_71 ?_
          refine x_getI hO fl_RX11_340 (gr_11_8 hx0) dX11_fewest_74 ?_
          refine y_HI (x_callV hO lv_RX11_157 hx0 vc_11 (by decide) (As := [.int (hI r6.1 (GR x0 8) 1)]) rfl (Nat.le_of_ble_eq_true rfl) (ok_X11_answer (cG Γ) r6.1 x0 (hI r6.1 (GR x0 8) 1) hx0) dX11_fewest_77 rfl (Nat.le_of_ble_eq_true rfl)) (fun r7 => ?_)
          exact x_iret hO rfl dX11_fewest_80 (hR _)
        · refine x_aload_n hO 1 rfl rfl dX11_fewest_62 ?_
          refine x_bipush hO (v := 6) (by decide) dX11_fewest_63 ?_
          refine y_HI (x_callV hO lv_RX11_119 hx0 vc_11 (by decide) (As := [.int ((6 : Int32))]) rfl (Nat.le_of_ble_eq_true rfl) (ok_X11_refuse (cG Γ) r6.1 x0 ((6 : Int32)) hx0) dX11_fewest_65 rfl (Nat.le_of_ble_eq_true rfl)) (fun r8 => ?_)
          exact x_iret hO rfl dX11_fewest_68 (hR _)
      · refine x_aload_n hO 1 rfl rfl dX11_fewest_32 ?_
        refine x_iload_n hO 0 rfl rfl dX11_fewest_33 ?_
        refine y_HI (x_callV hO lv_RX11_119 hx0 vc_11 (by decide) (As := [.int r4]) rfl (Nat.le_of_ble_eq_true rfl) (ok_X11_refuse (cG Γ) h x0 r4 hx0) dX11_fewest_34 rfl (Nat.le_of_ble_eq_true rfl)) (fun r9 => ?_)
        exact x_iret hO rfl dX11_fewest_37 (hR _)
    · refine x_aload_n hO 0 rfl rfl dX11_fewest_14 ?_
      refine x_iconst hO (v := 1) (by decide) dX11_fewest_15 ?_
      refine y_HI (x_callV hO lv_RX11_119 hx0 vc_11 (by decide) (As := [.int ((1 : Int32))]) rfl (Nat.le_of_ble_eq_true rfl) (ok_X11_refuse (cG Γ) h x0 ((1 : Int32)) hx0) dX11_fewest_16 rfl (Nat.le_of_ble_eq_true rfl)) (fun r10 => ?_)
      exact x_iret hO rfl dX11_fewest_19 (hR _)
theorem ok_X11_fewest (G : Gl) (h : Hp) (x0 : Nat) (x1 : Int32) (x2 : Int32) (hx0 : Is x0 11) : CN G mX11_fewest [.ref (gb G + x0), .int x1, .int x2] h ((F_X11_fewest h x0 x1 x2).map (emHI)) := CN.fn pn_RX11 (Nat.le_of_ble_eq_true rfl) (fun Γ hG hO => by subst hG; exact go_X11_fewest hO h x0 x1 x2 hx0 (fun _ q => q))
noncomputable def F_X11_plan (h : Hp) (x0 : Nat) (x1 : Int32) (x2 : Int32) : Option (Hp × Int32) :=
  (F_X11_keyStatus h x0 x1 x2).bind (fun r1 => if r1 = 0 then gd (ib x1 (LEN (GR x0 0))) ((F_X6_takeKey h (GR x0 7) (GR x0 2) (GR (GR (GR x0 0) (nx x1)) 3) x2).bind (fun r3 => (F_X6_search r3 (GR x0 7) (GR x0 2) (GR x0 6)).bind (fun r4 => if r4.2 = 0 then (F_X11_refuse r4.1 x0 ((6 : Int32))).bind (fun r6 => some ((r6.1, r6.2))) else (F_X11_answer r4.1 x0 (hI r4.1 (GR x0 7) 8)).bind (fun r5 => some ((r5.1, r5.2)))))) else (F_X11_refuse h x0 r1).bind (fun r7 => some ((r7.1, r7.2))))
set_option maxHeartbeats 4000000 in
set_option maxRecDepth 100000 in
theorem go_X11_plan {Γ : Cx} (hO : Ok Γ mX11_plan) (h : Hp) (x0 : Nat) (x1 : Int32) (x2 : Int32) (hx0 : Is x0 11) {K : Hp × Int32 → Prop} (hR : ∀ r, K r → emHI r = tgt Γ) : EG Γ mX11_plan 0 [(0, rf Γ x0), (1, .int x1), (2, .int x2)] [] h (F_X11_plan h x0 x1 x2) K := by
  unfold F_X11_plan
  refine x_aload_n hO 0 rfl rfl dX11_plan_0 ?_
  refine x_iload_n hO 1 rfl rfl dX11_plan_1 ?_
  refine x_iload_n hO 2 rfl rfl dX11_plan_2 ?_
  refine y_PI (x_callV hO lv_RX11_251 hx0 vc_11 (by decide) (As := [.int x1, .int x2]) rfl (Nat.le_of_ble_eq_true rfl) (ok_X11_keyStatus (cG Γ) h x0 x1 x2 hx0) dX11_plan_3 rfl (Nat.le_of_ble_eq_true rfl)) (fun r1 => ?_)
  refine x_istore_n hO rfl [(3, .int r1), (0, rf Γ x0), (1, .int x1), (2, .int x2)] dX11_plan_6 (by decide) rfl ?_
  refine x_iload_n hO 0 rfl rfl dX11_plan_7 ?_
  refine x_if_eq hO (tg := 17) dX11_plan_8 (by decide) ?_ ?_
  · refine x_aload_n hO 1 rfl rfl dX11_plan_17 ?_
    refine x_getR hO fl_RX11_54 hx0 dX11_plan_18 ?_
    refine x_aload_n hO 1 rfl rfl dX11_plan_21 ?_
    refine x_getR hO fl_RX11_22 hx0 dX11_plan_22 ?_
    refine x_aload_n hO 1 rfl rfl dX11_plan_25 ?_
    refine x_getR hO fl_RX11_11 hx0 dX11_plan_26 ?_
    refine x_iload_n hO 2 rfl rfl dX11_plan_29 ?_
    refine x_aaldT hO (gr_11_0 hx0) dX11_plan_30 (fun q2 => ?_)
    refine x_getR hO fl_RX11_123 q2 dX11_plan_31 ?_
    refine x_iload_n hO 3 rfl rfl dX11_plan_34 ?_
    refine y_HV (x_callV hO lv_RX11_254 (gr_11_7 hx0) vc_6 (by decide) (As := [rf Γ (GR x0 2), rf Γ (GR (GR (GR x0 0) (nx x1)) 3), .int x2]) rfl (Nat.le_of_ble_eq_true rfl) (ok_X6_takeKey (cG Γ) h (GR x0 7) (GR x0 2) (GR (GR (GR x0 0) (nx x1)) 3) x2 (gr_11_7 hx0) (gr_11_2 hx0) (gr_10_3 q2)) dX11_plan_35 rfl (Nat.le_of_ble_eq_true rfl)) (fun r3 => ?_)
    refine x_aload_n hO 1 rfl rfl dX11_plan_38 ?_
    refine x_getR hO fl_RX11_54 hx0 dX11_plan_39 ?_
    refine x_aload_n hO 1 rfl rfl dX11_plan_42 ?_
    refine x_getR hO fl_RX11_22 hx0 dX11_plan_43 ?_
    refine x_aload_n hO 1 rfl rfl dX11_plan_46 ?_
    refine x_getR hO fl_RX11_47 hx0 dX11_plan_47 ?_
    refine y_HI (x_callV hO lv_RX11_261 (gr_11_7 hx0) vc_6 (by decide) (As := [rf Γ (GR x0 2), rf Γ (GR x0 6)]) rfl (Nat.le_of_ble_eq_true rfl) (ok_X6_search (cG Γ) r3 (GR x0 7) (GR x0 2) (GR x0 6) (gr_11_7 hx0) (gr_11_2 hx0) (gr_11_6 hx0)) dX11_plan_50 rfl (Nat.le_of_ble_eq_true rfl)) (fun r4 => ?_)
    refine x_if_ne hO (tg := 63) dX11_plan_53 (by decide) ?_ ?_
    · refine x_aload_n hO 1 rfl rfl dX11_plan_63 ?_
      refine x_aload_n hO 1 rfl rfl dX11_plan_64 ?_
      refine x_getR hO fl_RX11_54 hx0 dX11_plan_65 ?_
      refine x_getI hO fl_RX11_265 (gr_11_7 hx0) dX11_plan_68 ?_
      refine y_HI (x_callV hO lv_RX11_157 hx0 vc_11 (by decide) (As := [.int (hI r4.1 (GR x0 7) 8)]) rfl (Nat.le_of_ble_eq_true rfl) (ok_X11_answer (cG Γ) r4.1 x0 (hI r4.1 (GR x0 7) 8) hx0) dX11_plan_71 rfl (Nat.le_of_ble_eq_true rfl)) (fun r5 => ?_)
      exact x_iret hO rfl dX11_plan_74 (hR _)
    · refine x_aload_n hO 1 rfl rfl dX11_plan_56 ?_
      refine x_bipush hO (v := 6) (by decide) dX11_plan_57 ?_
      refine y_HI (x_callV hO lv_RX11_119 hx0 vc_11 (by decide) (As := [.int ((6 : Int32))]) rfl (Nat.le_of_ble_eq_true rfl) (ok_X11_refuse (cG Γ) r4.1 x0 ((6 : Int32)) hx0) dX11_plan_59 rfl (Nat.le_of_ble_eq_true rfl)) (fun r6 => ?_)
      exact x_iret hO rfl dX11_plan_62 (hR _)
  · refine x_aload_n hO 1 rfl rfl dX11_plan_11 ?_
    refine x_iload_n hO 0 rfl rfl dX11_plan_12 ?_
    refine y_HI (x_callV hO lv_RX11_119 hx0 vc_11 (by decide) (As := [.int r1]) rfl (Nat.le_of_ble_eq_true rfl) (ok_X11_refuse (cG Γ) h x0 r1 hx0) dX11_plan_13 rfl (Nat.le_of_ble_eq_true rfl)) (fun r7 => ?_)
    exact x_iret hO rfl dX11_plan_16 (hR _)
theorem ok_X11_plan (G : Gl) (h : Hp) (x0 : Nat) (x1 : Int32) (x2 : Int32) (hx0 : Is x0 11) : CN G mX11_plan [.ref (gb G + x0), .int x1, .int x2] h ((F_X11_plan h x0 x1 x2).map (emHI)) := CN.fn pn_RX11 (Nat.le_of_ble_eq_true rfl) (fun Γ hG hO => by subst hG; exact go_X11_plan hO h x0 x1 x2 hx0 (fun _ q => q))
noncomputable def F_X11_run (h : Hp) (x0 : Nat) : Option (Hp × Int32) :=
  (F_X3_doSteps h (GR x0 6) (GR x0 2)).bind (fun r1 => (F_X11_answer r1.1 x0 r1.2).bind (fun r2 => some ((r2.1, r2.2))))
set_option maxHeartbeats 4000000 in
set_option maxRecDepth 100000 in
theorem go_X11_run {Γ : Cx} (hO : Ok Γ mX11_run) (h : Hp) (x0 : Nat) (hx0 : Is x0 11) {K : Hp × Int32 → Prop} (hR : ∀ r, K r → emHI r = tgt Γ) : EG Γ mX11_run 0 [(0, rf Γ x0)] [] h (F_X11_run h x0) K := by
  unfold F_X11_run
  refine x_aload_n hO 0 rfl rfl dX11_run_0 ?_
  refine x_aload_n hO 0 rfl rfl dX11_run_1 ?_
  refine x_getR hO fl_RX11_47 hx0 dX11_run_2 ?_
  refine x_aload_n hO 0 rfl rfl dX11_run_5 ?_
  refine x_getR hO fl_RX11_22 hx0 dX11_run_6 ?_
  refine y_HI (x_callV hO lv_RX11_325 (gr_11_6 hx0) vc_3 (by decide) (As := [rf Γ (GR x0 2)]) rfl (Nat.le_of_ble_eq_true rfl) (ok_X3_doSteps (cG Γ) h (GR x0 6) (GR x0 2) (gr_11_6 hx0) (gr_11_2 hx0)) dX11_run_9 rfl (Nat.le_of_ble_eq_true rfl)) (fun r1 => ?_)
  refine y_HI (x_callV hO lv_RX11_157 hx0 vc_11 (by decide) (As := [.int r1.2]) rfl (Nat.le_of_ble_eq_true rfl) (ok_X11_answer (cG Γ) r1.1 x0 r1.2 hx0) dX11_run_12 rfl (Nat.le_of_ble_eq_true rfl)) (fun r2 => ?_)
  exact x_iret hO rfl dX11_run_15 (hR _)
theorem ok_X11_run (G : Gl) (h : Hp) (x0 : Nat) (hx0 : Is x0 11) : CN G mX11_run [.ref (gb G + x0)] h ((F_X11_run h x0).map (emHI)) := CN.fn pn_RX11 (Nat.le_of_ble_eq_true rfl) (fun Γ hG hO => by subst hG; exact go_X11_run hO h x0 hx0 (fun _ q => q))
noncomputable def B_X12_fewest_71 (h : Hp) (x0 : Nat) (x1 : Int32) (x2 : Int32) (x3 : Int32) (x4 : Int32) : Option ((Hp × Int32) ⊕ (Hp)) :=
  if ((12 : Int32)) ≤ x4 then some (.inr h) else gd (ib x4 (LEN (GR x0 39))) (some (.inl (uI h (GR x0 39) (nx x4) ((0 : Int32)), x4 + (1 : Int32))))
noncomputable def L_X12_fewest_71 (h : Hp) (x0 : Nat) (x1 : Int32) (x2 : Int32) (x3 : Int32) (x4 : Int32) : Option (Hp) := iterW (fun s : Hp × Int32 => B_X12_fewest_71 s.1 x0 x1 x2 x3 s.2) (h, x4)
set_option maxHeartbeats 4000000 in
set_option maxRecDepth 100000 in
theorem go_X12_fewest_B71 {Γ : Cx} (hO : Ok Γ mX12_fewest) (h : Hp) (x0 : Nat) (x1 : Int32) (x2 : Int32) (x3 : Int32) (x4 : Int32) (hx0 : Is x0 12) {K : (Hp × Int32) ⊕ (Hp) → Prop} (hC : ∀ (h : Hp) (x4 : Int32), K (.inl (h, x4)) → EW Γ mX12_fewest 71 [(0, rf Γ x0), (1, .int x1), (2, .int x2), (3, .int x3), (4, .int x4)] [] h) (hE92 : ∀ (h : Hp), K (.inr h) → EW Γ mX12_fewest 92 [(0, rf Γ x0), (1, .int x1), (2, .int x2), (3, .int x3)] [] h) : EG Γ mX12_fewest 71 [(0, rf Γ x0), (1, .int x1), (2, .int x2), (3, .int x3), (4, .int x4)] [] h (B_X12_fewest_71 h x0 x1 x2 x3 x4) K := by
  unfold B_X12_fewest_71
  refine x_iload hO 4 rfl dX12_fewest_71 ?_
  refine x_bipush hO (v := 12) (by decide) dX12_fewest_73 ?_
  refine x_icmp_ge hO (tg := 92) dX12_fewest_75 (by decide) ?_ ?_
  · exact x_leafs [0, 1, 2, 3] rfl (hE92 h)
  · refine x_aload_n hO 0 rfl rfl dX12_fewest_78 ?_
    refine x_getR hO fl_RX12_80 hx0 dX12_fewest_79 ?_
    refine x_iload hO 4 rfl dX12_fewest_82 ?_
    refine x_iconst hO (v := 0) (by decide) dX12_fewest_84 ?_
    refine x_iast hO (gr_12_39 hx0) dX12_fewest_85 ?_
    refine x_iinc hO 4 (v := 1) [(4, .int (x4 + (1 : Int32))), (0, rf Γ x0), (1, .int x1), (2, .int x2), (3, .int x3)] dX12_fewest_86 rfl (by decide) (by decide) rfl ?_
    refine x_goto hO (tg := 71) dX12_fewest_89 (by decide) ?_
    exact x_leafs [1, 2, 3, 4, 0] rfl (hC (uI h (GR x0 39) (nx x4) ((0 : Int32))) (x4 + (1 : Int32)))
set_option maxHeartbeats 4000000 in
set_option maxRecDepth 100000 in
theorem go_X12_fewest_L71 {Γ : Cx} (hO : Ok Γ mX12_fewest) (h : Hp) (x0 : Nat) (x1 : Int32) (x2 : Int32) (x3 : Int32) (x4 : Int32) (hx0 : Is x0 12) {K : Hp → Prop} (hE92 : ∀ (h : Hp), K (h) → EW Γ mX12_fewest 92 [(0, rf Γ x0), (1, .int x1), (2, .int x2), (3, .int x3)] [] h) : EG Γ mX12_fewest 71 [(0, rf Γ x0), (1, .int x1), (2, .int x2), (3, .int x3), (4, .int x4)] [] h (L_X12_fewest_71 h x0 x1 x2 x3 x4) K := by
  have q := x_loop (Γ := Γ) (M := mX12_fewest) (pc := 71) (B := fun s : Hp × Int32 => B_X12_fewest_71 s.1 x0 x1 x2 x3 s.2) (lvf := fun s => [(0, rf Γ x0), (1, .int x1), (2, .int x2), (3, .int x3), (4, .int s.2)]) (hf := fun s => s.1) (Ky := K) (fun s => go_X12_fewest_B71 hO s.1 x0 x1 x2 x3 s.2 hx0 (fun _ _ => id) hE92) (h, x4)
  exact q
noncomputable def B_X12_fewest_95 (h : Hp) (x0 : Nat) (x1 : Int32) (x2 : Int32) (x3 : Int32) (x4 : Int32) : Option ((Hp × Int32) ⊕ (Hp)) :=
  gd (ib ((0 : Int32)) (LEN (GR x0 0))) (if (hI h (GR x0 0) (nx ((0 : Int32)))) ≤ x4 then some (.inr h) else (F_X12_reads h x0 x4 x1).bind (fun r1 => (F_X12_counts h x0 r1 ((1 : Int32))).bind (fun r2 => some (.inl (r2, x4 + (1 : Int32))))))
noncomputable def L_X12_fewest_95 (h : Hp) (x0 : Nat) (x1 : Int32) (x2 : Int32) (x3 : Int32) (x4 : Int32) : Option (Hp) := iterW (fun s : Hp × Int32 => B_X12_fewest_95 s.1 x0 x1 x2 x3 s.2) (h, x4)
set_option maxHeartbeats 4000000 in
set_option maxRecDepth 100000 in
theorem go_X12_fewest_B95 {Γ : Cx} (hO : Ok Γ mX12_fewest) (h : Hp) (x0 : Nat) (x1 : Int32) (x2 : Int32) (x3 : Int32) (x4 : Int32) (hx0 : Is x0 12) {K : (Hp × Int32) ⊕ (Hp) → Prop} (hC : ∀ (h : Hp) (x4 : Int32), K (.inl (h, x4)) → EW Γ mX12_fewest 95 [(0, rf Γ x0), (1, .int x1), (2, .int x2), (3, .int x3), (4, .int x4)] [] h) (hE124 : ∀ (h : Hp), K (.inr h) → EW Γ mX12_fewest 124 [(0, rf Γ x0), (1, .int x1), (2, .int x2), (3, .int x3)] [] h) : EG Γ mX12_fewest 95 [(0, rf Γ x0), (1, .int x1), (2, .int x2), (3, .int x3), (4, .int x4)] [] h (B_X12_fewest_95 h x0 x1 x2 x3 x4) K := by
  unfold B_X12_fewest_95
  refine x_iload hO 4 rfl dX12_fewest_95 ?_
  refine x_aload_n hO 0 rfl rfl dX12_fewest_97 ?_
  refine x_getR hO fl_RX12_7 hx0 dX12_fewest_98 ?_
  refine x_iconst hO (v := 0) (by decide) dX12_fewest_101 ?_
  refine x_iald hO (gr_12_0 hx0) dX12_fewest_102 ?_
  refine x_icmp_ge hO (tg := 124) dX12_fewest_103 (by decide) ?_ ?_
  · exact x_leafs [0, 1, 2, 3] rfl (hE124 h)
  · refine x_aload_n hO 0 rfl rfl dX12_fewest_106 ?_
    refine x_aload_n hO 0 rfl rfl dX12_fewest_107 ?_
    refine x_iload hO 4 rfl dX12_fewest_108 ?_
    refine x_iload_n hO 1 rfl rfl dX12_fewest_110 ?_
    refine y_PI (x_callV hO lv_RX12_155 hx0 vc_12 (by decide) (As := [.int x4, .int x1]) rfl (Nat.le_of_ble_eq_true rfl) (ok_X12_reads (cG Γ) h x0 x4 x1 hx0) dX12_fewest_111 rfl (Nat.le_of_ble_eq_true rfl)) (fun r1 => ?_)
    refine x_iconst hO (v := 1) (by decide) dX12_fewest_114 ?_
    refine y_HV (x_callV hO lv_RX12_371 hx0 vc_12 (by decide) (As := [.int r1, .int ((1 : Int32))]) rfl (Nat.le_of_ble_eq_true rfl) (ok_X12_counts (cG Γ) h x0 r1 ((1 : Int32)) hx0) dX12_fewest_115 rfl (Nat.le_of_ble_eq_true rfl)) (fun r2 => ?_)
    refine x_iinc hO 4 (v := 1) [(4, .int (x4 + (1 : Int32))), (0, rf Γ x0), (1, .int x1), (2, .int x2), (3, .int x3)] dX12_fewest_118 rfl (by decide) (by decide) rfl ?_
    refine x_goto hO (tg := 95) dX12_fewest_121 (by decide) ?_
    exact x_leafs [1, 2, 3, 4, 0] rfl (hC r2 (x4 + (1 : Int32)))
set_option maxHeartbeats 4000000 in
set_option maxRecDepth 100000 in
theorem go_X12_fewest_L95 {Γ : Cx} (hO : Ok Γ mX12_fewest) (h : Hp) (x0 : Nat) (x1 : Int32) (x2 : Int32) (x3 : Int32) (x4 : Int32) (hx0 : Is x0 12) {K : Hp → Prop} (hE124 : ∀ (h : Hp), K (h) → EW Γ mX12_fewest 124 [(0, rf Γ x0), (1, .int x1), (2, .int x2), (3, .int x3)] [] h) : EG Γ mX12_fewest 95 [(0, rf Γ x0), (1, .int x1), (2, .int x2), (3, .int x3), (4, .int x4)] [] h (L_X12_fewest_95 h x0 x1 x2 x3 x4) K := by
  have q := x_loop (Γ := Γ) (M := mX12_fewest) (pc := 95) (B := fun s : Hp × Int32 => B_X12_fewest_95 s.1 x0 x1 x2 x3 s.2) (lvf := fun s => [(0, rf Γ x0), (1, .int x1), (2, .int x2), (3, .int x3), (4, .int s.2)]) (hf := fun s => s.1) (Ky := K) (fun s => go_X12_fewest_B95 hO s.1 x0 x1 x2 x3 s.2 hx0 (fun _ _ => id) hE124) (h, x4)
  exact q
noncomputable def B_X12_fewest_134 (h : Hp) (x0 : Nat) (x1 : Int32) (x2 : Int32) (x3 : Int32) (x4 : Int32) : Option ((Hp × Int32) ⊕ (Hp × Int32)) :=
  if (hI h x0 43) = 0 then if ((2 : Int32)) ≤ x4 then some (.inr ((h, x4))) else (F_X12_goesThrough h x0 x1 x2 (x4 + (1 : Int32))).bind (fun r1 => some (.inl (r1, x4 + (1 : Int32)))) else some (.inr ((h, x4)))
noncomputable def L_X12_fewest_134 (h : Hp) (x0 : Nat) (x1 : Int32) (x2 : Int32) (x3 : Int32) (x4 : Int32) : Option (Hp × Int32) := iterW (fun s : Hp × Int32 => B_X12_fewest_134 s.1 x0 x1 x2 x3 s.2) (h, x4)
set_option maxHeartbeats 4000000 in
set_option maxRecDepth 100000 in
theorem go_X12_fewest_B134 {Γ : Cx} (hO : Ok Γ mX12_fewest) (h : Hp) (x0 : Nat) (x1 : Int32) (x2 : Int32) (x3 : Int32) (x4 : Int32) (hx0 : Is x0 12) {K : (Hp × Int32) ⊕ (Hp × Int32) → Prop} (hC : ∀ (h : Hp) (x4 : Int32), K (.inl (h, x4)) → EW Γ mX12_fewest 134 [(0, rf Γ x0), (1, .int x1), (2, .int x2), (3, .int x3), (4, .int x4)] [] h) (hE161 : ∀ (h : Hp) (x4 : Int32), K (.inr ((h, x4))) → EW Γ mX12_fewest 161 [(0, rf Γ x0), (3, .int x3), (4, .int x4)] [] h) : EG Γ mX12_fewest 134 [(0, rf Γ x0), (1, .int x1), (2, .int x2), (3, .int x3), (4, .int x4)] [] h (B_X12_fewest_134 h x0 x1 x2 x3 x4) K := by
  unfold B_X12_fewest_134
  refine x_aload_n hO 0 rfl rfl dX12_fewest_134 ?_
  refine x_getI hO fl_RX12_374 hx0 dX12_fewest_135 ?_
  refine x_if_ne hO (tg := 161) dX12_fewest_138 (by decide) ?_ ?_
  · exact x_leafs [0, 3, 4] rfl (hE161 h x4)
  · refine x_iload hO 4 rfl dX12_fewest_141 ?_
    refine x_iconst hO (v := 2) (by decide) dX12_fewest_143 ?_
    refine x_icmp_ge hO (tg := 161) dX12_fewest_144 (by decide) ?_ ?_
    · exact x_leafs [0, 3, 4] rfl (hE161 h x4)
    · refine x_iinc hO 4 (v := 1) [(4, .int (x4 + (1 : Int32))), (0, rf Γ x0), (1, .int x1), (2, .int x2), (3, .int x3)] dX12_fewest_147 rfl (by decide) (by decide) rfl ?_
      refine x_aload_n hO 1 rfl rfl dX12_fewest_150 ?_
      refine x_iload_n hO 2 rfl rfl dX12_fewest_151 ?_
      refine x_iload_n hO 3 rfl rfl dX12_fewest_152 ?_
      refine x_iload hO 0 rfl dX12_fewest_153 ?_
      refine y_HV (x_callV hO lv_RX12_387 hx0 vc_12 (by decide) (As := [.int x1, .int x2, .int (x4 + (1 : Int32))]) rfl (Nat.le_of_ble_eq_true rfl) (ok_X12_goesThrough (cG Γ) h x0 x1 x2 (x4 + (1 : Int32)) hx0) dX12_fewest_155 rfl (Nat.le_of_ble_eq_true rfl)) (fun r1 => ?_)
      refine x_goto hO (tg := 134) dX12_fewest_158 (by decide) ?_
      exact x_leafs [1, 2, 3, 4, 0] rfl (hC r1 (x4 + (1 : Int32)))
set_option maxHeartbeats 4000000 in
set_option maxRecDepth 100000 in
theorem go_X12_fewest_L134 {Γ : Cx} (hO : Ok Γ mX12_fewest) (h : Hp) (x0 : Nat) (x1 : Int32) (x2 : Int32) (x3 : Int32) (x4 : Int32) (hx0 : Is x0 12) {K : Hp × Int32 → Prop} (hE161 : ∀ (h : Hp) (x4 : Int32), K ((h, x4)) → EW Γ mX12_fewest 161 [(0, rf Γ x0), (3, .int x3), (4, .int x4)] [] h) : EG Γ mX12_fewest 134 [(0, rf Γ x0), (1, .int x1), (2, .int x2), (3, .int x3), (4, .int x4)] [] h (L_X12_fewest_134 h x0 x1 x2 x3 x4) K := by
  have q := x_loop (Γ := Γ) (M := mX12_fewest) (pc := 134) (B := fun s : Hp × Int32 => B_X12_fewest_134 s.1 x0 x1 x2 x3 s.2) (lvf := fun s => [(0, rf Γ x0), (1, .int x1), (2, .int x2), (3, .int x3), (4, .int s.2)]) (hf := fun s => s.1) (Ky := K) (fun s => go_X12_fewest_B134 hO s.1 x0 x1 x2 x3 s.2 hx0 (fun _ _ => id) hE161) (h, x4)
  exact q
noncomputable def J_X12_fewest_161 (h : Hp) (x0 : Nat) (x3 : Int32) (x4 : Int32) : Option (Hp × Int32) :=
  if (hI h x0 43) = 0 then (F_X12_refuse (uI h x0 43 x3) x0 ((6 : Int32))).bind (fun r2 => some ((r2.1, r2.2))) else (F_X12_gives (uI h x0 42 x4) x0 x4).bind (fun r1 => some ((r1.1, r1.2)))
set_option maxHeartbeats 4000000 in
set_option maxRecDepth 100000 in
theorem go_X12_fewest_J161 {Γ : Cx} (hO : Ok Γ mX12_fewest) (h : Hp) (x0 : Nat) (x3 : Int32) (x4 : Int32) (hx0 : Is x0 12) {K : Hp × Int32 → Prop} (hR : ∀ r, K r → emHI r = tgt Γ) : EG Γ mX12_fewest 161 [(0, rf Γ x0), (3, .int x3), (4, .int x4)] [] h (J_X12_fewest_161 h x0 x3 x4) K := by
  unfold J_X12_fewest_161
  refine x_aload_n hO 0 rfl rfl dX12_fewest_161 ?_
  refine x_getI hO fl_RX12_374 hx0 dX12_fewest_162 ?_
  refine x_if_ne hO (tg := 180) dX12_fewest_165 (by decide) ?_ ?_
  · refine x_aload_n hO 0 rfl rfl dX12_fewest_180 ?_
    refine x_iload hO 2 rfl dX12_fewest_181 ?_
    refine x_putI hO fl_RX12_89 hx0 dX12_fewest_183 ?_
    refine x_aload_n hO 0 rfl rfl dX12_fewest_186 ?_
    refine x_iload hO 2 rfl dX12_fewest_187 ?_
    refine y_HI (x_callV hO lv_RX12_146 hx0 vc_12 (by decide) (As := [.int x4]) rfl (Nat.le_of_ble_eq_true rfl) (ok_X12_gives (cG Γ) (uI h x0 42 x4) x0 x4 hx0) dX12_fewest_189 rfl (Nat.le_of_ble_eq_true rfl)) (fun r1 => ?_)
    exact x_iret hO rfl dX12_fewest_192 (hR _)
  · refine x_aload_n hO 0 rfl rfl dX12_fewest_168 ?_
    refine x_iload_n hO 1 rfl rfl dX12_fewest_169 ?_
    refine x_putI hO fl_RX12_374 hx0 dX12_fewest_170 ?_
    refine x_aload_n hO 0 rfl rfl dX12_fewest_173 ?_
    refine x_bipush hO (v := 6) (by decide) dX12_fewest_174 ?_
    refine y_HI (x_callV hO lv_RX12_137 hx0 vc_12 (by decide) (As := [.int ((6 : Int32))]) rfl (Nat.le_of_ble_eq_true rfl) (ok_X12_refuse (cG Γ) (uI h x0 43 x3) x0 ((6 : Int32)) hx0) dX12_fewest_176 rfl (Nat.le_of_ble_eq_true rfl)) (fun r2 => ?_)
    exact x_iret hO rfl dX12_fewest_179 (hR _)
noncomputable def F_X12_fewest (h : Hp) (x0 : Nat) (x1 : Int32) (x2 : Int32) : Option (Hp × Int32) :=
  (F_X12_isColumn h x1).bind (fun r1 => if r1 = 0 then (F_X12_refuse h x0 ((1 : Int32))).bind (fun r2 => some ((r2.1, r2.2))) else (F_X12_isTray h x2).bind (fun r3 => if r3 = 0 then (F_X12_refuse h x0 ((1 : Int32))).bind (fun r10 => some ((r10.1, r10.2))) else gd (ib x2 (LEN (GR x0 5))) (if (hI h (GR x0 5) (nx x2)) = ((-1 : Int32)) then (F_X12_refuse h x0 ((2 : Int32))).bind (fun r9 => some ((r9.1, r9.2))) else gd (ib x2 (LEN (GR x0 5))) (if ((13 : Int32)) ≤ (hI h (GR x0 5) (nx x2)) then (L_X12_fewest_71 (uI (uI h x0 43 ((0 : Int32))) x0 44 ((0 : Int32))) x0 x1 x2 (hI h x0 43) ((0 : Int32))).bind (fun e4 => (L_X12_fewest_95 e4 x0 x1 x2 (hI h x0 43) ((0 : Int32))).bind (fun e5 => (F_X12_goesThrough e5 x0 x1 x2 ((0 : Int32))).bind (fun r6 => (L_X12_fewest_134 r6 x0 x1 x2 (hI h x0 43) ((0 : Int32))).bind (fun e7 => J_X12_fewest_161 e7.1 x0 (hI h x0 43) e7.2)))) else (F_X12_refuse h x0 ((3 : Int32))).bind (fun r8 => some ((r8.1, r8.2)))))))
set_option maxHeartbeats 4000000 in
set_option maxRecDepth 100000 in
theorem go_X12_fewest {Γ : Cx} (hO : Ok Γ mX12_fewest) (h : Hp) (x0 : Nat) (x1 : Int32) (x2 : Int32) (hx0 : Is x0 12) {K : Hp × Int32 → Prop} (hR : ∀ r, K r → emHI r = tgt Γ) : EG Γ mX12_fewest 0 [(0, rf Γ x0), (1, .int x1), (2, .int x2)] [] h (F_X12_fewest h x0 x1 x2) K := by
  unfold F_X12_fewest
  refine x_iload_n hO 1 rfl rfl dX12_fewest_0 ?_
  refine y_PI (x_callS hO lt_RX12_152 (As := [.int x1]) rfl (Nat.le_of_ble_eq_true rfl) (ok_X12_isColumn (cG Γ) h x1) dX12_fewest_1 rfl (Nat.le_of_ble_eq_true rfl)) (fun r1 => ?_)
  refine x_if_eq hO (tg := 14) dX12_fewest_4 (by decide) ?_ ?_
  · refine x_aload_n hO 0 rfl rfl dX12_fewest_14 ?_
    refine x_iconst hO (v := 1) (by decide) dX12_fewest_15 ?_
    refine y_HI (x_callV hO lv_RX12_137 hx0 vc_12 (by decide) (As := [.int ((1 : Int32))]) rfl (Nat.le_of_ble_eq_true rfl) (ok_X12_refuse (cG Γ) h x0 ((1 : Int32)) hx0) dX12_fewest_16 rfl (Nat.le_of_ble_eq_true rfl)) (fun r2 => ?_)
    exact x_iret hO rfl dX12_fewest_19 (hR _)
  · refine x_iload_n hO 2 rfl rfl dX12_fewest_7 ?_
    refine y_PI (x_callS hO lt_RX12_113 (As := [.int x2]) rfl (Nat.le_of_ble_eq_true rfl) (ok_X12_isTray (cG Γ) h x2) dX12_fewest_8 rfl (Nat.le_of_ble_eq_true rfl)) (fun r3 => ?_)
    refine x_if_ne hO (tg := 20) dX12_fewest_11 (by decide) ?_ ?_
    · refine x_aload_n hO 0 rfl rfl dX12_fewest_20 ?_
      refine x_getR hO fl_RX12_20 hx0 dX12_fewest_21 ?_
      refine x_iload_n hO 2 rfl rfl dX12_fewest_24 ?_
      refine x_iald hO (gr_12_5 hx0) dX12_fewest_25 ?_
      refine x_iconst hO (v := -1) (by decide) dX12_fewest_26 ?_
      refine x_icmp_ne hO (tg := 36) dX12_fewest_27 (by decide) ?_ ?_
      · refine x_aload_n hO 0 rfl rfl dX12_fewest_36 ?_
        refine x_getR hO fl_RX12_20 hx0 dX12_fewest_37 ?_
        refine x_iload_n hO 2 rfl rfl dX12_fewest_40 ?_
        refine x_iald hO (gr_12_5 hx0) dX12_fewest_41 ?_
        refine x_bipush hO (v := 13) (by decide) dX12_fewest_42 ?_
        refine x_icmp_ge hO (tg := 53) dX12_fewest_44 (by decide) ?_ ?_
        · refine x_aload_n hO 0 rfl rfl dX12_fewest_53 ?_
          refine x_getI hO fl_RX12_374 hx0 dX12_fewest_54 ?_
          refine x_istore_n hO rfl [(3, .int (hI h x0 43)), (0, rf Γ x0), (1, .int x1), (2, .int x2)] dX12_fewest_57 (by decide) rfl ?_
          refine x_aload_n hO 1 rfl rfl dX12_fewest_58 ?_
          refine x_iconst hO (v := 0) (by decide) dX12_fewest_59 ?_
          refine x_putI hO fl_RX12_374 hx0 dX12_fewest_60 ?_
          refine x_aload_n hO 1 rfl rfl dX12_fewest_63 ?_
          refine x_iconst hO (v := 0) (by decide) dX12_fewest_64 ?_
          refine x_putI hO fl_RX12_365 hx0 dX12_fewest_65 ?_
          refine x_iconst hO (v := 0) (by decide) dX12_fewest_68 ?_
          refine x_istore hO [(4, .int ((0 : Int32))), (3, .int (hI h x0 43)), (0, rf Γ x0), (1, .int x1), (2, .int x2)] dX12_fewest_69 (by decide) rfl ?_
          refine x_bind (x_sub [2, 3, 4, 1, 0] rfl (go_X12_fewest_L71 hO (uI (uI h x0 43 ((0 : Int32))) x0 44 ((0 : Int32))) x0 x1 x2 (hI h x0 43) ((0 : Int32)) hx0 (fun y4_0 hx => ?_)))
          refine x_run (t := ((L_X12_fewest_95 y4_0 x0 x1 x2 (hI h x0 43) ((0 : Int32))).bind (fun e5 => (F_X12_goesThrough e5 x0 x1 x2 ((0 : Int32))).bind (fun r6 => (L_X12_fewest_134 r6 x0 x1 x2 (hI h x0 43) ((0 : Int32))).bind (fun e7 => J_X12_fewest_161 e7.1 x0 (hI h x0 43) e7.2))) : Option (Hp × Int32))) hx ?_
          refine x_iconst hO (v := 0) (by decide) dX12_fewest_92 ?_
          refine x_istore hO [(4, .int ((0 : Int32))), (0, rf Γ x0), (1, .int x1), (2, .int x2), (3, .int (hI h x0 43))] dX12_fewest_93 (by decide) rfl ?_
          refine x_bind (x_sub [1, 2, 3, 4, 0] rfl (go_X12_fewest_L95 hO y4_0 x0 x1 x2 (hI h x0 43) ((0 : Int32)) hx0 (fun y5_0 hx => ?_)))
          refine x_run (t := ((F_X12_goesThrough y5_0 x0 x1 x2 ((0 : Int32))).bind (fun r6 => (L_X12_fewest_134 r6 x0 x1 x2 (hI h x0 43) ((0 : Int32))).bind (fun e7 => J_X12_fewest_161 e7.1 x0 (hI h x0 43) e7.2)) : Option (Hp × Int32))) hx ?_
          refine x_iconst hO (v := 0) (by decide) dX12_fewest_124 ?_
          refine x_istore hO [(4, .int ((0 : Int32))), (0, rf Γ x0), (1, .int x1), (2, .int x2), (3, .int (hI h x0 43))] dX12_fewest_125 (by decide) rfl ?_
          refine x_aload_n hO 1 rfl rfl dX12_fewest_127 ?_
          refine x_iload_n hO 2 rfl rfl dX12_fewest_128 ?_
          refine x_iload_n hO 3 rfl rfl dX12_fewest_129 ?_
          refine x_iconst hO (v := 0) (by decide) dX12_fewest_130 ?_
          refine y_HV (x_callV hO lv_RX12_387 hx0 vc_12 (by decide) (As := [.int x1, .int x2, .int ((0 : Int32))]) rfl (Nat.le_of_ble_eq_true rfl) (ok_X12_goesThrough (cG Γ) y5_0 x0 x1 x2 ((0 : Int32)) hx0) dX12_fewest_131 rfl (Nat.le_of_ble_eq_true rfl)) (fun r6 => ?_)
          refine x_bind (x_sub [1, 2, 3, 4, 0] rfl (go_X12_fewest_L134 hO r6 x0 x1 x2 (hI h x0 43) ((0 : Int32)) hx0 (fun y7_0 y7_1 hx => ?_)))
          refine x_run (t := (J_X12_fewest_161 y7_0 x0 (hI h x0 43) y7_1 : Option (Hp × Int32))) hx ?_
          exact x_sub [0, 1, 2] rfl (go_X12_fewest_J161 hO y7_0 x0 (hI h x0 43) y7_1 hx0 hR)
        · refine x_aload_n hO 0 rfl rfl dX12_fewest_47 ?_
          refine x_iconst hO (v := 3) (by decide) dX12_fewest_48 ?_
          refine y_HI (x_callV hO lv_RX12_137 hx0 vc_12 (by decide) (As := [.int ((3 : Int32))]) rfl (Nat.le_of_ble_eq_true rfl) (ok_X12_refuse (cG Γ) h x0 ((3 : Int32)) hx0) dX12_fewest_49 rfl (Nat.le_of_ble_eq_true rfl)) (fun r8 => ?_)
          exact x_iret hO rfl dX12_fewest_52 (hR _)
      · refine x_aload_n hO 0 rfl rfl dX12_fewest_30 ?_
        refine x_iconst hO (v := 2) (by decide) dX12_fewest_31 ?_
        refine y_HI (x_callV hO lv_RX12_137 hx0 vc_12 (by decide) (As := [.int ((2 : Int32))]) rfl (Nat.le_of_ble_eq_true rfl) (ok_X12_refuse (cG Γ) h x0 ((2 : Int32)) hx0) dX12_fewest_32 rfl (Nat.le_of_ble_eq_true rfl)) (fun r9 => ?_)
        exact x_iret hO rfl dX12_fewest_35 (hR _)
    · refine x_aload_n hO 0 rfl rfl dX12_fewest_14 ?_
      refine x_iconst hO (v := 1) (by decide) dX12_fewest_15 ?_
      refine y_HI (x_callV hO lv_RX12_137 hx0 vc_12 (by decide) (As := [.int ((1 : Int32))]) rfl (Nat.le_of_ble_eq_true rfl) (ok_X12_refuse (cG Γ) h x0 ((1 : Int32)) hx0) dX12_fewest_16 rfl (Nat.le_of_ble_eq_true rfl)) (fun r10 => ?_)
      exact x_iret hO rfl dX12_fewest_19 (hR _)
theorem ok_X12_fewest (G : Gl) (h : Hp) (x0 : Nat) (x1 : Int32) (x2 : Int32) (hx0 : Is x0 12) : CN G mX12_fewest [.ref (gb G + x0), .int x1, .int x2] h ((F_X12_fewest h x0 x1 x2).map (emHI)) := CN.fn pn_RX12 (Nat.le_of_ble_eq_true rfl) (fun Γ hG hO => by subst hG; exact go_X12_fewest hO h x0 x1 x2 hx0 (fun _ q => q))
