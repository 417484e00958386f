noncomputable def F_X2_copyFrom (h : Hp) (x0 : Nat) (x1 : Nat) : Option (Hp) :=
  gd (cpok ((0 : Int32)) ((0 : Int32)) ((240 : Int32)) (LEN (GR x1 2)) (LEN (GR x0 2))) (bnd (sI (uI (uI h x0 0 (hI h x1 0)) x0 1 (hI (uI h x0 0 (hI h x1 0)) x1 1)) (GR x0 2) (va_cpy (hI (uI (uI h x0 0 (hI h x1 0)) x0 1 (hI (uI h x0 0 (hI h x1 0)) x1 1)) (GR x1 2)) (hI (uI (uI h x0 0 (hI h x1 0)) x0 1 (hI (uI h x0 0 (hI h x1 0)) x1 1)) (GR x0 2)) (nx ((0 : Int32))) (nx ((0 : Int32))) (nx ((240 : Int32))))) (fun h1 => gd (cpok ((0 : Int32)) ((0 : Int32)) ((240 : Int32)) (LEN (GR x1 3)) (LEN (GR x0 3))) (gd (cpok ((0 : Int32)) ((0 : Int32)) ((30 : Int32)) (LEN (GR x1 4)) (LEN (GR x0 4))) (bnd (sI (sI h1 (GR x0 3) (va_cpy (hI h1 (GR x1 3)) (hI h1 (GR x0 3)) (nx ((0 : Int32))) (nx ((0 : Int32))) (nx ((240 : Int32))))) (GR x0 4) (va_cpy (hI (sI h1 (GR x0 3) (va_cpy (hI h1 (GR x1 3)) (hI h1 (GR x0 3)) (nx ((0 : Int32))) (nx ((0 : Int32))) (nx ((240 : Int32))))) (GR x1 4)) (hI (sI h1 (GR x0 3) (va_cpy (hI h1 (GR x1 3)) (hI h1 (GR x0 3)) (nx ((0 : Int32))) (nx ((0 : Int32))) (nx ((240 : Int32))))) (GR x0 4)) (nx ((0 : Int32))) (nx ((0 : Int32))) (nx ((30 : Int32))))) (fun h2 => gd (cpok ((0 : Int32)) ((0 : Int32)) ((30 : Int32)) (LEN (GR x1 5)) (LEN (GR x0 5))) (gd (cpok ((0 : Int32)) ((0 : Int32)) ((30 : Int32)) (LEN (GR x1 6)) (LEN (GR x0 6))) (bnd (sI (sI h2 (GR x0 5) (va_cpy (hI h2 (GR x1 5)) (hI h2 (GR x0 5)) (nx ((0 : Int32))) (nx ((0 : Int32))) (nx ((30 : Int32))))) (GR x0 6) (va_cpy (hI (sI h2 (GR x0 5) (va_cpy (hI h2 (GR x1 5)) (hI h2 (GR x0 5)) (nx ((0 : Int32))) (nx ((0 : Int32))) (nx ((30 : Int32))))) (GR x1 6)) (hI (sI h2 (GR x0 5) (va_cpy (hI h2 (GR x1 5)) (hI h2 (GR x0 5)) (nx ((0 : Int32))) (nx ((0 : Int32))) (nx ((30 : Int32))))) (GR x0 6)) (nx ((0 : Int32))) (nx ((0 : Int32))) (nx ((30 : Int32))))) (fun h3 => gd (cpok ((0 : Int32)) ((0 : Int32)) ((30 : Int32)) (LEN (GR x1 7)) (LEN (GR x0 7))) ((F_X0_copyFrom (sI h3 (GR x0 7) (va_cpy (hI h3 (GR x1 7)) (hI h3 (GR x0 7)) (nx ((0 : Int32))) (nx ((0 : Int32))) (nx ((30 : Int32))))) (GR x0 8) (GR x1 8)).bind (fun r4 => (F_X9_copyFrom r4 (GR x0 9) (GR x1 9)).bind (fun r5 => some r5)))))))))))
set_option maxHeartbeats 4000000 in
set_option maxRecDepth 100000 in
theorem go_X2_copyFrom {Γ : Cx} (hO : Ok Γ mX2_copyFrom) (h : Hp) (x0 : Nat) (x1 : Nat) (hx0 : Is x0 2) (hx1 : Is x1 2) {K : Hp → Prop} (hR : ∀ r, K r → emHV r = tgt Γ) : EG Γ mX2_copyFrom 0 [(0, rf Γ x0), (1, rf Γ x1)] [] h (F_X2_copyFrom h x0 x1) K := by
  unfold F_X2_copyFrom
  refine x_aload_n hO 0 rfl rfl dX2_copyFrom_0 ?_
  refine x_aload_n hO 1 rfl rfl dX2_copyFrom_1 ?_
  refine x_getI hO fl_RX2_9 hx1 dX2_copyFrom_2 ?_
  refine x_putI hO fl_RX2_9 hx0 dX2_copyFrom_5 ?_
  refine x_aload_n hO 0 rfl rfl dX2_copyFrom_8 ?_
  refine x_aload_n hO 1 rfl rfl dX2_copyFrom_9 ?_
  refine x_getI hO fl_RX2_15 hx1 dX2_copyFrom_10 ?_
  refine x_putI hO fl_RX2_15 hx0 dX2_copyFrom_13 ?_
  refine x_aload_n hO 1 rfl rfl dX2_copyFrom_16 ?_
  refine x_getR hO fl_RX2_18 hx1 dX2_copyFrom_17 ?_
  refine x_iconst hO (v := 0) (by decide) dX2_copyFrom_20 ?_
  refine x_aload_n hO 0 rfl rfl dX2_copyFrom_21 ?_
  refine x_getR hO fl_RX2_18 hx0 dX2_copyFrom_22 ?_
  refine x_iconst hO (v := 0) (by decide) dX2_copyFrom_25 ?_
  refine x_sipush hO (v := 240) (by decide) dX2_copyFrom_26 ?_
  refine x_copyI hO lc_RX2_51 (gr_2_2 hx1) (gr_2_2 hx0) (Nat.le_of_ble_eq_true rfl) (Nat.le_of_ble_eq_true rfl) dX2_copyFrom_29 ?_
  refine x_bnd ?_
  generalize sI (uI (uI h x0 0 (hI h x1 0)) x0 1 (hI (uI h x0 0 (hI h x1 0)) x1 1)) (GR x0 2) (va_cpy (hI (uI (uI h x0 0 (hI h x1 0)) x0 1 (hI (uI h x0 0 (hI h x1 0)) x1 1)) (GR x1 2)) (hI (uI (uI h x0 0 (hI h x1 0)) x0 1 (hI (uI h x0 0 (hI h x1 0)) x1 1)) (GR x0 2)) (nx ((0 : Int32))) (nx ((0 : Int32))) (nx ((240 : Int32)))) = h1
  refine x_aload_n hO 1 rfl rfl dX2_copyFrom_32 ?_
  refine x_getR hO fl_RX2_22 hx1 dX2_copyFrom_33 ?_
  refine x_iconst hO (v := 0) (by decide) dX2_copyFrom_36 ?_
  refine x_aload_n hO 0 rfl rfl dX2_copyFrom_37 ?_
  refine x_getR hO fl_RX2_22 hx0 dX2_copyFrom_38 ?_
  refine x_iconst hO (v := 0) (by decide) dX2_copyFrom_41 ?_
  refine x_sipush hO (v := 240) (by decide) dX2_copyFrom_42 ?_
  refine x_copyI hO lc_RX2_51 (gr_2_3 hx1) (gr_2_3 hx0) (Nat.le_of_ble_eq_true rfl) (Nat.le_of_ble_eq_true rfl) dX2_copyFrom_45 ?_
  refine x_aload_n hO 1 rfl rfl dX2_copyFrom_48 ?_
  refine x_getR hO fl_RX2_25 hx1 dX2_copyFrom_49 ?_
  refine x_iconst hO (v := 0) (by decide) dX2_copyFrom_52 ?_
  refine x_aload_n hO 0 rfl rfl dX2_copyFrom_53 ?_
  refine x_getR hO fl_RX2_25 hx0 dX2_copyFrom_54 ?_
  refine x_iconst hO (v := 0) (by decide) dX2_copyFrom_57 ?_
  refine x_bipush hO (v := 30) (by decide) dX2_copyFrom_58 ?_
  refine x_copyI hO lc_RX2_51 (gr_2_4 hx1) (gr_2_4 hx0) (Nat.le_of_ble_eq_true rfl) (Nat.le_of_ble_eq_true rfl) dX2_copyFrom_60 ?_
  refine x_bnd ?_
  generalize sI (sI h1 (GR x0 3) (va_cpy (hI h1 (GR x1 3)) (hI h1 (GR x0 3)) (nx ((0 : Int32))) (nx ((0 : Int32))) (nx ((240 : Int32))))) (GR x0 4) (va_cpy (hI (sI h1 (GR x0 3) (va_cpy (hI h1 (GR x1 3)) (hI h1 (GR x0 3)) (nx ((0 : Int32))) (nx ((0 : Int32))) (nx ((240 : Int32))))) (GR x1 4)) (hI (sI h1 (GR x0 3) (va_cpy (hI h1 (GR x1 3)) (hI h1 (GR x0 3)) (nx ((0 : Int32))) (nx ((0 : Int32))) (nx ((240 : Int32))))) (GR x0 4)) (nx ((0 : Int32))) (nx ((0 : Int32))) (nx ((30 : Int32)))) = h2
  refine x_aload_n hO 1 rfl rfl dX2_copyFrom_63 ?_
  refine x_getR hO fl_RX2_28 hx1 dX2_copyFrom_64 ?_
  refine x_iconst hO (v := 0) (by decide) dX2_copyFrom_67 ?_
  refine x_aload_n hO 0 rfl rfl dX2_copyFrom_68 ?_
  refine x_getR hO fl_RX2_28 hx0 dX2_copyFrom_69 ?_
  refine x_iconst hO (v := 0) (by decide) dX2_copyFrom_72 ?_
  refine x_bipush hO (v := 30) (by decide) dX2_copyFrom_73 ?_
  refine x_copyI hO lc_RX2_51 (gr_2_5 hx1) (gr_2_5 hx0) (Nat.le_of_ble_eq_true rfl) (Nat.le_of_ble_eq_true rfl) dX2_copyFrom_75 ?_
  refine x_aload_n hO 1 rfl rfl dX2_copyFrom_78 ?_
  refine x_getR hO fl_RX2_31 hx1 dX2_copyFrom_79 ?_
  refine x_iconst hO (v := 0) (by decide) dX2_copyFrom_82 ?_
  refine x_aload_n hO 0 rfl rfl dX2_copyFrom_83 ?_
  refine x_getR hO fl_RX2_31 hx0 dX2_copyFrom_84 ?_
  refine x_iconst hO (v := 0) (by decide) dX2_copyFrom_87 ?_
  refine x_bipush hO (v := 30) (by decide) dX2_copyFrom_88 ?_
  refine x_copyI hO lc_RX2_51 (gr_2_6 hx1) (gr_2_6 hx0) (Nat.le_of_ble_eq_true rfl) (Nat.le_of_ble_eq_true rfl) dX2_copyFrom_90 ?_
  refine x_bnd ?_
  generalize sI (sI h2 (GR x0 5) (va_cpy (hI h2 (GR x1 5)) (hI h2 (GR x0 5)) (nx ((0 : Int32))) (nx ((0 : Int32))) (nx ((30 : Int32))))) (GR x0 6) (va_cpy (hI (sI h2 (GR x0 5) (va_cpy (hI h2 (GR x1 5)) (hI h2 (GR x0 5)) (nx ((0 : Int32))) (nx ((0 : Int32))) (nx ((30 : Int32))))) (GR x1 6)) (hI (sI h2 (GR x0 5) (va_cpy (hI h2 (GR x1 5)) (hI h2 (GR x0 5)) (nx ((0 : Int32))) (nx ((0 : Int32))) (nx ((30 : Int32))))) (GR x0 6)) (nx ((0 : Int32))) (nx ((0 : Int32))) (nx ((30 : Int32)))) = h3
  refine x_aload_n hO 1 rfl rfl dX2_copyFrom_93 ?_
  refine x_getR hO fl_RX2_34 hx1 dX2_copyFrom_94 ?_
  refine x_iconst hO (v := 0) (by decide) dX2_copyFrom_97 ?_
  refine x_aload_n hO 0 rfl rfl dX2_copyFrom_98 ?_
  refine x_getR hO fl_RX2_34 hx0 dX2_copyFrom_99 ?_
  refine x_iconst hO (v := 0) (by decide) dX2_copyFrom_102 ?_
  refine x_bipush hO (v := 30) (by decide) dX2_copyFrom_103 ?_
  refine x_copyI hO lc_RX2_51 (gr_2_7 hx1) (gr_2_7 hx0) (Nat.le_of_ble_eq_true rfl) (Nat.le_of_ble_eq_true rfl) dX2_copyFrom_105 ?_
  refine x_aload_n hO 0 rfl rfl dX2_copyFrom_108 ?_
  refine x_getR hO fl_RX2_40 hx0 dX2_copyFrom_109 ?_
  refine x_aload_n hO 1 rfl rfl dX2_copyFrom_112 ?_
  refine x_getR hO fl_RX2_40 hx1 dX2_copyFrom_113 ?_
  refine y_HV (x_callV hO lv_RX2_57 (gr_2_8 hx0) vc_0 (by decide) (As := [rf Γ (GR x1 8)]) rfl (Nat.le_of_ble_eq_true rfl) (ok_X0_copyFrom (cG Γ) (sI h3 (GR x0 7) (va_cpy (hI h3 (GR x1 7)) (hI h3 (GR x0 7)) (nx ((0 : Int32))) (nx ((0 : Int32))) (nx ((30 : Int32))))) (GR x0 8) (GR x1 8) (gr_2_8 hx0) (gr_2_8 hx1)) dX2_copyFrom_116 rfl (Nat.le_of_ble_eq_true rfl)) (fun r4 => ?_)
  refine x_aload_n hO 0 rfl rfl dX2_copyFrom_119 ?_
  refine x_getR hO fl_RX2_47 hx0 dX2_copyFrom_120 ?_
  refine x_aload_n hO 1 rfl rfl dX2_copyFrom_123 ?_
  refine x_getR hO fl_RX2_47 hx1 dX2_copyFrom_124 ?_
  refine y_HV (x_callV hO lv_RX2_61 (gr_2_9 hx0) vc_9 (by decide) (As := [rf Γ (GR x1 9)]) rfl (Nat.le_of_ble_eq_true rfl) (ok_X9_copyFrom (cG Γ) r4 (GR x0 9) (GR x1 9) (gr_2_9 hx0) (gr_2_9 hx1)) dX2_copyFrom_127 rfl (Nat.le_of_ble_eq_true rfl)) (fun r5 => ?_)
  exact x_vret hO rfl dX2_copyFrom_130 (hR _)
theorem ok_X2_copyFrom (G : Gl) (h : Hp) (x0 : Nat) (x1 : Nat) (hx0 : Is x0 2) (hx1 : Is x1 2) : CN G mX2_copyFrom [.ref (gb G + x0), .ref (gb G + x1)] h ((F_X2_copyFrom h x0 x1).map (emHV)) := CN.fn pn_RX2 (Nat.le_of_ble_eq_true rfl) (fun Γ hG hO => by subst hG; exact go_X2_copyFrom hO h x0 x1 hx0 hx1 (fun _ q => q))
noncomputable def B_X2_hasNumber_3 (h : Hp) (x0 : Nat) (x1 : Int32) (x2 : Int32) (x3 : Int32) (x4 : Int32) (x5 : Int32) (x6 : Int32) : Option ((Int32) ⊕ (Int32)) :=
  if x5 ≤ x6 then some (.inr ((0 : Int32))) else gd (ib x6 (LEN (GR x0 5))) (if (hI h (GR x0 5) (nx x6)) = x1 then (F_X2_fieldOf h x0 x6 x3 x4).bind (fun r1 => if r1 = x2 then some (.inr ((1 : Int32))) else some (.inl (x6 + (1 : Int32)))) else some (.inl (x6 + (1 : Int32))))
noncomputable def L_X2_hasNumber_3 (h : Hp) (x0 : Nat) (x1 : Int32) (x2 : Int32) (x3 : Int32) (x4 : Int32) (x5 : Int32) (x6 : Int32) : Option (Int32) := iterW (fun s : Int32 => B_X2_hasNumber_3 h x0 x1 x2 x3 x4 x5 s) x6
set_option maxHeartbeats 4000000 in
set_option maxRecDepth 100000 in
theorem go_X2_hasNumber_B3 {Γ : Cx} (hO : Ok Γ mX2_hasNumber) (h : Hp) (x0 : Nat) (x1 : Int32) (x2 : Int32) (x3 : Int32) (x4 : Int32) (x5 : Int32) (x6 : Int32) (hx0 : Is x0 2) {K : (Int32) ⊕ (Int32) → Prop} (hC : ∀ (x6 : Int32), K (.inl x6) → EW Γ mX2_hasNumber 3 [(0, rf Γ x0), (1, .int x1), (2, .int x2), (3, .int x3), (4, .int x4), (5, .int x5), (6, .int x6)] [] h) (hR : ∀ r, K (.inr r) → emPI h r = tgt Γ) : EG Γ mX2_hasNumber 3 [(0, rf Γ x0), (1, .int x1), (2, .int x2), (3, .int x3), (4, .int x4), (5, .int x5), (6, .int x6)] [] h (B_X2_hasNumber_3 h x0 x1 x2 x3 x4 x5 x6) K := by
  unfold B_X2_hasNumber_3
  refine x_iload hO 6 rfl dX2_hasNumber_3 ?_
  refine x_iload hO 5 rfl dX2_hasNumber_5 ?_
  refine x_icmp_ge hO (tg := 42) dX2_hasNumber_7 (by decide) ?_ ?_
  · refine x_iconst hO (v := 0) (by decide) dX2_hasNumber_42 ?_
    exact x_zretv hO rfl (by decide) dX2_hasNumber_43 (hR _)
  · refine x_aload_n hO 0 rfl rfl dX2_hasNumber_10 ?_
    refine x_getR hO fl_RX2_28 hx0 dX2_hasNumber_11 ?_
    refine x_iload hO 6 rfl dX2_hasNumber_14 ?_
    refine x_iald hO (gr_2_5 hx0) dX2_hasNumber_16 ?_
    refine x_iload_n hO 1 rfl rfl dX2_hasNumber_17 ?_
    refine x_icmp_ne hO (tg := 36) dX2_hasNumber_18 (by decide) ?_ ?_
    · refine x_iinc hO 6 (v := 1) [(6, .int (x6 + (1 : Int32))), (0, rf Γ x0), (1, .int x1), (2, .int x2), (3, .int x3), (4, .int x4), (5, .int x5)] dX2_hasNumber_36 rfl (by decide) (by decide) rfl ?_
      refine x_goto hO (tg := 3) dX2_hasNumber_39 (by decide) ?_
      exact x_leafs [1, 2, 3, 4, 5, 6, 0] rfl (hC (x6 + (1 : Int32)))
    · refine x_aload_n hO 0 rfl rfl dX2_hasNumber_21 ?_
      refine x_iload hO 6 rfl dX2_hasNumber_22 ?_
      refine x_iload_n hO 3 rfl rfl dX2_hasNumber_24 ?_
      refine x_iload hO 4 rfl dX2_hasNumber_25 ?_
      refine y_PI (x_callV hO lv_RX2_76 hx0 vc_2 (by decide) (As := [.int x6, .int x3, .int x4]) rfl (Nat.le_of_ble_eq_true rfl) (ok_X2_fieldOf (cG Γ) h x0 x6 x3 x4 hx0) dX2_hasNumber_27 rfl (Nat.le_of_ble_eq_true rfl)) (fun r1 => ?_)
      refine x_iload_n hO 2 rfl rfl dX2_hasNumber_30 ?_
      refine x_icmp_ne hO (tg := 36) dX2_hasNumber_31 (by decide) ?_ ?_
      · refine x_iinc hO 6 (v := 1) [(6, .int (x6 + (1 : Int32))), (0, rf Γ x0), (1, .int x1), (2, .int x2), (3, .int x3), (4, .int x4), (5, .int x5)] dX2_hasNumber_36 rfl (by decide) (by decide) rfl ?_
        refine x_goto hO (tg := 3) dX2_hasNumber_39 (by decide) ?_
        exact x_leafs [1, 2, 3, 4, 5, 6, 0] rfl (hC (x6 + (1 : Int32)))
      · refine x_iconst hO (v := 1) (by decide) dX2_hasNumber_34 ?_
        exact x_zretv hO rfl (by decide) dX2_hasNumber_35 (hR _)
set_option maxHeartbeats 4000000 in
set_option maxRecDepth 100000 in
theorem go_X2_hasNumber_L3 {Γ : Cx} (hO : Ok Γ mX2_hasNumber) (h : Hp) (x0 : Nat) (x1 : Int32) (x2 : Int32) (x3 : Int32) (x4 : Int32) (x5 : Int32) (x6 : Int32) (hx0 : Is x0 2) {K : Int32 → Prop} (hR : ∀ r, K (r) → emPI h r = tgt Γ) : EG Γ mX2_hasNumber 3 [(0, rf Γ x0), (1, .int x1), (2, .int x2), (3, .int x3), (4, .int x4), (5, .int x5), (6, .int x6)] [] h (L_X2_hasNumber_3 h x0 x1 x2 x3 x4 x5 x6) K := by
  have q := x_loop (Γ := Γ) (M := mX2_hasNumber) (pc := 3) (B := fun s : Int32 => B_X2_hasNumber_3 h x0 x1 x2 x3 x4 x5 s) (lvf := fun s => [(0, rf Γ x0), (1, .int x1), (2, .int x2), (3, .int x3), (4, .int x4), (5, .int x5), (6, .int s)]) (hf := fun s => h) (Ky := K) (fun s => go_X2_hasNumber_B3 hO h x0 x1 x2 x3 x4 x5 s hx0 (fun _ => id) hR) x6
  exact q
noncomputable def F_X2_hasNumber (h : Hp) (x0 : Nat) (x1 : Int32) (x2 : Int32) (x3 : Int32) (x4 : Int32) (x5 : Int32) : Option (Int32) :=
  L_X2_hasNumber_3 h x0 x1 x2 x3 x4 x5 ((0 : Int32))
set_option maxHeartbeats 4000000 in
set_option maxRecDepth 100000 in
theorem go_X2_hasNumber {Γ : Cx} (hO : Ok Γ mX2_hasNumber) (h : Hp) (x0 : Nat) (x1 : Int32) (x2 : Int32) (x3 : Int32) (x4 : Int32) (x5 : Int32) (hx0 : Is x0 2) {K : Int32 → Prop} (hR : ∀ r, K r → emPI h r = tgt Γ) : EG Γ mX2_hasNumber 0 [(0, rf Γ x0), (1, .int x1), (2, .int x2), (3, .int x3), (4, .int x4), (5, .int x5)] [] h (F_X2_hasNumber h x0 x1 x2 x3 x4 x5) K := by
  unfold F_X2_hasNumber
  refine x_iconst hO (v := 0) (by decide) dX2_hasNumber_0 ?_
  refine x_istore hO [(6, .int ((0 : Int32))), (0, rf Γ x0), (1, .int x1), (2, .int x2), (3, .int x3), (4, .int x4), (5, .int x5)] dX2_hasNumber_1 (by decide) rfl ?_
  exact x_sub [1, 2, 3, 4, 5, 6, 0] rfl (go_X2_hasNumber_L3 hO h x0 x1 x2 x3 x4 x5 ((0 : Int32)) hx0 hR)
theorem ok_X2_hasNumber (G : Gl) (h : Hp) (x0 : Nat) (x1 : Int32) (x2 : Int32) (x3 : Int32) (x4 : Int32) (x5 : Int32) (hx0 : Is x0 2) : CN G mX2_hasNumber [.ref (gb G + x0), .int x1, .int x2, .int x3, .int x4, .int x5] h ((F_X2_hasNumber h x0 x1 x2 x3 x4 x5).map (emPI h)) := CN.fn pn_RX2 (Nat.le_of_ble_eq_true rfl) (fun Γ hG hO => by subst hG; exact go_X2_hasNumber hO h x0 x1 x2 x3 x4 x5 hx0 (fun _ q => q))
noncomputable def B_X2_sumWhere_6 (h : Hp) (x0 : Nat) (x1 : Int32) (x2 : Int32) (x3 : Int32) (x4 : Int32) (x5 : Int32) (x6 : Int32) : Option ((Int32 × Int32) ⊕ (Int32)) :=
  if (hI h x0 0) ≤ x6 then some (.inr x5) else (F_X2_reading h x0 x6 x1).bind (fun r1 => if r1 = x2 then (F_X2_fieldOf h x0 x6 x3 x4).bind (fun r2 => bnd (x5 + (if ((0 : Int32)) < r2 then r2 else ((0 : Int32)))) (fun v3 => some (.inl (v3, x6 + (1 : Int32))))) else some (.inl (x5, x6 + (1 : Int32))))
noncomputable def L_X2_sumWhere_6 (h : Hp) (x0 : Nat) (x1 : Int32) (x2 : Int32) (x3 : Int32) (x4 : Int32) (x5 : Int32) (x6 : Int32) : Option (Int32) := iterW (fun s : Int32 × Int32 => B_X2_sumWhere_6 h x0 x1 x2 x3 x4 s.1 s.2) (x5, x6)
set_option maxHeartbeats 4000000 in
set_option maxRecDepth 100000 in
theorem go_X2_sumWhere_B6 {Γ : Cx} (hO : Ok Γ mX2_sumWhere) (h : Hp) (x0 : Nat) (x1 : Int32) (x2 : Int32) (x3 : Int32) (x4 : Int32) (x5 : Int32) (x6 : Int32) (hx0 : Is x0 2) {K : (Int32 × Int32) ⊕ (Int32) → Prop} (hC : ∀ (x5 : Int32) (x6 : Int32), K (.inl (x5, x6)) → EW Γ mX2_sumWhere 6 [(0, rf Γ x0), (1, .int x1), (2, .int x2), (3, .int x3), (4, .int x4), (5, .int x5), (6, .int x6)] [] h) (hR : ∀ r, K (.inr r) → emPI h r = tgt Γ) : EG Γ mX2_sumWhere 6 [(0, rf Γ x0), (1, .int x1), (2, .int x2), (3, .int x3), (4, .int x4), (5, .int x5), (6, .int x6)] [] h (B_X2_sumWhere_6 h x0 x1 x2 x3 x4 x5 x6) K := by
  unfold B_X2_sumWhere_6
  refine x_iload hO 6 rfl dX2_sumWhere_6 ?_
  refine x_aload_n hO 0 rfl rfl dX2_sumWhere_8 ?_
  refine x_getI hO fl_RX2_9 hx0 dX2_sumWhere_9 ?_
  refine x_icmp_ge hO (tg := 50) dX2_sumWhere_12 (by decide) ?_ ?_
  · refine x_iload hO 5 rfl dX2_sumWhere_50 ?_
    exact x_iret hO rfl dX2_sumWhere_52 (hR _)
  · refine x_aload_n hO 0 rfl rfl dX2_sumWhere_15 ?_
    refine x_iload hO 6 rfl dX2_sumWhere_16 ?_
    refine x_iload_n hO 1 rfl rfl dX2_sumWhere_18 ?_
    refine y_PI (x_callV hO lv_RX2_72 hx0 vc_2 (by decide) (As := [.int x6, .int x1]) rfl (Nat.le_of_ble_eq_true rfl) (ok_X2_reading (cG Γ) h x0 x6 x1 hx0) dX2_sumWhere_19 rfl (Nat.le_of_ble_eq_true rfl)) (fun r1 => ?_)
    refine x_iload_n hO 2 rfl rfl dX2_sumWhere_22 ?_
    refine x_icmp_ne hO (tg := 44) dX2_sumWhere_23 (by decide) ?_ ?_
    · refine x_iinc hO 6 (v := 1) [(6, .int (x6 + (1 : Int32))), (0, rf Γ x0), (1, .int x1), (2, .int x2), (3, .int x3), (4, .int x4), (5, .int x5)] dX2_sumWhere_44 rfl (by decide) (by decide) rfl ?_
      refine x_goto hO (tg := 6) dX2_sumWhere_47 (by decide) ?_
      exact x_leafs [1, 2, 3, 4, 5, 6, 0] rfl (hC x5 (x6 + (1 : Int32)))
    · refine x_iload hO 5 rfl dX2_sumWhere_26 ?_
      refine x_iconst hO (v := 0) (by decide) dX2_sumWhere_28 ?_
      refine x_aload_n hO 0 rfl rfl dX2_sumWhere_29 ?_
      refine x_iload hO 6 rfl dX2_sumWhere_30 ?_
      refine x_iload_n hO 3 rfl rfl dX2_sumWhere_32 ?_
      refine x_iload hO 4 rfl dX2_sumWhere_33 ?_
      refine y_PI (x_callV hO lv_RX2_76 hx0 vc_2 (by decide) (As := [.int x6, .int x3, .int x4]) rfl (Nat.le_of_ble_eq_true rfl) (ok_X2_fieldOf (cG Γ) h x0 x6 x3 x4 hx0) dX2_sumWhere_35 rfl (Nat.le_of_ble_eq_true rfl)) (fun r2 => ?_)
      refine x_mmax hO lm_RX2_80 (Nat.le_of_ble_eq_true rfl) (Nat.le_of_ble_eq_true rfl) dX2_sumWhere_38 ?_
      refine x_iadd hO dX2_sumWhere_41 ?_
      refine x_bnd ?_
      generalize x5 + (if ((0 : Int32)) < r2 then r2 else ((0 : Int32))) = v3
      refine x_istore hO [(5, .int v3), (0, rf Γ x0), (1, .int x1), (2, .int x2), (3, .int x3), (4, .int x4), (6, .int x6)] dX2_sumWhere_42 (by decide) rfl ?_
      refine x_iinc hO 6 (v := 1) [(6, .int (x6 + (1 : Int32))), (5, .int v3), (0, rf Γ x0), (1, .int x1), (2, .int x2), (3, .int x3), (4, .int x4)] dX2_sumWhere_44 rfl (by decide) (by decide) rfl ?_
      refine x_goto hO (tg := 6) dX2_sumWhere_47 (by decide) ?_
      exact x_leafs [2, 3, 4, 5, 6, 1, 0] rfl (hC v3 (x6 + (1 : Int32)))
set_option maxHeartbeats 4000000 in
set_option maxRecDepth 100000 in
theorem go_X2_sumWhere_L6 {Γ : Cx} (hO : Ok Γ mX2_sumWhere) (h : Hp) (x0 : Nat) (x1 : Int32) (x2 : Int32) (x3 : Int32) (x4 : Int32) (x5 : Int32) (x6 : Int32) (hx0 : Is x0 2) {K : Int32 → Prop} (hR : ∀ r, K (r) → emPI h r = tgt Γ) : EG Γ mX2_sumWhere 6 [(0, rf Γ x0), (1, .int x1), (2, .int x2), (3, .int x3), (4, .int x4), (5, .int x5), (6, .int x6)] [] h (L_X2_sumWhere_6 h x0 x1 x2 x3 x4 x5 x6) K := by
  have q := x_loop (Γ := Γ) (M := mX2_sumWhere) (pc := 6) (B := fun s : Int32 × Int32 => B_X2_sumWhere_6 h x0 x1 x2 x3 x4 s.1 s.2) (lvf := fun s => [(0, rf Γ x0), (1, .int x1), (2, .int x2), (3, .int x3), (4, .int x4), (5, .int s.1), (6, .int s.2)]) (hf := fun s => h) (Ky := K) (fun s => go_X2_sumWhere_B6 hO h x0 x1 x2 x3 x4 s.1 s.2 hx0 (fun _ _ => id) hR) (x5, x6)
  exact q
noncomputable def F_X2_sumWhere (h : Hp) (x0 : Nat) (x1 : Int32) (x2 : Int32) (x3 : Int32) (x4 : Int32) : Option (Int32) :=
  L_X2_sumWhere_6 h x0 x1 x2 x3 x4 ((0 : Int32)) ((0 : Int32))
set_option maxHeartbeats 4000000 in
set_option maxRecDepth 100000 in
theorem go_X2_sumWhere {Γ : Cx} (hO : Ok Γ mX2_sumWhere) (h : Hp) (x0 : Nat) (x1 : Int32) (x2 : Int32) (x3 : Int32) (x4 : Int32) (hx0 : Is x0 2) {K : Int32 → Prop} (hR : ∀ r, K r → emPI h r = tgt Γ) : EG Γ mX2_sumWhere 0 [(0, rf Γ x0), (1, .int x1), (2, .int x2), (3, .int x3), (4, .int x4)] [] h (F_X2_sumWhere h x0 x1 x2 x3 x4) K := by
  unfold F_X2_sumWhere
  refine x_iconst hO (v := 0) (by decide) dX2_sumWhere_0 ?_
  refine x_istore hO [(5, .int ((0 : Int32))), (0, rf Γ x0), (1, .int x1), (2, .int x2), (3, .int x3), (4, .int x4)] dX2_sumWhere_1 (by decide) rfl ?_
  refine x_iconst hO (v := 0) (by decide) dX2_sumWhere_3 ?_
  refine x_istore hO [(6, .int ((0 : Int32))), (5, .int ((0 : Int32))), (0, rf Γ x0), (1, .int x1), (2, .int x2), (3, .int x3), (4, .int x4)] dX2_sumWhere_4 (by decide) rfl ?_
  exact x_sub [2, 3, 4, 5, 6, 1, 0] rfl (go_X2_sumWhere_L6 hO h x0 x1 x2 x3 x4 ((0 : Int32)) ((0 : Int32)) hx0 hR)
theorem ok_X2_sumWhere (G : Gl) (h : Hp) (x0 : Nat) (x1 : Int32) (x2 : Int32) (x3 : Int32) (x4 : Int32) (hx0 : Is x0 2) : CN G mX2_sumWhere [.ref (gb G + x0), .int x1, .int x2, .int x3, .int x4] h ((F_X2_sumWhere h x0 x1 x2 x3 x4).map (emPI h)) := CN.fn pn_RX2 (Nat.le_of_ble_eq_true rfl) (fun Γ hG hO => by subst hG; exact go_X2_sumWhere hO h x0 x1 x2 x3 x4 hx0 (fun _ q => q))
noncomputable def B_X2_wholeSum_5 (h : Hp) (x0 : Nat) (x1 : Int32) (x2 : Int32) (x3 : Int32) (x4 : Int32) : Option ((Int32 × Int32) ⊕ (Int32)) :=
  if (hI h x0 0) ≤ x4 then some (.inr x3) else (F_X2_fieldOf h x0 x4 x1 x2).bind (fun r1 => bnd (x3 + (if ((0 : Int32)) < r1 then r1 else ((0 : Int32)))) (fun v2 => some (.inl (v2, x4 + (1 : Int32)))))
noncomputable def L_X2_wholeSum_5 (h : Hp) (x0 : Nat) (x1 : Int32) (x2 : Int32) (x3 : Int32) (x4 : Int32) : Option (Int32) := iterW (fun s : Int32 × Int32 => B_X2_wholeSum_5 h x0 x1 x2 s.1 s.2) (x3, x4)
set_option maxHeartbeats 4000000 in
set_option maxRecDepth 100000 in
theorem go_X2_wholeSum_B5 {Γ : Cx} (hO : Ok Γ mX2_wholeSum) (h : Hp) (x0 : Nat) (x1 : Int32) (x2 : Int32) (x3 : Int32) (x4 : Int32) (hx0 : Is x0 2) {K : (Int32 × Int32) ⊕ (Int32) → Prop} (hC : ∀ (x3 : Int32) (x4 : Int32), K (.inl (x3, x4)) → EW Γ mX2_wholeSum 5 [(0, rf Γ x0), (1, .int x1), (2, .int x2), (3, .int x3), (4, .int x4)] [] h) (hR : ∀ r, K (.inr r) → emPI h r = tgt Γ) : EG Γ mX2_wholeSum 5 [(0, rf Γ x0), (1, .int x1), (2, .int x2), (3, .int x3), (4, .int x4)] [] h (B_X2_wholeSum_5 h x0 x1 x2 x3 x4) K := by
  unfold B_X2_wholeSum_5
  refine x_iload hO 4 rfl dX2_wholeSum_5 ?_
  refine x_aload_n hO 0 rfl rfl dX2_wholeSum_7 ?_
  refine x_getI hO fl_RX2_9 hx0 dX2_wholeSum_8 ?_
  refine x_icmp_ge hO (tg := 35) dX2_wholeSum_11 (by decide) ?_ ?_
  · refine x_iload_n hO 3 rfl rfl dX2_wholeSum_35 ?_
    exact x_iret hO rfl dX2_wholeSum_36 (hR _)
  · refine x_iload_n hO 3 rfl rfl dX2_wholeSum_14 ?_
    refine x_iconst hO (v := 0) (by decide) dX2_wholeSum_15 ?_
    refine x_aload_n hO 0 rfl rfl dX2_wholeSum_16 ?_
    refine x_iload hO 4 rfl dX2_wholeSum_17 ?_
    refine x_iload_n hO 1 rfl rfl dX2_wholeSum_19 ?_
    refine x_iload_n hO 2 rfl rfl dX2_wholeSum_20 ?_
    refine y_PI (x_callV hO lv_RX2_76 hx0 vc_2 (by decide) (As := [.int x4, .int x1, .int x2]) rfl (Nat.le_of_ble_eq_true rfl) (ok_X2_fieldOf (cG Γ) h x0 x4 x1 x2 hx0) dX2_wholeSum_21 rfl (Nat.le_of_ble_eq_true rfl)) (fun r1 => ?_)
    refine x_mmax hO lm_RX2_80 (Nat.le_of_ble_eq_true rfl) (Nat.le_of_ble_eq_true rfl) dX2_wholeSum_24 ?_
    refine x_iadd hO dX2_wholeSum_27 ?_
    refine x_bnd ?_
    generalize x3 + (if ((0 : Int32)) < r1 then r1 else ((0 : Int32))) = v2
    refine x_istore_n hO rfl [(3, .int v2), (0, rf Γ x0), (1, .int x1), (2, .int x2), (4, .int x4)] dX2_wholeSum_28 (by decide) rfl ?_
    refine x_iinc hO 4 (v := 1) [(4, .int (x4 + (1 : Int32))), (3, .int v2), (0, rf Γ x0), (1, .int x1), (2, .int x2)] dX2_wholeSum_29 rfl (by decide) (by decide) rfl ?_
    refine x_goto hO (tg := 5) dX2_wholeSum_32 (by decide) ?_
    exact x_leafs [2, 3, 4, 1, 0] rfl (hC v2 (x4 + (1 : Int32)))
set_option maxHeartbeats 4000000 in
set_option maxRecDepth 100000 in
theorem go_X2_wholeSum_L5 {Γ : Cx} (hO : Ok Γ mX2_wholeSum) (h : Hp) (x0 : Nat) (x1 : Int32) (x2 : Int32) (x3 : Int32) (x4 : Int32) (hx0 : Is x0 2) {K : Int32 → Prop} (hR : ∀ r, K (r) → emPI h r = tgt Γ) : EG Γ mX2_wholeSum 5 [(0, rf Γ x0), (1, .int x1), (2, .int x2), (3, .int x3), (4, .int x4)] [] h (L_X2_wholeSum_5 h x0 x1 x2 x3 x4) K := by
  have q := x_loop (Γ := Γ) (M := mX2_wholeSum) (pc := 5) (B := fun s : Int32 × Int32 => B_X2_wholeSum_5 h x0 x1 x2 s.1 s.2) (lvf := fun s => [(0, rf Γ x0), (1, .int x1), (2, .int x2), (3, .int s.1), (4, .int s.2)]) (hf := fun s => h) (Ky := K) (fun s => go_X2_wholeSum_B5 hO h x0 x1 x2 s.1 s.2 hx0 (fun _ _ => id) hR) (x3, x4)
  exact q
noncomputable def F_X2_wholeSum (h : Hp) (x0 : Nat) (x1 : Int32) (x2 : Int32) : Option (Int32) :=
  L_X2_wholeSum_5 h x0 x1 x2 ((0 : Int32)) ((0 : Int32))
set_option maxHeartbeats 4000000 in
set_option maxRecDepth 100000 in
theorem go_X2_wholeSum {Γ : Cx} (hO : Ok Γ mX2_wholeSum) (h : Hp) (x0 : Nat) (x1 : Int32) (x2 : Int32) (hx0 : Is x0 2) {K : Int32 → Prop} (hR : ∀ r, K r → emPI h r = tgt Γ) : EG Γ mX2_wholeSum 0 [(0, rf Γ x0), (1, .int x1), (2, .int x2)] [] h (F_X2_wholeSum h x0 x1 x2) K := by
  unfold F_X2_wholeSum
  refine x_iconst hO (v := 0) (by decide) dX2_wholeSum_0 ?_
  refine x_istore_n hO rfl [(3, .int ((0 : Int32))), (0, rf Γ x0), (1, .int x1), (2, .int x2)] dX2_wholeSum_1 (by decide) rfl ?_
  refine x_iconst hO (v := 0) (by decide) dX2_wholeSum_2 ?_
  refine x_istore hO [(4, .int ((0 : Int32))), (3, .int ((0 : Int32))), (0, rf Γ x0), (1, .int x1), (2, .int x2)] dX2_wholeSum_3 (by decide) rfl ?_
  exact x_sub [2, 3, 4, 1, 0] rfl (go_X2_wholeSum_L5 hO h x0 x1 x2 ((0 : Int32)) ((0 : Int32)) hx0 hR)
theorem ok_X2_wholeSum (G : Gl) (h : Hp) (x0 : Nat) (x1 : Int32) (x2 : Int32) (hx0 : Is x0 2) : CN G mX2_wholeSum [.ref (gb G + x0), .int x1, .int x2] h ((F_X2_wholeSum h x0 x1 x2).map (emPI h)) := CN.fn pn_RX2 (Nat.le_of_ble_eq_true rfl) (fun Γ hG hO => by subst hG; exact go_X2_wholeSum hO h x0 x1 x2 hx0 (fun _ q => q))
noncomputable def B_X2_wrongBy_4 (h : Hp) (x0 : Nat) (x1 : Int32) (x2 : Int32) (x3 : Int32) : Option ((Int32 × Int32) ⊕ (Int32)) :=
  if (hI h x0 0) ≤ x3 then some (.inr x2) else gd (ib x3 (LEN (GR x0 4))) (if (hI h (GR x0 4) (nx x3)) = x1 then (F_X2_hasWrong h x0 x3).bind (fun r1 => if r1 = 0 then some (.inl (x2, x3 + (1 : Int32))) else some (.inl (x2 + (1 : Int32), x3 + (1 : Int32)))) else some (.inl (x2, x3 + (1 : Int32))))
noncomputable def L_X2_wrongBy_4 (h : Hp) (x0 : Nat) (x1 : Int32) (x2 : Int32) (x3 : Int32) : Option (Int32) := iterW (fun s : Int32 × Int32 => B_X2_wrongBy_4 h x0 x1 s.1 s.2) (x2, x3)
set_option maxHeartbeats 4000000 in
set_option maxRecDepth 100000 in
theorem go_X2_wrongBy_B4 {Γ : Cx} (hO : Ok Γ mX2_wrongBy) (h : Hp) (x0 : Nat) (x1 : Int32) (x2 : Int32) (x3 : Int32) (hx0 : Is x0 2) {K : (Int32 × Int32) ⊕ (Int32) → Prop} (hC : ∀ (x2 : Int32) (x3 : Int32), K (.inl (x2, x3)) → EW Γ mX2_wrongBy 4 [(0, rf Γ x0), (1, .int x1), (2, .int x2), (3, .int x3)] [] h) (hR : ∀ r, K (.inr r) → emPI h r = tgt Γ) : EG Γ mX2_wrongBy 4 [(0, rf Γ x0), (1, .int x1), (2, .int x2), (3, .int x3)] [] h (B_X2_wrongBy_4 h x0 x1 x2 x3) K := by
  unfold B_X2_wrongBy_4
  refine x_iload_n hO 3 rfl rfl dX2_wrongBy_4 ?_
  refine x_aload_n hO 0 rfl rfl dX2_wrongBy_5 ?_
  refine x_getI hO fl_RX2_9 hx0 dX2_wrongBy_6 ?_
  refine x_icmp_ge hO (tg := 39) dX2_wrongBy_9 (by decide) ?_ ?_
  · refine x_iload_n hO 2 rfl rfl dX2_wrongBy_39 ?_
    exact x_iret hO rfl dX2_wrongBy_40 (hR _)
  · refine x_aload_n hO 0 rfl rfl dX2_wrongBy_12 ?_
    refine x_getR hO fl_RX2_25 hx0 dX2_wrongBy_13 ?_
    refine x_iload_n hO 3 rfl rfl dX2_wrongBy_16 ?_
    refine x_iald hO (gr_2_4 hx0) dX2_wrongBy_17 ?_
    refine x_iload_n hO 1 rfl rfl dX2_wrongBy_18 ?_
    refine x_icmp_ne hO (tg := 33) dX2_wrongBy_19 (by decide) ?_ ?_
    · refine x_iinc hO 3 (v := 1) [(3, .int (x3 + (1 : Int32))), (0, rf Γ x0), (1, .int x1), (2, .int x2)] dX2_wrongBy_33 rfl (by decide) (by decide) rfl ?_
      refine x_goto hO (tg := 4) dX2_wrongBy_36 (by decide) ?_
      exact x_leafs [1, 2, 3, 0] rfl (hC x2 (x3 + (1 : Int32)))
    · refine x_aload_n hO 0 rfl rfl dX2_wrongBy_22 ?_
      refine x_iload_n hO 3 rfl rfl dX2_wrongBy_23 ?_
      refine y_PI (x_callV hO lv_RX2_94 hx0 vc_2 (by decide) (As := [.int x3]) rfl (Nat.le_of_ble_eq_true rfl) (ok_X2_hasWrong (cG Γ) h x0 x3 hx0) dX2_wrongBy_24 rfl (Nat.le_of_ble_eq_true rfl)) (fun r1 => ?_)
      refine x_if_eq hO (tg := 33) dX2_wrongBy_27 (by decide) ?_ ?_
      · refine x_iinc hO 3 (v := 1) [(3, .int (x3 + (1 : Int32))), (0, rf Γ x0), (1, .int x1), (2, .int x2)] dX2_wrongBy_33 rfl (by decide) (by decide) rfl ?_
        refine x_goto hO (tg := 4) dX2_wrongBy_36 (by decide) ?_
        exact x_leafs [1, 2, 3, 0] rfl (hC x2 (x3 + (1 : Int32)))
      · refine x_iinc hO 2 (v := 1) [(2, .int (x2 + (1 : Int32))), (0, rf Γ x0), (1, .int x1), (3, .int x3)] dX2_wrongBy_30 rfl (by decide) (by decide) rfl ?_
        refine x_iinc hO 3 (v := 1) [(3, .int (x3 + (1 : Int32))), (2, .int (x2 + (1 : Int32))), (0, rf Γ x0), (1, .int x1)] dX2_wrongBy_33 rfl (by decide) (by decide) rfl ?_
        refine x_goto hO (tg := 4) dX2_wrongBy_36 (by decide) ?_
        exact x_leafs [2, 3, 1, 0] rfl (hC (x2 + (1 : Int32)) (x3 + (1 : Int32)))
set_option maxHeartbeats 4000000 in
set_option maxRecDepth 100000 in
theorem go_X2_wrongBy_L4 {Γ : Cx} (hO : Ok Γ mX2_wrongBy) (h : Hp) (x0 : Nat) (x1 : Int32) (x2 : Int32) (x3 : Int32) (hx0 : Is x0 2) {K : Int32 → Prop} (hR : ∀ r, K (r) → emPI h r = tgt Γ) : EG Γ mX2_wrongBy 4 [(0, rf Γ x0), (1, .int x1), (2, .int x2), (3, .int x3)] [] h (L_X2_wrongBy_4 h x0 x1 x2 x3) K := by
  have q := x_loop (Γ := Γ) (M := mX2_wrongBy) (pc := 4) (B := fun s : Int32 × Int32 => B_X2_wrongBy_4 h x0 x1 s.1 s.2) (lvf := fun s => [(0, rf Γ x0), (1, .int x1), (2, .int s.1), (3, .int s.2)]) (hf := fun s => h) (Ky := K) (fun s => go_X2_wrongBy_B4 hO h x0 x1 s.1 s.2 hx0 (fun _ _ => id) hR) (x2, x3)
  exact q
noncomputable def F_X2_wrongBy (h : Hp) (x0 : Nat) (x1 : Int32) : Option (Int32) :=
  L_X2_wrongBy_4 h x0 x1 ((0 : Int32)) ((0 : Int32))
set_option maxHeartbeats 4000000 in
set_option maxRecDepth 100000 in
theorem go_X2_wrongBy {Γ : Cx} (hO : Ok Γ mX2_wrongBy) (h : Hp) (x0 : Nat) (x1 : Int32) (hx0 : Is x0 2) {K : Int32 → Prop} (hR : ∀ r, K r → emPI h r = tgt Γ) : EG Γ mX2_wrongBy 0 [(0, rf Γ x0), (1, .int x1)] [] h (F_X2_wrongBy h x0 x1) K := by
  unfold F_X2_wrongBy
  refine x_iconst hO (v := 0) (by decide) dX2_wrongBy_0 ?_
  refine x_istore_n hO rfl [(2, .int ((0 : Int32))), (0, rf Γ x0), (1, .int x1)] dX2_wrongBy_1 (by decide) rfl ?_
  refine x_iconst hO (v := 0) (by decide) dX2_wrongBy_2 ?_
  refine x_istore_n hO rfl [(3, .int ((0 : Int32))), (2, .int ((0 : Int32))), (0, rf Γ x0), (1, .int x1)] dX2_wrongBy_3 (by decide) rfl ?_
  exact x_sub [2, 3, 1, 0] rfl (go_X2_wrongBy_L4 hO h x0 x1 ((0 : Int32)) ((0 : Int32)) hx0 hR)
theorem ok_X2_wrongBy (G : Gl) (h : Hp) (x0 : Nat) (x1 : Int32) (hx0 : Is x0 2) : CN G mX2_wrongBy [.ref (gb G + x0), .int x1] h ((F_X2_wrongBy h x0 x1).map (emPI h)) := CN.fn pn_RX2 (Nat.le_of_ble_eq_true rfl) (fun Γ hG hO => by subst hG; exact go_X2_wrongBy hO h x0 x1 hx0 (fun _ q => q))
noncomputable def F_X3_collates (h : Hp) (x0 : Nat) (x1 : Int32) (x2 : Int32) (x3 : Int32) (x4 : Int32) : Option (Int32) :=
  gd (ib x1 (LEN (GR x0 5))) (if (hI h (GR x0 5) (nx x1)) = x2 then (F_X2_fieldOf h x0 x1 x3 x4).bind (fun r1 => if r1 = ((-1 : Int32)) then some ((0 : Int32)) else some ((1 : Int32))) else some ((0 : Int32)))
set_option maxHeartbeats 4000000 in
set_option maxRecDepth 100000 in
theorem go_X3_collates {Γ : Cx} (hO : Ok Γ mX3_collates) (h : Hp) (x0 : Nat) (x1 : Int32) (x2 : Int32) (x3 : Int32) (x4 : Int32) (hx0 : Is x0 2) {K : Int32 → Prop} (hR : ∀ r, K r → emPI h r = tgt Γ) : EG Γ mX3_collates 0 [(0, rf Γ x0), (1, .int x1), (2, .int x2), (3, .int x3), (4, .int x4)] [] h (F_X3_collates h x0 x1 x2 x3 x4) K := by
  unfold F_X3_collates
  refine x_aload_n hO 0 rfl rfl dX3_collates_0 ?_
  refine x_getR hO fl_RX3_87 hx0 dX3_collates_1 ?_
  refine x_iload_n hO 1 rfl rfl dX3_collates_4 ?_
  refine x_iald hO (gr_2_5 hx0) dX3_collates_5 ?_
  refine x_iload_n hO 2 rfl rfl dX3_collates_6 ?_
  refine x_icmp_ne hO (tg := 26) dX3_collates_7 (by decide) ?_ ?_
  · refine x_iconst hO (v := 0) (by decide) dX3_collates_26 ?_
    exact x_zretv hO rfl (by decide) dX3_collates_27 (hR _)
  · refine x_aload_n hO 0 rfl rfl dX3_collates_10 ?_
    refine x_iload_n hO 1 rfl rfl dX3_collates_11 ?_
    refine x_iload_n hO 3 rfl rfl dX3_collates_12 ?_
    refine x_iload hO 4 rfl dX3_collates_13 ?_
    refine y_PI (x_callV hO lv_RX3_90 hx0 vc_2 (by decide) (As := [.int x1, .int x3, .int x4]) rfl (Nat.le_of_ble_eq_true rfl) (ok_X2_fieldOf (cG Γ) h x0 x1 x3 x4 hx0) dX3_collates_15 rfl (Nat.le_of_ble_eq_true rfl)) (fun r1 => ?_)
    refine x_iconst hO (v := -1) (by decide) dX3_collates_18 ?_
    refine x_icmp_eq hO (tg := 26) dX3_collates_19 (by decide) ?_ ?_
    · refine x_iconst hO (v := 0) (by decide) dX3_collates_26 ?_
      exact x_zretv hO rfl (by decide) dX3_collates_27 (hR _)
    · refine x_iconst hO (v := 1) (by decide) dX3_collates_22 ?_
      refine x_goto hO (tg := 27) dX3_collates_23 (by decide) ?_
      exact x_zretv hO rfl (by decide) dX3_collates_27 (hR _)
theorem ok_X3_collates (G : Gl) (h : Hp) (x0 : Nat) (x1 : Int32) (x2 : Int32) (x3 : Int32) (x4 : Int32) (hx0 : Is x0 2) : CN G mX3_collates [.ref (gb G + x0), .int x1, .int x2, .int x3, .int x4] h ((F_X3_collates h x0 x1 x2 x3 x4).map (emPI h)) := CN.fn pn_RX3 (Nat.le_of_ble_eq_true rfl) (fun Γ hG hO => by subst hG; exact go_X3_collates hO h x0 x1 x2 x3 x4 hx0 (fun _ q => q))
noncomputable def B_X3_sendThrough_21 (h : Hp) (x0 : Nat) (x1 : Nat) (x2 : Int32) (x4 : Int32) (x5 : Int32) : Option ((Hp × Int32) ⊕ (Hp)) :=
  if x4 ≤ x5 then some (.inr h) else gd (ib x5 (LEN (GR x1 7))) (gd (ib (hI h (GR x1 7) (nx x5)) (LEN (GR x1 6))) (gd (ib (hI h (GR x1 7) (nx x5)) (LEN (GR x1 6))) (some (.inl (uI h (GR x1 6) (nx (hI h (GR x1 7) (nx x5))) ((hI h (GR x1 6) (nx (hI h (GR x1 7) (nx x5)))) + ((1 : Int32))), x5 + (1 : Int32))))))
noncomputable def L_X3_sendThrough_21 (h : Hp) (x0 : Nat) (x1 : Nat) (x2 : Int32) (x4 : Int32) (x5 : Int32) : Option (Hp) := iterW (fun s : Hp × Int32 => B_X3_sendThrough_21 s.1 x0 x1 x2 x4 s.2) (h, x5)
set_option maxHeartbeats 4000000 in
set_option maxRecDepth 100000 in
theorem go_X3_sendThrough_B21 {Γ : Cx} (hO : Ok Γ mX3_sendThrough) (h : Hp) (x0 : Nat) (x1 : Nat) (x2 : Int32) (x4 : Int32) (x5 : Int32) (hx0 : Is x0 3) (hx1 : Is x1 2) {K : (Hp × Int32) ⊕ (Hp) → Prop} (hC : ∀ (h : Hp) (x5 : Int32), K (.inl (h, x5)) → EW Γ mX3_sendThrough 21 [(0, rf Γ x0), (1, rf Γ x1), (2, .int x2), (4, .int x4), (5, .int x5)] [] h) (hE50 : ∀ (h : Hp), K (.inr h) → EW Γ mX3_sendThrough 50 [(0, rf Γ x0), (1, rf Γ x1), (2, .int x2), (4, .int x4)] [] h) : EG Γ mX3_sendThrough 21 [(0, rf Γ x0), (1, rf Γ x1), (2, .int x2), (4, .int x4), (5, .int x5)] [] h (B_X3_sendThrough_21 h x0 x1 x2 x4 x5) K := by
  unfold B_X3_sendThrough_21
  refine x_iload hO 4 rfl dX3_sendThrough_21 ?_
  refine x_iload hO 3 rfl dX3_sendThrough_23 ?_
  refine x_icmp_ge hO (tg := 50) dX3_sendThrough_25 (by decide) ?_ ?_
  · exact x_leafs [0, 1, 2, 3] rfl (hE50 h)
  · refine x_aload_n hO 1 rfl rfl dX3_sendThrough_28 ?_
    refine x_getR hO fl_RX3_50 hx1 dX3_sendThrough_29 ?_
    refine x_aload_n hO 1 rfl rfl dX3_sendThrough_32 ?_
    refine x_getR hO fl_RX3_53 hx1 dX3_sendThrough_33 ?_
    refine x_iload hO 4 rfl dX3_sendThrough_36 ?_
    refine x_iald hO (gr_2_7 hx1) dX3_sendThrough_38 ?_
    refine x_dup2_ri hO dX3_sendThrough_39 ?_
    refine x_iald hO (gr_2_6 hx1) dX3_sendThrough_40 ?_
    refine x_iconst hO (v := 1) (by decide) dX3_sendThrough_41 ?_
    refine x_iadd hO dX3_sendThrough_42 ?_
    refine x_iast hO (gr_2_6 hx1) dX3_sendThrough_43 ?_
    refine x_iinc hO 4 (v := 1) [(5, .int (x5 + (1 : Int32))), (0, rf Γ x0), (1, rf Γ x1), (2, .int x2), (4, .int x4)] dX3_sendThrough_44 rfl (by decide) (by decide) rfl ?_
    refine x_goto hO (tg := 21) dX3_sendThrough_47 (by decide) ?_
    exact x_leafs [1, 2, 3, 4, 0] rfl (hC (uI h (GR x1 6) (nx (hI h (GR x1 7) (nx x5))) ((hI h (GR x1 6) (nx (hI h (GR x1 7) (nx x5)))) + ((1 : Int32)))) (x5 + (1 : Int32)))
set_option maxHeartbeats 4000000 in
set_option maxRecDepth 100000 in
theorem go_X3_sendThrough_L21 {Γ : Cx} (hO : Ok Γ mX3_sendThrough) (h : Hp) (x0 : Nat) (x1 : Nat) (x2 : Int32) (x4 : Int32) (x5 : Int32) (hx0 : Is x0 3) (hx1 : Is x1 2) {K : Hp → Prop} (hE50 : ∀ (h : Hp), K (h) → EW Γ mX3_sendThrough 50 [(0, rf Γ x0), (1, rf Γ x1), (2, .int x2), (4, .int x4)] [] h) : EG Γ mX3_sendThrough 21 [(0, rf Γ x0), (1, rf Γ x1), (2, .int x2), (4, .int x4), (5, .int x5)] [] h (L_X3_sendThrough_21 h x0 x1 x2 x4 x5) K := by
  have q := x_loop (Γ := Γ) (M := mX3_sendThrough) (pc := 21) (B := fun s : Hp × Int32 => B_X3_sendThrough_21 s.1 x0 x1 x2 x4 s.2) (lvf := fun s => [(0, rf Γ x0), (1, rf Γ x1), (2, .int x2), (4, .int x4), (5, .int s.2)]) (hf := fun s => s.1) (Ky := K) (fun s => go_X3_sendThrough_B21 hO s.1 x0 x1 x2 x4 s.2 hx0 hx1 (fun _ _ => id) hE50) (h, x5)
  exact q
noncomputable def J_X3_sendThrough_76 (h : Hp) (x1 : Nat) (x4 : Int32) (s0 : Int32) (s1 : Int32) : Option (Hp × Int32) :=
  some ((uI h x1 1 ((hI h x1 1) + (x4 + (((5 : Int32)) * (s0 + s1)))), s0 + s1))
set_option maxHeartbeats 4000000 in
set_option maxRecDepth 100000 in
theorem go_X3_sendThrough_J76 {Γ : Cx} (hO : Ok Γ mX3_sendThrough) (h : Hp) (x1 : Nat) (x4 : Int32) (s0 : Int32) (s1 : Int32) (hx1 : Is x1 2) {K : Hp × Int32 → Prop} (hR : ∀ r, K r → emHI r = tgt Γ) : EG Γ mX3_sendThrough 76 [(1, rf Γ x1), (4, .int x4)] [.int s1, .int s0] h (J_X3_sendThrough_76 h x1 x4 s0 s1) K := by
  unfold J_X3_sendThrough_76
  refine x_iadd hO dX3_sendThrough_76 ?_
  refine x_istore hO [(5, .int (s0 + s1)), (1, rf Γ x1), (4, .int x4)] dX3_sendThrough_77 (by decide) rfl ?_
  refine x_aload_n hO 1 rfl rfl dX3_sendThrough_79 ?_
  refine x_dup_r hO dX3_sendThrough_80 ?_
  refine x_getI hO fl_RX3_60 hx1 dX3_sendThrough_81 ?_
  refine x_iload hO 2 rfl dX3_sendThrough_84 ?_
  refine x_iconst hO (v := 5) (by decide) dX3_sendThrough_86 ?_
  refine x_iload hO 0 rfl dX3_sendThrough_87 ?_
  refine x_imul hO dX3_sendThrough_89 ?_
  refine x_iadd hO dX3_sendThrough_90 ?_
  refine x_iadd hO dX3_sendThrough_91 ?_
  refine x_putI hO fl_RX3_60 hx1 dX3_sendThrough_92 ?_
  refine x_iload hO 0 rfl dX3_sendThrough_95 ?_
  exact x_iret hO rfl dX3_sendThrough_97 (hR _)
noncomputable def F_X3_sendThrough (h : Hp) (x0 : Nat) (x1 : Nat) (x2 : Int32) (x3 : Int32) : Option (Hp × Int32) :=
  if x3 = 0 then (L_X3_sendThrough_21 h x0 x1 x2 (hI h x1 0) ((0 : Int32))).bind (fun e1 => (F_X3_sortRow e1 x0 x1 (GR x1 7) (hI h x1 0) x2).bind (fun r2 => if (hI r2.1 x1 0) ≤ (hI h x1 0) then J_X3_sendThrough_76 r2.1 x1 (hI h x1 0) r2.2 ((0 : Int32)) else J_X3_sendThrough_76 r2.1 x1 (hI h x1 0) r2.2 ((1 : Int32)))) else (F_X3_aheadOfBlank h x1 x2).bind (fun r3 => (L_X3_sendThrough_21 h x0 x1 x2 r3 ((0 : Int32))).bind (fun e4 => (F_X3_sortRow e4 x0 x1 (GR x1 7) r3 x2).bind (fun r5 => if (hI r5.1 x1 0) ≤ r3 then J_X3_sendThrough_76 r5.1 x1 r3 r5.2 ((0 : Int32)) else J_X3_sendThrough_76 r5.1 x1 r3 r5.2 ((1 : Int32)))))
set_option maxHeartbeats 4000000 in
set_option maxRecDepth 100000 in
theorem go_X3_sendThrough {Γ : Cx} (hO : Ok Γ mX3_sendThrough) (h : Hp) (x0 : Nat) (x1 : Nat) (x2 : Int32) (x3 : Int32) (hx0 : Is x0 3) (hx1 : Is x1 2) {K : Hp × Int32 → Prop} (hR : ∀ r, K r → emHI r = tgt Γ) : EG Γ mX3_sendThrough 0 [(0, rf Γ x0), (1, rf Γ x1), (2, .int x2), (3, .int x3)] [] h (F_X3_sendThrough h x0 x1 x2 x3) K := by
  unfold F_X3_sendThrough
  refine x_iload_n hO 3 rfl rfl dX3_sendThrough_0 ?_
  refine x_if_eq hO (tg := 12) dX3_sendThrough_1 (by decide) ?_ ?_
  · refine x_aload_n hO 1 rfl rfl dX3_sendThrough_12 ?_
    refine x_getI hO fl_RX3_45 hx1 dX3_sendThrough_13 ?_
    refine x_istore hO [(4, .int (hI h x1 0)), (0, rf Γ x0), (1, rf Γ x1), (2, .int x2), (3, .int x3)] dX3_sendThrough_16 (by decide) rfl ?_
    refine x_iconst hO (v := 0) (by decide) dX3_sendThrough_18 ?_
    refine x_istore hO [(5, .int ((0 : Int32))), (4, .int (hI h x1 0)), (0, rf Γ x0), (1, rf Γ x1), (2, .int x2), (3, .int x3)] dX3_sendThrough_19 (by decide) rfl ?_
    refine x_bind (x_sub [2, 3, 4, 1, 0] rfl (go_X3_sendThrough_L21 hO h x0 x1 x2 (hI h x1 0) ((0 : Int32)) hx0 hx1 (fun y1_0 hx => ?_)))
    refine x_run (t := ((F_X3_sortRow y1_0 x0 x1 (GR x1 7) (hI h x1 0) x2).bind (fun r2 => if (hI r2.1 x1 0) ≤ (hI h x1 0) then J_X3_sendThrough_76 r2.1 x1 (hI h x1 0) r2.2 ((0 : Int32)) else J_X3_sendThrough_76 r2.1 x1 (hI h x1 0) r2.2 ((1 : Int32))) : Option (Hp × Int32))) hx ?_
    refine x_aload_n hO 0 rfl rfl dX3_sendThrough_50 ?_
    refine x_aload_n hO 1 rfl rfl dX3_sendThrough_51 ?_
    refine x_aload_n hO 1 rfl rfl dX3_sendThrough_52 ?_
    refine x_getR hO fl_RX3_53 hx1 dX3_sendThrough_53 ?_
    refine x_iload hO 3 rfl dX3_sendThrough_56 ?_
    refine x_iload_n hO 2 rfl rfl dX3_sendThrough_58 ?_
    refine y_HI (x_callV hO lv_RX3_56 hx0 vc_3 (by decide) (As := [rf Γ x1, rf Γ (GR x1 7), .int (hI h x1 0), .int x2]) rfl (Nat.le_of_ble_eq_true rfl) (ok_X3_sortRow (cG Γ) y1_0 x0 x1 (GR x1 7) (hI h x1 0) x2 hx0 hx1 (gr_2_7 hx1)) dX3_sendThrough_59 rfl (Nat.le_of_ble_eq_true rfl)) (fun r2 => ?_)
    refine x_iload hO 3 rfl dX3_sendThrough_62 ?_
    refine x_aload_n hO 1 rfl rfl dX3_sendThrough_64 ?_
    refine x_getI hO fl_RX3_45 hx1 dX3_sendThrough_65 ?_
    refine x_icmp_ge hO (tg := 75) dX3_sendThrough_68 (by decide) ?_ ?_
    · refine x_iconst hO (v := 0) (by decide) dX3_sendThrough_75 ?_
      exact x_sub [1, 3] rfl (go_X3_sendThrough_J76 hO r2.1 x1 (hI h x1 0) r2.2 ((0 : Int32)) hx1 hR)
    · refine x_iconst hO (v := 1) (by decide) dX3_sendThrough_71 ?_
      refine x_goto hO (tg := 76) dX3_sendThrough_72 (by decide) ?_
      exact x_sub [1, 3] rfl (go_X3_sendThrough_J76 hO r2.1 x1 (hI h x1 0) r2.2 ((1 : Int32)) hx1 hR)
  · refine x_aload_n hO 1 rfl rfl dX3_sendThrough_4 ?_
    refine x_iload_n hO 2 rfl rfl dX3_sendThrough_5 ?_
    refine y_PI (x_callS hO lt_RX3_41 (As := [rf Γ x1, .int x2]) rfl (Nat.le_of_ble_eq_true rfl) (ok_X3_aheadOfBlank (cG Γ) h x1 x2 hx1) dX3_sendThrough_6 rfl (Nat.le_of_ble_eq_true rfl)) (fun r3 => ?_)
    refine x_goto hO (tg := 16) dX3_sendThrough_9 (by decide) ?_
    refine x_istore hO [(4, .int r3), (0, rf Γ x0), (1, rf Γ x1), (2, .int x2), (3, .int x3)] dX3_sendThrough_16 (by decide) rfl ?_
    refine x_iconst hO (v := 0) (by decide) dX3_sendThrough_18 ?_
    refine x_istore hO [(5, .int ((0 : Int32))), (4, .int r3), (0, rf Γ x0), (1, rf Γ x1), (2, .int x2), (3, .int x3)] dX3_sendThrough_19 (by decide) rfl ?_
    refine x_bind (x_sub [2, 3, 4, 1, 0] rfl (go_X3_sendThrough_L21 hO h x0 x1 x2 r3 ((0 : Int32)) hx0 hx1 (fun y4_0 hx => ?_)))
    refine x_run (t := ((F_X3_sortRow y4_0 x0 x1 (GR x1 7) r3 x2).bind (fun r5 => if (hI r5.1 x1 0) ≤ r3 then J_X3_sendThrough_76 r5.1 x1 r3 r5.2 ((0 : Int32)) else J_X3_sendThrough_76 r5.1 x1 r3 r5.2 ((1 : Int32))) : Option (Hp × Int32))) hx ?_
    refine x_aload_n hO 0 rfl rfl dX3_sendThrough_50 ?_
    refine x_aload_n hO 1 rfl rfl dX3_sendThrough_51 ?_
    refine x_aload_n hO 1 rfl rfl dX3_sendThrough_52 ?_
    refine x_getR hO fl_RX3_53 hx1 dX3_sendThrough_53 ?_
    refine x_iload hO 3 rfl dX3_sendThrough_56 ?_
    refine x_iload_n hO 2 rfl rfl dX3_sendThrough_58 ?_
    refine y_HI (x_callV hO lv_RX3_56 hx0 vc_3 (by decide) (As := [rf Γ x1, rf Γ (GR x1 7), .int r3, .int x2]) rfl (Nat.le_of_ble_eq_true rfl) (ok_X3_sortRow (cG Γ) y4_0 x0 x1 (GR x1 7) r3 x2 hx0 hx1 (gr_2_7 hx1)) dX3_sendThrough_59 rfl (Nat.le_of_ble_eq_true rfl)) (fun r5 => ?_)
    refine x_iload hO 3 rfl dX3_sendThrough_62 ?_
    refine x_aload_n hO 1 rfl rfl dX3_sendThrough_64 ?_
    refine x_getI hO fl_RX3_45 hx1 dX3_sendThrough_65 ?_
    refine x_icmp_ge hO (tg := 75) dX3_sendThrough_68 (by decide) ?_ ?_
    · refine x_iconst hO (v := 0) (by decide) dX3_sendThrough_75 ?_
      exact x_sub [1, 3] rfl (go_X3_sendThrough_J76 hO r5.1 x1 r3 r5.2 ((0 : Int32)) hx1 hR)
    · refine x_iconst hO (v := 1) (by decide) dX3_sendThrough_71 ?_
      refine x_goto hO (tg := 76) dX3_sendThrough_72 (by decide) ?_
      exact x_sub [1, 3] rfl (go_X3_sendThrough_J76 hO r5.1 x1 r3 r5.2 ((1 : Int32)) hx1 hR)
theorem ok_X3_sendThrough (G : Gl) (h : Hp) (x0 : Nat) (x1 : Nat) (x2 : Int32) (x3 : Int32) (hx0 : Is x0 3) (hx1 : Is x1 2) : CN G mX3_sendThrough [.ref (gb G + x0), .ref (gb G + x1), .int x2, .int x3] h ((F_X3_sendThrough h x0 x1 x2 x3).map (emHI)) := CN.fn pn_RX3 (Nat.le_of_ble_eq_true rfl) (fun Γ hG hO => by subst hG; exact go_X3_sendThrough hO h x0 x1 x2 x3 hx0 hx1 (fun _ q => q))
noncomputable def F_X3_zeroComesFirst (h : Hp) (x0 : Nat) (x1 : Int32) (x2 : Int32) (x3 : Int32) (x4 : Int32) : Option (Int32) :=
  if (hI h x0 0) ≤ x1 then if (hI h x0 0) ≤ x1 then some ((0 : Int32)) else some ((1 : Int32)) else if x2 < (hI h x0 0) then gd (ib x1 (LEN (GR x0 7))) ((F_X2_fieldOf h x0 (hI h (GR x0 7) (nx x1)) x3 x4).bind (fun r1 => gd (ib x2 (LEN (GR x0 7))) ((F_X2_fieldOf h x0 (hI h (GR x0 7) (nx x2)) x3 x4).bind (fun r2 => if r2 < r1 then some ((0 : Int32)) else some ((1 : Int32)))))) else if (hI h x0 0) ≤ x1 then some ((0 : Int32)) else some ((1 : Int32))
set_option maxHeartbeats 4000000 in
set_option maxRecDepth 100000 in
theorem go_X3_zeroComesFirst {Γ : Cx} (hO : Ok Γ mX3_zeroComesFirst) (h : Hp) (x0 : Nat) (x1 : Int32) (x2 : Int32) (x3 : Int32) (x4 : Int32) (hx0 : Is x0 2) {K : Int32 → Prop} (hR : ∀ r, K r → emPI h r = tgt Γ) : EG Γ mX3_zeroComesFirst 0 [(0, rf Γ x0), (1, .int x1), (2, .int x2), (3, .int x3), (4, .int x4)] [] h (F_X3_zeroComesFirst h x0 x1 x2 x3 x4) K := by
  unfold F_X3_zeroComesFirst
  refine x_iload_n hO 1 rfl rfl dX3_zeroComesFirst_0 ?_
  refine x_aload_n hO 0 rfl rfl dX3_zeroComesFirst_1 ?_
  refine x_getI hO fl_RX3_45 hx0 dX3_zeroComesFirst_2 ?_
  refine x_icmp_ge hO (tg := 16) dX3_zeroComesFirst_5 (by decide) ?_ ?_
  · refine x_iload_n hO 1 rfl rfl dX3_zeroComesFirst_16 ?_
    refine x_aload_n hO 0 rfl rfl dX3_zeroComesFirst_17 ?_
    refine x_getI hO fl_RX3_45 hx0 dX3_zeroComesFirst_18 ?_
    refine x_icmp_ge hO (tg := 28) dX3_zeroComesFirst_21 (by decide) ?_ ?_
    · refine x_iconst hO (v := 0) (by decide) dX3_zeroComesFirst_28 ?_
      exact x_zretv hO rfl (by decide) dX3_zeroComesFirst_29 (hR _)
    · refine x_iconst hO (v := 1) (by decide) dX3_zeroComesFirst_24 ?_
      refine x_goto hO (tg := 29) dX3_zeroComesFirst_25 (by decide) ?_
      exact x_zretv hO rfl (by decide) dX3_zeroComesFirst_29 (hR _)
  · refine x_iload_n hO 2 rfl rfl dX3_zeroComesFirst_8 ?_
    refine x_aload_n hO 0 rfl rfl dX3_zeroComesFirst_9 ?_
    refine x_getI hO fl_RX3_45 hx0 dX3_zeroComesFirst_10 ?_
    refine x_icmp_lt hO (tg := 30) dX3_zeroComesFirst_13 (by decide) ?_ ?_
    · refine x_aload_n hO 0 rfl rfl dX3_zeroComesFirst_30 ?_
      refine x_aload_n hO 0 rfl rfl dX3_zeroComesFirst_31 ?_
      refine x_getR hO fl_RX3_53 hx0 dX3_zeroComesFirst_32 ?_
      refine x_iload_n hO 1 rfl rfl dX3_zeroComesFirst_35 ?_
      refine x_iald hO (gr_2_7 hx0) dX3_zeroComesFirst_36 ?_
      refine x_iload_n hO 3 rfl rfl dX3_zeroComesFirst_37 ?_
      refine x_iload hO 4 rfl dX3_zeroComesFirst_38 ?_
      refine y_PI (x_callV hO lv_RX3_90 hx0 vc_2 (by decide) (As := [.int (hI h (GR x0 7) (nx x1)), .int x3, .int x4]) rfl (Nat.le_of_ble_eq_true rfl) (ok_X2_fieldOf (cG Γ) h x0 (hI h (GR x0 7) (nx x1)) x3 x4 hx0) dX3_zeroComesFirst_40 rfl (Nat.le_of_ble_eq_true rfl)) (fun r1 => ?_)
      refine x_aload_n hO 0 rfl rfl dX3_zeroComesFirst_43 ?_
      refine x_aload_n hO 0 rfl rfl dX3_zeroComesFirst_44 ?_
      refine x_getR hO fl_RX3_53 hx0 dX3_zeroComesFirst_45 ?_
      refine x_iload_n hO 2 rfl rfl dX3_zeroComesFirst_48 ?_
      refine x_iald hO (gr_2_7 hx0) dX3_zeroComesFirst_49 ?_
      refine x_iload_n hO 3 rfl rfl dX3_zeroComesFirst_50 ?_
      refine x_iload hO 4 rfl dX3_zeroComesFirst_51 ?_
      refine y_PI (x_callV hO lv_RX3_90 hx0 vc_2 (by decide) (As := [.int (hI h (GR x0 7) (nx x2)), .int x3, .int x4]) rfl (Nat.le_of_ble_eq_true rfl) (ok_X2_fieldOf (cG Γ) h x0 (hI h (GR x0 7) (nx x2)) x3 x4 hx0) dX3_zeroComesFirst_53 rfl (Nat.le_of_ble_eq_true rfl)) (fun r2 => ?_)
      refine x_icmp_gt hO (tg := 63) dX3_zeroComesFirst_56 (by decide) ?_ ?_
      · refine x_iconst hO (v := 0) (by decide) dX3_zeroComesFirst_63 ?_
        exact x_zretv hO rfl (by decide) dX3_zeroComesFirst_64 (hR _)
      · refine x_iconst hO (v := 1) (by decide) dX3_zeroComesFirst_59 ?_
        refine x_goto hO (tg := 64) dX3_zeroComesFirst_60 (by decide) ?_
        exact x_zretv hO rfl (by decide) dX3_zeroComesFirst_64 (hR _)
    · refine x_iload_n hO 1 rfl rfl dX3_zeroComesFirst_16 ?_
      refine x_aload_n hO 0 rfl rfl dX3_zeroComesFirst_17 ?_
      refine x_getI hO fl_RX3_45 hx0 dX3_zeroComesFirst_18 ?_
      refine x_icmp_ge hO (tg := 28) dX3_zeroComesFirst_21 (by decide) ?_ ?_
      · refine x_iconst hO (v := 0) (by decide) dX3_zeroComesFirst_28 ?_
        exact x_zretv hO rfl (by decide) dX3_zeroComesFirst_29 (hR _)
      · refine x_iconst hO (v := 1) (by decide) dX3_zeroComesFirst_24 ?_
        refine x_goto hO (tg := 29) dX3_zeroComesFirst_25 (by decide) ?_
        exact x_zretv hO rfl (by decide) dX3_zeroComesFirst_29 (hR _)
theorem ok_X3_zeroComesFirst (G : Gl) (h : Hp) (x0 : Nat) (x1 : Int32) (x2 : Int32) (x3 : Int32) (x4 : Int32) (hx0 : Is x0 2) : CN G mX3_zeroComesFirst [.ref (gb G + x0), .int x1, .int x2, .int x3, .int x4] h ((F_X3_zeroComesFirst h x0 x1 x2 x3 x4).map (emPI h)) := CN.fn pn_RX3 (Nat.le_of_ble_eq_true rfl) (fun Γ hG hO => by subst hG; exact go_X3_zeroComesFirst hO h x0 x1 x2 x3 x4 hx0 (fun _ q => q))
noncomputable def B_X4_searchBehind_19 (h : Hp) (x0 : Nat) (x2 : Int32) (x4 : Int32) (x3 : Int32) (x5 : Int32) : Option ((Hp × Int32 × Int32) ⊕ (Hp × Int32)) :=
  if ((3 : Int32)) ≤ x5 then some (.inr ((h, x3))) else (F_X4_misreads h x0 x4 x5).bind (fun r1 => if r1 = ((-1 : Int32)) then some (.inl (h, x3, x5 + (1 : Int32))) else gd (ib x4 (LEN (GR x0 6))) ((F_X4_change h x0 (hI h (GR x0 6) (nx x4)) r1).bind (fun r2 => (F_X4_closed r2 x0).bind (fun r3 => if r3 = 0 then gd (ib x4 (LEN (GR x0 6))) ((F_X4_change r2 x0 r1 (hI r2 (GR x0 6) (nx x4))).bind (fun r4 => some (.inl (r4, x3, x5 + (1 : Int32))))) else (F_X4_keepFirst r2 x0 (x2 + x3) ((2 : Int32)) x4 x5).bind (fun r5 => gd (ib x4 (LEN (GR x0 6))) ((F_X4_change r5 x0 r1 (hI r5 (GR x0 6) (nx x4))).bind (fun r6 => some (.inl (r6, x3 + (1 : Int32), x5 + (1 : Int32))))))))))
noncomputable def L_X4_searchBehind_19 (h : Hp) (x0 : Nat) (x2 : Int32) (x4 : Int32) (x3 : Int32) (x5 : Int32) : Option (Hp × Int32) := iterW (fun s : Hp × Int32 × Int32 => B_X4_searchBehind_19 s.1 x0 x2 x4 s.2.1 s.2.2) (h, x3, x5)
set_option maxHeartbeats 4000000 in
set_option maxRecDepth 100000 in
theorem go_X4_searchBehind_B19 {Γ : Cx} (hO : Ok Γ mX4_searchBehind) (h : Hp) (x0 : Nat) (x2 : Int32) (x4 : Int32) (x3 : Int32) (x5 : Int32) (hx0 : Is x0 4) {K : (Hp × Int32 × Int32) ⊕ (Hp × Int32) → Prop} (hC : ∀ (h : Hp) (x3 : Int32) (x5 : Int32), K (.inl (h, x3, x5)) → EW Γ mX4_searchBehind 19 [(0, rf Γ x0), (2, .int x2), (3, .int x3), (4, .int x4), (5, .int x5)] [] h) (hE95 : ∀ (h : Hp) (x3 : Int32), K (.inr ((h, x3))) → EW Γ mX4_searchBehind 95 [(0, rf Γ x0), (2, .int x2), (3, .int x3), (4, .int x4)] [] h) : EG Γ mX4_searchBehind 19 [(0, rf Γ x0), (2, .int x2), (3, .int x3), (4, .int x4), (5, .int x5)] [] h (B_X4_searchBehind_19 h x0 x2 x4 x3 x5) K := by
  unfold B_X4_searchBehind_19
  refine x_iload hO 4 rfl dX4_searchBehind_19 ?_
  refine x_iconst hO (v := 3) (by decide) dX4_searchBehind_21 ?_
  refine x_icmp_ge hO (tg := 95) dX4_searchBehind_22 (by decide) ?_ ?_
  · exact x_leafs [0, 1, 2, 3] rfl (hE95 h x3)
  · refine x_aload_n hO 0 rfl rfl dX4_searchBehind_25 ?_
    refine x_iload hO 3 rfl dX4_searchBehind_26 ?_
    refine x_iload hO 4 rfl dX4_searchBehind_28 ?_
    refine y_PI (x_callV hO lv_RX4_80 hx0 vc_4 (by decide) (As := [.int x4, .int x5]) rfl (Nat.le_of_ble_eq_true rfl) (ok_X4_misreads (cG Γ) h x0 x4 x5 hx0) dX4_searchBehind_30 rfl (Nat.le_of_ble_eq_true rfl)) (fun r1 => ?_)
    refine x_istore hO [(6, .int r1), (0, rf Γ x0), (2, .int x2), (3, .int x3), (4, .int x4), (5, .int x5)] dX4_searchBehind_33 (by decide) rfl ?_
    refine x_iload hO 0 rfl dX4_searchBehind_35 ?_
    refine x_iconst hO (v := -1) (by decide) dX4_searchBehind_37 ?_
    refine x_icmp_eq hO (tg := 89) dX4_searchBehind_38 (by decide) ?_ ?_
    · refine x_iinc hO 5 (v := 1) [(5, .int (x5 + (1 : Int32))), (6, .int r1), (0, rf Γ x0), (2, .int x2), (3, .int x3), (4, .int x4)] dX4_searchBehind_89 rfl (by decide) (by decide) rfl ?_
      refine x_goto hO (tg := 19) dX4_searchBehind_92 (by decide) ?_
      exact x_leafs [2, 3, 4, 5, 0] rfl (hC h x3 (x5 + (1 : Int32)))
    · refine x_aload_n hO 1 rfl rfl dX4_searchBehind_41 ?_
      refine x_aload_n hO 1 rfl rfl dX4_searchBehind_42 ?_
      refine x_getR hO fl_RX4_33 hx0 dX4_searchBehind_43 ?_
      refine x_iload hO 4 rfl dX4_searchBehind_46 ?_
      refine x_iald hO (gr_4_6 hx0) dX4_searchBehind_48 ?_
      refine x_iload hO 0 rfl dX4_searchBehind_49 ?_
      refine y_HV (x_callV hO lv_RX4_83 hx0 vc_4 (by decide) (As := [.int (hI h (GR x0 6) (nx x4)), .int r1]) rfl (Nat.le_of_ble_eq_true rfl) (ok_X4_change (cG Γ) h x0 (hI h (GR x0 6) (nx x4)) r1 hx0) dX4_searchBehind_51 rfl (Nat.le_of_ble_eq_true rfl)) (fun r2 => ?_)
      refine x_aload_n hO 1 rfl rfl dX4_searchBehind_54 ?_
      refine y_PI (x_callV hO lv_RX4_49 hx0 vc_4 (by decide) (As := []) rfl (Nat.le_of_ble_eq_true rfl) (ok_X4_closed (cG Γ) r2 x0 hx0) dX4_searchBehind_55 rfl (Nat.le_of_ble_eq_true rfl)) (fun r3 => ?_)
      refine x_if_eq hO (tg := 76) dX4_searchBehind_58 (by decide) ?_ ?_
      · refine x_aload_n hO 1 rfl rfl dX4_searchBehind_76 ?_
        refine x_iload hO 0 rfl dX4_searchBehind_77 ?_
        refine x_aload_n hO 1 rfl rfl dX4_searchBehind_79 ?_
        refine x_getR hO fl_RX4_33 hx0 dX4_searchBehind_80 ?_
        refine x_iload hO 4 rfl dX4_searchBehind_83 ?_
        refine x_iald hO (gr_4_6 hx0) dX4_searchBehind_85 ?_
        refine y_HV (x_callV hO lv_RX4_83 hx0 vc_4 (by decide) (As := [.int r1, .int (hI r2 (GR x0 6) (nx x4))]) rfl (Nat.le_of_ble_eq_true rfl) (ok_X4_change (cG Γ) r2 x0 r1 (hI r2 (GR x0 6) (nx x4)) hx0) dX4_searchBehind_86 rfl (Nat.le_of_ble_eq_true rfl)) (fun r4 => ?_)
        refine x_iinc hO 5 (v := 1) [(5, .int (x5 + (1 : Int32))), (6, .int r1), (0, rf Γ x0), (2, .int x2), (3, .int x3), (4, .int x4)] dX4_searchBehind_89 rfl (by decide) (by decide) rfl ?_
        refine x_goto hO (tg := 19) dX4_searchBehind_92 (by decide) ?_
        exact x_leafs [2, 3, 4, 5, 0] rfl (hC r4 x3 (x5 + (1 : Int32)))
      · refine x_aload_n hO 1 rfl rfl dX4_searchBehind_61 ?_
        refine x_iload_n hO 2 rfl rfl dX4_searchBehind_62 ?_
        refine x_iload_n hO 3 rfl rfl dX4_searchBehind_63 ?_
        refine x_iadd hO dX4_searchBehind_64 ?_
        refine x_iconst hO (v := 2) (by decide) dX4_searchBehind_65 ?_
        refine x_iload hO 4 rfl dX4_searchBehind_66 ?_
        refine x_iload hO 5 rfl dX4_searchBehind_68 ?_
        refine y_HV (x_callV hO lv_RX4_86 hx0 vc_4 (by decide) (As := [.int (x2 + x3), .int ((2 : Int32)), .int x4, .int x5]) rfl (Nat.le_of_ble_eq_true rfl) (ok_X4_keepFirst (cG Γ) r2 x0 (x2 + x3) ((2 : Int32)) x4 x5 hx0) dX4_searchBehind_70 rfl (Nat.le_of_ble_eq_true rfl)) (fun r5 => ?_)
        refine x_iinc hO 3 (v := 1) [(3, .int (x3 + (1 : Int32))), (6, .int r1), (0, rf Γ x0), (2, .int x2), (4, .int x4), (5, .int x5)] dX4_searchBehind_73 rfl (by decide) (by decide) rfl ?_
        refine x_aload_n hO 2 rfl rfl dX4_searchBehind_76 ?_
        refine x_iload hO 1 rfl dX4_searchBehind_77 ?_
        refine x_aload_n hO 2 rfl rfl dX4_searchBehind_79 ?_
        refine x_getR hO fl_RX4_33 hx0 dX4_searchBehind_80 ?_
        refine x_iload hO 4 rfl dX4_searchBehind_83 ?_
        refine x_iald hO (gr_4_6 hx0) dX4_searchBehind_85 ?_
        refine y_HV (x_callV hO lv_RX4_83 hx0 vc_4 (by decide) (As := [.int r1, .int (hI r5 (GR x0 6) (nx x4))]) rfl (Nat.le_of_ble_eq_true rfl) (ok_X4_change (cG Γ) r5 x0 r1 (hI r5 (GR x0 6) (nx x4)) hx0) dX4_searchBehind_86 rfl (Nat.le_of_ble_eq_true rfl)) (fun r6 => ?_)
        refine x_iinc hO 5 (v := 1) [(5, .int (x5 + (1 : Int32))), (3, .int (x3 + (1 : Int32))), (6, .int r1), (0, rf Γ x0), (2, .int x2), (4, .int x4)] dX4_searchBehind_89 rfl (by decide) (by decide) rfl ?_
        refine x_goto hO (tg := 19) dX4_searchBehind_92 (by decide) ?_
        exact x_leafs [3, 4, 1, 5, 0] rfl (hC r6 (x3 + (1 : Int32)) (x5 + (1 : Int32)))
set_option maxHeartbeats 4000000 in
set_option maxRecDepth 100000 in
theorem go_X4_searchBehind_L19 {Γ : Cx} (hO : Ok Γ mX4_searchBehind) (h : Hp) (x0 : Nat) (x2 : Int32) (x4 : Int32) (x3 : Int32) (x5 : Int32) (hx0 : Is x0 4) {K : Hp × Int32 → Prop} (hE95 : ∀ (h : Hp) (x3 : Int32), K ((h, x3)) → EW Γ mX4_searchBehind 95 [(0, rf Γ x0), (2, .int x2), (3, .int x3), (4, .int x4)] [] h) : EG Γ mX4_searchBehind 19 [(0, rf Γ x0), (2, .int x2), (3, .int x3), (4, .int x4), (5, .int x5)] [] h (L_X4_searchBehind_19 h x0 x2 x4 x3 x5) K := by
  have q := x_loop (Γ := Γ) (M := mX4_searchBehind) (pc := 19) (B := fun s : Hp × Int32 × Int32 => B_X4_searchBehind_19 s.1 x0 x2 x4 s.2.1 s.2.2) (lvf := fun s => [(0, rf Γ x0), (2, .int x2), (3, .int s.2.1), (4, .int x4), (5, .int s.2.2)]) (hf := fun s => s.1) (Ky := K) (fun s => go_X4_searchBehind_B19 hO s.1 x0 x2 x4 s.2.1 s.2.2 hx0 (fun _ _ _ => id) hE95) (h, x3, x5)
  exact q
noncomputable def B_X4_searchBehind_7 (h : Hp) (x0 : Nat) (x2 : Int32) (x3 : Int32) (x4 : Int32) : Option ((Hp × Int32 × Int32) ⊕ (Hp × Int32)) :=
  if (hI h x0 8) ≤ x4 then some (.inr ((h, x3))) else (L_X4_searchBehind_19 h x0 x2 x4 x3 ((0 : Int32))).bind (fun e1 => some (.inl (e1.1, e1.2, x4 + (1 : Int32))))
noncomputable def L_X4_searchBehind_7 (h : Hp) (x0 : Nat) (x2 : Int32) (x3 : Int32) (x4 : Int32) : Option (Hp × Int32) := iterW (fun s : Hp × Int32 × Int32 => B_X4_searchBehind_7 s.1 x0 x2 s.2.1 s.2.2) (h, x3, x4)
set_option maxHeartbeats 4000000 in
set_option maxRecDepth 100000 in
theorem go_X4_searchBehind_B7 {Γ : Cx} (hO : Ok Γ mX4_searchBehind) (h : Hp) (x0 : Nat) (x2 : Int32) (x3 : Int32) (x4 : Int32) (hx0 : Is x0 4) {K : (Hp × Int32 × Int32) ⊕ (Hp × Int32) → Prop} (hC : ∀ (h : Hp) (x3 : Int32) (x4 : Int32), K (.inl (h, x3, x4)) → EW Γ mX4_searchBehind 7 [(0, rf Γ x0), (2, .int x2), (3, .int x3), (4, .int x4)] [] h) (hR : ∀ r, K (.inr r) → emHI r = tgt Γ) : EG Γ mX4_searchBehind 7 [(0, rf Γ x0), (2, .int x2), (3, .int x3), (4, .int x4)] [] h (B_X4_searchBehind_7 h x0 x2 x3 x4) K := by
  unfold B_X4_searchBehind_7
  refine x_iload hO 3 rfl dX4_searchBehind_7 ?_
  refine x_aload_n hO 0 rfl rfl dX4_searchBehind_9 ?_
  refine x_getI hO fl_RX4_39 hx0 dX4_searchBehind_10 ?_
  refine x_icmp_ge hO (tg := 101) dX4_searchBehind_13 (by decide) ?_ ?_
  · refine x_iload_n hO 2 rfl rfl dX4_searchBehind_101 ?_
    exact x_iret hO rfl dX4_searchBehind_102 (hR _)
  · refine x_iconst hO (v := 0) (by decide) dX4_searchBehind_16 ?_
    refine x_istore hO [(5, .int ((0 : Int32))), (0, rf Γ x0), (2, .int x2), (3, .int x3), (4, .int x4)] dX4_searchBehind_17 (by decide) rfl ?_
    refine x_bind (x_sub [1, 2, 3, 4, 0] rfl (go_X4_searchBehind_L19 hO h x0 x2 x4 x3 ((0 : Int32)) hx0 (fun y1_0 y1_1 hx => ?_)))
    refine x_run (t := (some (.inl (y1_0, y1_1, x4 + (1 : Int32))) : Option ((Hp × Int32 × Int32) ⊕ (Hp × Int32)))) hx ?_
    refine x_iinc hO 3 (v := 1) [(4, .int (x4 + (1 : Int32))), (0, rf Γ x0), (2, .int x2), (3, .int y1_1)] dX4_searchBehind_95 rfl (by decide) (by decide) rfl ?_
    refine x_goto hO (tg := 7) dX4_searchBehind_98 (by decide) ?_
    exact x_leafs [1, 2, 3, 0] rfl (hC y1_0 y1_1 (x4 + (1 : Int32)))
set_option maxHeartbeats 4000000 in
set_option maxRecDepth 100000 in
theorem go_X4_searchBehind_L7 {Γ : Cx} (hO : Ok Γ mX4_searchBehind) (h : Hp) (x0 : Nat) (x2 : Int32) (x3 : Int32) (x4 : Int32) (hx0 : Is x0 4) {K : Hp × Int32 → Prop} (hR : ∀ r, K (r) → emHI r = tgt Γ) : EG Γ mX4_searchBehind 7 [(0, rf Γ x0), (2, .int x2), (3, .int x3), (4, .int x4)] [] h (L_X4_searchBehind_7 h x0 x2 x3 x4) K := by
  have q := x_loop (Γ := Γ) (M := mX4_searchBehind) (pc := 7) (B := fun s : Hp × Int32 × Int32 => B_X4_searchBehind_7 s.1 x0 x2 s.2.1 s.2.2) (lvf := fun s => [(0, rf Γ x0), (2, .int x2), (3, .int s.2.1), (4, .int s.2.2)]) (hf := fun s => s.1) (Ky := K) (fun s => go_X4_searchBehind_B7 hO s.1 x0 x2 s.2.1 s.2.2 hx0 (fun _ _ _ => id) hR) (h, x3, x4)
  exact q
noncomputable def F_X4_searchBehind (h : Hp) (x0 : Nat) (x1 : Int32) (x2 : Int32) : Option (Hp × Int32) :=
  L_X4_searchBehind_7 h x0 x2 ((0 : Int32)) (x1 + ((1 : Int32)))
set_option maxHeartbeats 4000000 in
set_option maxRecDepth 100000 in
theorem go_X4_searchBehind {Γ : Cx} (hO : Ok Γ mX4_searchBehind) (h : Hp) (x0 : Nat) (x1 : Int32) (x2 : Int32) (hx0 : Is x0 4) {K : Hp × Int32 → Prop} (hR : ∀ r, K r → emHI r = tgt Γ) : EG Γ mX4_searchBehind 0 [(0, rf Γ x0), (1, .int x1), (2, .int x2)] [] h (F_X4_searchBehind h x0 x1 x2) K := by
  unfold F_X4_searchBehind
  refine x_iconst hO (v := 0) (by decide) dX4_searchBehind_0 ?_
  refine x_istore_n hO rfl [(3, .int ((0 : Int32))), (0, rf Γ x0), (1, .int x1), (2, .int x2)] dX4_searchBehind_1 (by decide) rfl ?_
  refine x_iload_n hO 2 rfl rfl dX4_searchBehind_2 ?_
  refine x_iconst hO (v := 1) (by decide) dX4_searchBehind_3 ?_
  refine x_iadd hO dX4_searchBehind_4 ?_
  refine x_istore hO [(4, .int (x1 + ((1 : Int32)))), (3, .int ((0 : Int32))), (0, rf Γ x0), (1, .int x1), (2, .int x2)] dX4_searchBehind_5 (by decide) rfl ?_
  exact x_sub [2, 4, 1, 0] rfl (go_X4_searchBehind_L7 hO h x0 x2 ((0 : Int32)) (x1 + ((1 : Int32))) hx0 hR)
theorem ok_X4_searchBehind (G : Gl) (h : Hp) (x0 : Nat) (x1 : Int32) (x2 : Int32) (hx0 : Is x0 4) : CN G mX4_searchBehind [.ref (gb G + x0), .int x1, .int x2] h ((F_X4_searchBehind h x0 x1 x2).map (emHI)) := CN.fn pn_RX4 (Nat.le_of_ble_eq_true rfl) (fun Γ hG hO => by subst hG; exact go_X4_searchBehind hO h x0 x1 x2 hx0 (fun _ q => q))
noncomputable def B_X4_searchOne_14 (h : Hp) (x0 : Nat) (x2 : Int32) (x1 : Int32) (x3 : Int32) : Option ((Hp × Int32 × Int32) ⊕ (Hp × Int32)) :=
  if ((3 : Int32)) ≤ x3 then some (.inr ((h, x1))) else (F_X4_misreads h x0 x2 x3).bind (fun r1 => if r1 = ((-1 : Int32)) then some (.inl (h, x1, x3 + (1 : Int32))) else gd (ib x2 (LEN (GR x0 6))) ((F_X4_change h x0 (hI h (GR x0 6) (nx x2)) r1).bind (fun r2 => (F_X4_closed r2 x0).bind (fun r3 => if r3 = 0 then gd (ib x2 (LEN (GR x0 6))) ((F_X4_change r2 x0 r1 (hI r2 (GR x0 6) (nx x2))).bind (fun r4 => some (.inl (r4, x1, x3 + (1 : Int32))))) else (F_X4_keepFirst r2 x0 x1 ((0 : Int32)) x2 x3).bind (fun r5 => gd (ib x2 (LEN (GR x0 6))) ((F_X4_change r5 x0 r1 (hI r5 (GR x0 6) (nx x2))).bind (fun r6 => some (.inl (r6, x1 + (1 : Int32), x3 + (1 : Int32))))))))))
noncomputable def L_X4_searchOne_14 (h : Hp) (x0 : Nat) (x2 : Int32) (x1 : Int32) (x3 : Int32) : Option (Hp × Int32) := iterW (fun s : Hp × Int32 × Int32 => B_X4_searchOne_14 s.1 x0 x2 s.2.1 s.2.2) (h, x1, x3)
set_option maxHeartbeats 4000000 in
set_option maxRecDepth 100000 in
theorem go_X4_searchOne_B14 {Γ : Cx} (hO : Ok Γ mX4_searchOne) (h : Hp) (x0 : Nat) (x2 : Int32) (x1 : Int32) (x3 : Int32) (hx0 : Is x0 4) {K : (Hp × Int32 × Int32) ⊕ (Hp × Int32) → Prop} (hC : ∀ (h : Hp) (x1 : Int32) (x3 : Int32), K (.inl (h, x1, x3)) → EW Γ mX4_searchOne 14 [(0, rf Γ x0), (1, .int x1), (2, .int x2), (3, .int x3)] [] h) (hE81 : ∀ (h : Hp) (x1 : Int32), K (.inr ((h, x1))) → EW Γ mX4_searchOne 81 [(0, rf Γ x0), (1, .int x1), (2, .int x2)] [] h) : EG Γ mX4_searchOne 14 [(0, rf Γ x0), (1, .int x1), (2, .int x2), (3, .int x3)] [] h (B_X4_searchOne_14 h x0 x2 x1 x3) K := by
  unfold B_X4_searchOne_14
  refine x_iload_n hO 3 rfl rfl dX4_searchOne_14 ?_
  refine x_iconst hO (v := 3) (by decide) dX4_searchOne_15 ?_
  refine x_icmp_ge hO (tg := 81) dX4_searchOne_16 (by decide) ?_ ?_
  · exact x_leafs [0, 1, 2] rfl (hE81 h x1)
  · refine x_aload_n hO 0 rfl rfl dX4_searchOne_19 ?_
    refine x_iload_n hO 2 rfl rfl dX4_searchOne_20 ?_
    refine x_iload_n hO 3 rfl rfl dX4_searchOne_21 ?_
    refine y_PI (x_callV hO lv_RX4_80 hx0 vc_4 (by decide) (As := [.int x2, .int x3]) rfl (Nat.le_of_ble_eq_true rfl) (ok_X4_misreads (cG Γ) h x0 x2 x3 hx0) dX4_searchOne_22 rfl (Nat.le_of_ble_eq_true rfl)) (fun r1 => ?_)
    refine x_istore hO [(4, .int r1), (0, rf Γ x0), (1, .int x1), (2, .int x2), (3, .int x3)] dX4_searchOne_25 (by decide) rfl ?_
    refine x_iload hO 0 rfl dX4_searchOne_27 ?_
    refine x_iconst hO (v := -1) (by decide) dX4_searchOne_29 ?_
    refine x_icmp_eq hO (tg := 75) dX4_searchOne_30 (by decide) ?_ ?_
    · refine x_iinc hO 4 (v := 1) [(3, .int (x3 + (1 : Int32))), (4, .int r1), (0, rf Γ x0), (1, .int x1), (2, .int x2)] dX4_searchOne_75 rfl (by decide) (by decide) rfl ?_
      refine x_goto hO (tg := 14) dX4_searchOne_78 (by decide) ?_
      exact x_leafs [2, 3, 4, 0] rfl (hC h x1 (x3 + (1 : Int32)))
    · refine x_aload_n hO 1 rfl rfl dX4_searchOne_33 ?_
      refine x_aload_n hO 1 rfl rfl dX4_searchOne_34 ?_
      refine x_getR hO fl_RX4_33 hx0 dX4_searchOne_35 ?_
      refine x_iload_n hO 3 rfl rfl dX4_searchOne_38 ?_
      refine x_iald hO (gr_4_6 hx0) dX4_searchOne_39 ?_
      refine x_iload hO 0 rfl dX4_searchOne_40 ?_
      refine y_HV (x_callV hO lv_RX4_83 hx0 vc_4 (by decide) (As := [.int (hI h (GR x0 6) (nx x2)), .int r1]) rfl (Nat.le_of_ble_eq_true rfl) (ok_X4_change (cG Γ) h x0 (hI h (GR x0 6) (nx x2)) r1 hx0) dX4_searchOne_42 rfl (Nat.le_of_ble_eq_true rfl)) (fun r2 => ?_)
      refine x_aload_n hO 1 rfl rfl dX4_searchOne_45 ?_
      refine y_PI (x_callV hO lv_RX4_49 hx0 vc_4 (by decide) (As := []) rfl (Nat.le_of_ble_eq_true rfl) (ok_X4_closed (cG Γ) r2 x0 hx0) dX4_searchOne_46 rfl (Nat.le_of_ble_eq_true rfl)) (fun r3 => ?_)
      refine x_if_eq hO (tg := 63) dX4_searchOne_49 (by decide) ?_ ?_
      · refine x_aload_n hO 1 rfl rfl dX4_searchOne_63 ?_
        refine x_iload hO 0 rfl dX4_searchOne_64 ?_
        refine x_aload_n hO 1 rfl rfl dX4_searchOne_66 ?_
        refine x_getR hO fl_RX4_33 hx0 dX4_searchOne_67 ?_
        refine x_iload_n hO 3 rfl rfl dX4_searchOne_70 ?_
        refine x_iald hO (gr_4_6 hx0) dX4_searchOne_71 ?_
        refine y_HV (x_callV hO lv_RX4_83 hx0 vc_4 (by decide) (As := [.int r1, .int (hI r2 (GR x0 6) (nx x2))]) rfl (Nat.le_of_ble_eq_true rfl) (ok_X4_change (cG Γ) r2 x0 r1 (hI r2 (GR x0 6) (nx x2)) hx0) dX4_searchOne_72 rfl (Nat.le_of_ble_eq_true rfl)) (fun r4 => ?_)
        refine x_iinc hO 4 (v := 1) [(3, .int (x3 + (1 : Int32))), (4, .int r1), (0, rf Γ x0), (1, .int x1), (2, .int x2)] dX4_searchOne_75 rfl (by decide) (by decide) rfl ?_
        refine x_goto hO (tg := 14) dX4_searchOne_78 (by decide) ?_
        exact x_leafs [2, 3, 4, 0] rfl (hC r4 x1 (x3 + (1 : Int32)))
      · refine x_aload_n hO 1 rfl rfl dX4_searchOne_52 ?_
        refine x_iload_n hO 2 rfl rfl dX4_searchOne_53 ?_
        refine x_iconst hO (v := 0) (by decide) dX4_searchOne_54 ?_
        refine x_iload_n hO 3 rfl rfl dX4_searchOne_55 ?_
        refine x_iload_n hO 4 rfl rfl dX4_searchOne_56 ?_
        refine y_HV (x_callV hO lv_RX4_86 hx0 vc_4 (by decide) (As := [.int x1, .int ((0 : Int32)), .int x2, .int x3]) rfl (Nat.le_of_ble_eq_true rfl) (ok_X4_keepFirst (cG Γ) r2 x0 x1 ((0 : Int32)) x2 x3 hx0) dX4_searchOne_57 rfl (Nat.le_of_ble_eq_true rfl)) (fun r5 => ?_)
        refine x_iinc hO 2 (v := 1) [(1, .int (x1 + (1 : Int32))), (4, .int r1), (0, rf Γ x0), (2, .int x2), (3, .int x3)] dX4_searchOne_60 rfl (by decide) (by decide) rfl ?_
        refine x_aload_n hO 2 rfl rfl dX4_searchOne_63 ?_
        refine x_iload hO 1 rfl dX4_searchOne_64 ?_
        refine x_aload_n hO 2 rfl rfl dX4_searchOne_66 ?_
        refine x_getR hO fl_RX4_33 hx0 dX4_searchOne_67 ?_
        refine x_iload_n hO 3 rfl rfl dX4_searchOne_70 ?_
        refine x_iald hO (gr_4_6 hx0) dX4_searchOne_71 ?_
        refine y_HV (x_callV hO lv_RX4_83 hx0 vc_4 (by decide) (As := [.int r1, .int (hI r5 (GR x0 6) (nx x2))]) rfl (Nat.le_of_ble_eq_true rfl) (ok_X4_change (cG Γ) r5 x0 r1 (hI r5 (GR x0 6) (nx x2)) hx0) dX4_searchOne_72 rfl (Nat.le_of_ble_eq_true rfl)) (fun r6 => ?_)
        refine x_iinc hO 4 (v := 1) [(3, .int (x3 + (1 : Int32))), (1, .int (x1 + (1 : Int32))), (4, .int r1), (0, rf Γ x0), (2, .int x2)] dX4_searchOne_75 rfl (by decide) (by decide) rfl ?_
        refine x_goto hO (tg := 14) dX4_searchOne_78 (by decide) ?_
        exact x_leafs [3, 1, 4, 0] rfl (hC r6 (x1 + (1 : Int32)) (x3 + (1 : Int32)))
set_option maxHeartbeats 4000000 in
set_option maxRecDepth 100000 in
theorem go_X4_searchOne_L14 {Γ : Cx} (hO : Ok Γ mX4_searchOne) (h : Hp) (x0 : Nat) (x2 : Int32) (x1 : Int32) (x3 : Int32) (hx0 : Is x0 4) {K : Hp × Int32 → Prop} (hE81 : ∀ (h : Hp) (x1 : Int32), K ((h, x1)) → EW Γ mX4_searchOne 81 [(0, rf Γ x0), (1, .int x1), (2, .int x2)] [] h) : EG Γ mX4_searchOne 14 [(0, rf Γ x0), (1, .int x1), (2, .int x2), (3, .int x3)] [] h (L_X4_searchOne_14 h x0 x2 x1 x3) K := by
  have q := x_loop (Γ := Γ) (M := mX4_searchOne) (pc := 14) (B := fun s : Hp × Int32 × Int32 => B_X4_searchOne_14 s.1 x0 x2 s.2.1 s.2.2) (lvf := fun s => [(0, rf Γ x0), (1, .int s.2.1), (2, .int x2), (3, .int s.2.2)]) (hf := fun s => s.1) (Ky := K) (fun s => go_X4_searchOne_B14 hO s.1 x0 x2 s.2.1 s.2.2 hx0 (fun _ _ _ => id) hE81) (h, x1, x3)
  exact q
noncomputable def B_X4_searchOne_4 (h : Hp) (x0 : Nat) (x1 : Int32) (x2 : Int32) : Option ((Hp × Int32 × Int32) ⊕ (Hp × Int32)) :=
  if (hI h x0 8) ≤ x2 then some (.inr ((h, x1))) else (L_X4_searchOne_14 h x0 x2 x1 ((0 : Int32))).bind (fun e1 => some (.inl (e1.1, e1.2, x2 + (1 : Int32))))
noncomputable def L_X4_searchOne_4 (h : Hp) (x0 : Nat) (x1 : Int32) (x2 : Int32) : Option (Hp × Int32) := iterW (fun s : Hp × Int32 × Int32 => B_X4_searchOne_4 s.1 x0 s.2.1 s.2.2) (h, x1, x2)
set_option maxHeartbeats 4000000 in
set_option maxRecDepth 100000 in
theorem go_X4_searchOne_B4 {Γ : Cx} (hO : Ok Γ mX4_searchOne) (h : Hp) (x0 : Nat) (x1 : Int32) (x2 : Int32) (hx0 : Is x0 4) {K : (Hp × Int32 × Int32) ⊕ (Hp × Int32) → Prop} (hC : ∀ (h : Hp) (x1 : Int32) (x2 : Int32), K (.inl (h, x1, x2)) → EW Γ mX4_searchOne 4 [(0, rf Γ x0), (1, .int x1), (2, .int x2)] [] h) (hR : ∀ r, K (.inr r) → emHI r = tgt Γ) : EG Γ mX4_searchOne 4 [(0, rf Γ x0), (1, .int x1), (2, .int x2)] [] h (B_X4_searchOne_4 h x0 x1 x2) K := by
  unfold B_X4_searchOne_4
  refine x_iload_n hO 2 rfl rfl dX4_searchOne_4 ?_
  refine x_aload_n hO 0 rfl rfl dX4_searchOne_5 ?_
  refine x_getI hO fl_RX4_39 hx0 dX4_searchOne_6 ?_
  refine x_icmp_ge hO (tg := 87) dX4_searchOne_9 (by decide) ?_ ?_
  · refine x_iload_n hO 1 rfl rfl dX4_searchOne_87 ?_
    exact x_iret hO rfl dX4_searchOne_88 (hR _)
  · refine x_iconst hO (v := 0) (by decide) dX4_searchOne_12 ?_
    refine x_istore_n hO rfl [(3, .int ((0 : Int32))), (0, rf Γ x0), (1, .int x1), (2, .int x2)] dX4_searchOne_13 (by decide) rfl ?_
    refine x_bind (x_sub [1, 2, 3, 0] rfl (go_X4_searchOne_L14 hO h x0 x2 x1 ((0 : Int32)) hx0 (fun y1_0 y1_1 hx => ?_)))
    refine x_run (t := (some (.inl (y1_0, y1_1, x2 + (1 : Int32))) : Option ((Hp × Int32 × Int32) ⊕ (Hp × Int32)))) hx ?_
    refine x_iinc hO 2 (v := 1) [(2, .int (x2 + (1 : Int32))), (0, rf Γ x0), (1, .int y1_1)] dX4_searchOne_81 rfl (by decide) (by decide) rfl ?_
    refine x_goto hO (tg := 4) dX4_searchOne_84 (by decide) ?_
    exact x_leafs [1, 2, 0] rfl (hC y1_0 y1_1 (x2 + (1 : Int32)))
set_option maxHeartbeats 4000000 in
set_option maxRecDepth 100000 in
theorem go_X4_searchOne_L4 {Γ : Cx} (hO : Ok Γ mX4_searchOne) (h : Hp) (x0 : Nat) (x1 : Int32) (x2 : Int32) (hx0 : Is x0 4) {K : Hp × Int32 → Prop} (hR : ∀ r, K (r) → emHI r = tgt Γ) : EG Γ mX4_searchOne 4 [(0, rf Γ x0), (1, .int x1), (2, .int x2)] [] h (L_X4_searchOne_4 h x0 x1 x2) K := by
  have q := x_loop (Γ := Γ) (M := mX4_searchOne) (pc := 4) (B := fun s : Hp × Int32 × Int32 => B_X4_searchOne_4 s.1 x0 s.2.1 s.2.2) (lvf := fun s => [(0, rf Γ x0), (1, .int s.2.1), (2, .int s.2.2)]) (hf := fun s => s.1) (Ky := K) (fun s => go_X4_searchOne_B4 hO s.1 x0 s.2.1 s.2.2 hx0 (fun _ _ _ => id) hR) (h, x1, x2)
  exact q
noncomputable def F_X4_searchOne (h : Hp) (x0 : Nat) : Option (Hp × Int32) :=
  L_X4_searchOne_4 h x0 ((0 : Int32)) ((0 : Int32))
set_option maxHeartbeats 4000000 in
set_option maxRecDepth 100000 in
theorem go_X4_searchOne {Γ : Cx} (hO : Ok Γ mX4_searchOne) (h : Hp) (x0 : Nat) (hx0 : Is x0 4) {K : Hp × Int32 → Prop} (hR : ∀ r, K r → emHI r = tgt Γ) : EG Γ mX4_searchOne 0 [(0, rf Γ x0)] [] h (F_X4_searchOne h x0) K := by
  unfold F_X4_searchOne
  refine x_iconst hO (v := 0) (by decide) dX4_searchOne_0 ?_
  refine x_istore_n hO rfl [(1, .int ((0 : Int32))), (0, rf Γ x0)] dX4_searchOne_1 (by decide) rfl ?_
  refine x_iconst hO (v := 0) (by decide) dX4_searchOne_2 ?_
  refine x_istore_n hO rfl [(2, .int ((0 : Int32))), (1, .int ((0 : Int32))), (0, rf Γ x0)] dX4_searchOne_3 (by decide) rfl ?_
  exact x_sub [2, 1, 0] rfl (go_X4_searchOne_L4 hO h x0 ((0 : Int32)) ((0 : Int32)) hx0 hR)
theorem ok_X4_searchOne (G : Gl) (h : Hp) (x0 : Nat) (hx0 : Is x0 4) : CN G mX4_searchOne [.ref (gb G + x0)] h ((F_X4_searchOne h x0).map (emHI)) := CN.fn pn_RX4 (Nat.le_of_ble_eq_true rfl) (fun Γ hG hO => by subst hG; exact go_X4_searchOne hO h x0 hx0 (fun _ q => q))
noncomputable def F_X5_sideOf (h : Hp) (x0 : Nat) (x1 : Int32) : Option (Hp × Int32) :=
  gd (ib x1 (LEN (GR x0 5))) (if (hI h (GR x0 5) (nx x1)) = ((-1 : Int32)) then gd (ib x1 (LEN (GR x0 5))) ((F_X5_countWays (uI h (GR x0 5) (nx x1) ((0 : Int32))) x0).bind (fun r1 => gd (ib x1 (LEN (GR x0 5))) (if r1.2 = 0 then some ((uI r1.1 (GR x0 5) (nx x1) ((-1 : Int32)), (1 : Int32))) else if r1.2 = (hI (uI r1.1 (GR x0 5) (nx x1) ((-1 : Int32))) x0 2) then some ((uI r1.1 (GR x0 5) (nx x1) ((-1 : Int32)), (0 : Int32))) else some ((uI r1.1 (GR x0 5) (nx x1) ((-1 : Int32)), (2 : Int32)))))) else gd (ib x1 (LEN (GR x0 5))) (some ((h, hI h (GR x0 5) (nx x1)))))
set_option maxHeartbeats 4000000 in
set_option maxRecDepth 100000 in
theorem go_X5_sideOf {Γ : Cx} (hO : Ok Γ mX5_sideOf) (h : Hp) (x0 : Nat) (x1 : Int32) (hx0 : Is x0 5) {K : Hp × Int32 → Prop} (hR : ∀ r, K r → emHI r = tgt Γ) : EG Γ mX5_sideOf 0 [(0, rf Γ x0), (1, .int x1)] [] h (F_X5_sideOf h x0 x1) K := by
  unfold F_X5_sideOf
  refine x_aload_n hO 0 rfl rfl dX5_sideOf_0 ?_
  refine x_getR hO fl_RX5_29 hx0 dX5_sideOf_1 ?_
  refine x_iload_n hO 1 rfl rfl dX5_sideOf_4 ?_
  refine x_iald hO (gr_5_5 hx0) dX5_sideOf_5 ?_
  refine x_iconst hO (v := -1) (by decide) dX5_sideOf_6 ?_
  refine x_icmp_eq hO (tg := 17) dX5_sideOf_7 (by decide) ?_ ?_
  · refine x_aload_n hO 0 rfl rfl dX5_sideOf_17 ?_
    refine x_getR hO fl_RX5_29 hx0 dX5_sideOf_18 ?_
    refine x_iload_n hO 1 rfl rfl dX5_sideOf_21 ?_
    refine x_iconst hO (v := 0) (by decide) dX5_sideOf_22 ?_
    refine x_iast hO (gr_5_5 hx0) dX5_sideOf_23 ?_
    refine x_aload_n hO 0 rfl rfl dX5_sideOf_24 ?_
    refine y_HI (x_callV hO lv_RX5_45 hx0 vc_5 (by decide) (As := []) rfl (Nat.le_of_ble_eq_true rfl) (ok_X5_countWays (cG Γ) (uI h (GR x0 5) (nx x1) ((0 : Int32))) x0 hx0) dX5_sideOf_25 rfl (Nat.le_of_ble_eq_true rfl)) (fun r1 => ?_)
    refine x_istore_n hO rfl [(2, .int r1.2), (0, rf Γ x0), (1, .int x1)] dX5_sideOf_28 (by decide) rfl ?_
    refine x_aload_n hO 1 rfl rfl dX5_sideOf_29 ?_
    refine x_getR hO fl_RX5_29 hx0 dX5_sideOf_30 ?_
    refine x_iload_n hO 2 rfl rfl dX5_sideOf_33 ?_
    refine x_iconst hO (v := -1) (by decide) dX5_sideOf_34 ?_
    refine x_iast hO (gr_5_5 hx0) dX5_sideOf_35 ?_
    refine x_iload_n hO 0 rfl rfl dX5_sideOf_36 ?_
    refine x_if_ne hO (tg := 42) dX5_sideOf_37 (by decide) ?_ ?_
    · refine x_iload_n hO 0 rfl rfl dX5_sideOf_42 ?_
      refine x_aload_n hO 1 rfl rfl dX5_sideOf_43 ?_
      refine x_getI hO fl_RX5_19 hx0 dX5_sideOf_44 ?_
      refine x_icmp_ne hO (tg := 54) dX5_sideOf_47 (by decide) ?_ ?_
      · refine x_iconst hO (v := 2) (by decide) dX5_sideOf_54 ?_
        exact x_iret hO rfl dX5_sideOf_55 (hR _)
      · refine x_iconst hO (v := 0) (by decide) dX5_sideOf_50 ?_
        refine x_goto hO (tg := 55) dX5_sideOf_51 (by decide) ?_
        exact x_iret hO rfl dX5_sideOf_55 (hR _)
    · refine x_iconst hO (v := 1) (by decide) dX5_sideOf_40 ?_
      exact x_iret hO rfl dX5_sideOf_41 (hR _)
  · refine x_aload_n hO 0 rfl rfl dX5_sideOf_10 ?_
    refine x_getR hO fl_RX5_29 hx0 dX5_sideOf_11 ?_
    refine x_iload_n hO 1 rfl rfl dX5_sideOf_14 ?_
    refine x_iald hO (gr_5_5 hx0) dX5_sideOf_15 ?_
    exact x_iret hO rfl dX5_sideOf_16 (hR _)
theorem ok_X5_sideOf (G : Gl) (h : Hp) (x0 : Nat) (x1 : Int32) (hx0 : Is x0 5) : CN G mX5_sideOf [.ref (gb G + x0), .int x1] h ((F_X5_sideOf h x0 x1).map (emHI)) := CN.fn pn_RX5 (Nat.le_of_ble_eq_true rfl) (fun Γ hG hO => by subst hG; exact go_X5_sideOf hO h x0 x1 hx0 (fun _ q => q))
noncomputable def B_X5_takeDeck_13 (h : Hp) (x0 : Nat) (x1 : Nat) (x2 : Int32) (x3 : Int32) (x4 : Int32) (x5 : Int32) : Option ((Hp × Int32 × Int32) ⊕ (Hp × Int32)) :=
  if (hI h x0 1) < x5 then some (.inr ((h, x4 &&& 1))) else gd (ib (x5 - ((1 : Int32))) (LEN (GR x1 7))) ((F_X2_fieldOf h x1 (hI h (GR x1 7) (nx (x5 - ((1 : Int32))))) x2 x3).bind (fun r1 => gd (ib x5 (LEN (GR x0 4))) (gd (ib (hI h (GR x1 7) (nx (x5 - ((1 : Int32))))) (LEN (GR x1 5))) (gd (ib x5 (LEN (GR x0 5))) (if x4 = 0 then some (.inl (uI (uI h (GR x0 4) (nx x5) r1) (GR x0 5) (nx x5) (hI (uI h (GR x0 4) (nx x5) r1) (GR x1 5) (nx (hI h (GR x1 7) (nx (x5 - ((1 : Int32))))))), (0 : Int32), x5 + (1 : Int32))) else gd (ib x5 (LEN (GR x0 4))) (if (hI (uI (uI h (GR x0 4) (nx x5) r1) (GR x0 5) (nx x5) (hI (uI h (GR x0 4) (nx x5) r1) (GR x1 5) (nx (hI h (GR x1 7) (nx (x5 - ((1 : Int32)))))))) (GR x0 4) (nx x5)) = ((-1 : Int32)) then some (.inl (uI (uI h (GR x0 4) (nx x5) r1) (GR x0 5) (nx x5) (hI (uI h (GR x0 4) (nx x5) r1) (GR x1 5) (nx (hI h (GR x1 7) (nx (x5 - ((1 : Int32))))))), (0 : Int32), x5 + (1 : Int32))) else some (.inl (uI (uI h (GR x0 4) (nx x5) r1) (GR x0 5) (nx x5) (hI (uI h (GR x0 4) (nx x5) r1) (GR x1 5) (nx (hI h (GR x1 7) (nx (x5 - ((1 : Int32))))))), (1 : Int32), x5 + (1 : Int32)))))))))
noncomputable def L_X5_takeDeck_13 (h : Hp) (x0 : Nat) (x1 : Nat) (x2 : Int32) (x3 : Int32) (x4 : Int32) (x5 : Int32) : Option (Hp × Int32) := iterW (fun s : Hp × Int32 × Int32 => B_X5_takeDeck_13 s.1 x0 x1 x2 x3 s.2.1 s.2.2) (h, x4, x5)
set_option maxHeartbeats 4000000 in
set_option maxRecDepth 100000 in
theorem go_X5_takeDeck_B13 {Γ : Cx} (hO : Ok Γ mX5_takeDeck) (h : Hp) (x0 : Nat) (x1 : Nat) (x2 : Int32) (x3 : Int32) (x4 : Int32) (x5 : Int32) (hx0 : Is x0 5) (hx1 : Is x1 2) {K : (Hp × Int32 × Int32) ⊕ (Hp × Int32) → Prop} (hC : ∀ (h : Hp) (x4 : Int32) (x5 : Int32), K (.inl (h, x4, x5)) → EW Γ mX5_takeDeck 13 [(0, rf Γ x0), (1, rf Γ x1), (2, .int x2), (3, .int x3), (4, .int x4), (5, .int x5)] [] h) (hR : ∀ r, K (.inr r) → emHI r = tgt Γ) : EG Γ mX5_takeDeck 13 [(0, rf Γ x0), (1, rf Γ x1), (2, .int x2), (3, .int x3), (4, .int x4), (5, .int x5)] [] h (B_X5_takeDeck_13 h x0 x1 x2 x3 x4 x5) K := by
  unfold B_X5_takeDeck_13
  refine x_iload hO 5 rfl dX5_takeDeck_13 ?_
  refine x_aload_n hO 0 rfl rfl dX5_takeDeck_15 ?_
  refine x_getI hO fl_RX5_15 hx0 dX5_takeDeck_16 ?_
  refine x_icmp_gt hO (tg := 91) dX5_takeDeck_19 (by decide) ?_ ?_
  · refine x_iload hO 4 rfl dX5_takeDeck_91 ?_
    exact x_zret hO rfl dX5_takeDeck_93 (hR _)
  · refine x_aload_n hO 1 rfl rfl dX5_takeDeck_22 ?_
    refine x_getR hO fl_RX5_49 hx1 dX5_takeDeck_23 ?_
    refine x_iload hO 5 rfl dX5_takeDeck_26 ?_
    refine x_iconst hO (v := 1) (by decide) dX5_takeDeck_28 ?_
    refine x_isub hO dX5_takeDeck_29 ?_
    refine x_iald hO (gr_2_7 hx1) dX5_takeDeck_30 ?_
    refine x_istore hO [(6, .int (hI h (GR x1 7) (nx (x5 - ((1 : Int32)))))), (0, rf Γ x0), (1, rf Γ x1), (2, .int x2), (3, .int x3), (4, .int x4), (5, .int x5)] dX5_takeDeck_31 (by decide) rfl ?_
    refine x_aload_n hO 1 rfl rfl dX5_takeDeck_33 ?_
    refine x_getR hO fl_RX5_26 hx0 dX5_takeDeck_34 ?_
    refine x_iload hO 6 rfl dX5_takeDeck_37 ?_
    refine x_aload_n hO 2 rfl rfl dX5_takeDeck_39 ?_
    refine x_iload hO 0 rfl dX5_takeDeck_40 ?_
    refine x_iload_n hO 3 rfl rfl dX5_takeDeck_42 ?_
    refine x_iload_n hO 4 rfl rfl dX5_takeDeck_43 ?_
    refine y_PI (x_callV hO lv_RX5_56 hx1 vc_2 (by decide) (As := [.int (hI h (GR x1 7) (nx (x5 - ((1 : Int32))))), .int x2, .int x3]) rfl (Nat.le_of_ble_eq_true rfl) (ok_X2_fieldOf (cG Γ) h x1 (hI h (GR x1 7) (nx (x5 - ((1 : Int32))))) x2 x3 hx1) dX5_takeDeck_44 rfl (Nat.le_of_ble_eq_true rfl)) (fun r1 => ?_)
    refine x_iast hO (gr_5_4 hx0) dX5_takeDeck_47 ?_
    refine x_aload_n hO 1 rfl rfl dX5_takeDeck_48 ?_
    refine x_getR hO fl_RX5_29 hx0 dX5_takeDeck_49 ?_
    refine x_iload hO 6 rfl dX5_takeDeck_52 ?_
    refine x_aload_n hO 2 rfl rfl dX5_takeDeck_54 ?_
    refine x_getR hO fl_RX5_60 hx1 dX5_takeDeck_55 ?_
    refine x_iload hO 0 rfl dX5_takeDeck_58 ?_
    refine x_iald hO (gr_2_5 hx1) dX5_takeDeck_60 ?_
    refine x_iast hO (gr_5_5 hx0) dX5_takeDeck_61 ?_
    refine x_iload hO 5 rfl dX5_takeDeck_62 ?_
    refine x_if_eq hO (tg := 82) dX5_takeDeck_64 (by decide) ?_ ?_
    · refine x_iconst hO (v := 0) (by decide) dX5_takeDeck_82 ?_
      refine x_istore hO [(4, .int ((0 : Int32))), (6, .int (hI h (GR x1 7) (nx (x5 - ((1 : Int32)))))), (0, rf Γ x0), (1, rf Γ x1), (2, .int x2), (3, .int x3), (5, .int x5)] dX5_takeDeck_83 (by decide) rfl ?_
      refine x_iinc hO 6 (v := 1) [(5, .int (x5 + (1 : Int32))), (4, .int ((0 : Int32))), (6, .int (hI h (GR x1 7) (nx (x5 - ((1 : Int32)))))), (0, rf Γ x0), (1, rf Γ x1), (2, .int x2), (3, .int x3)] dX5_takeDeck_85 rfl (by decide) (by decide) rfl ?_
      refine x_goto hO (tg := 13) dX5_takeDeck_88 (by decide) ?_
      exact x_leafs [3, 4, 5, 6, 1, 0] rfl (hC (uI (uI h (GR x0 4) (nx x5) r1) (GR x0 5) (nx x5) (hI (uI h (GR x0 4) (nx x5) r1) (GR x1 5) (nx (hI h (GR x1 7) (nx (x5 - ((1 : Int32)))))))) ((0 : Int32)) (x5 + (1 : Int32)))
    · refine x_aload_n hO 1 rfl rfl dX5_takeDeck_67 ?_
      refine x_getR hO fl_RX5_26 hx0 dX5_takeDeck_68 ?_
      refine x_iload hO 6 rfl dX5_takeDeck_71 ?_
      refine x_iald hO (gr_5_4 hx0) dX5_takeDeck_73 ?_
      refine x_iconst hO (v := -1) (by decide) dX5_takeDeck_74 ?_
      refine x_icmp_eq hO (tg := 82) dX5_takeDeck_75 (by decide) ?_ ?_
      · refine x_iconst hO (v := 0) (by decide) dX5_takeDeck_82 ?_
        refine x_istore hO [(4, .int ((0 : Int32))), (6, .int (hI h (GR x1 7) (nx (x5 - ((1 : Int32)))))), (0, rf Γ x0), (1, rf Γ x1), (2, .int x2), (3, .int x3), (5, .int x5)] dX5_takeDeck_83 (by decide) rfl ?_
        refine x_iinc hO 6 (v := 1) [(5, .int (x5 + (1 : Int32))), (4, .int ((0 : Int32))), (6, .int (hI h (GR x1 7) (nx (x5 - ((1 : Int32)))))), (0, rf Γ x0), (1, rf Γ x1), (2, .int x2), (3, .int x3)] dX5_takeDeck_85 rfl (by decide) (by decide) rfl ?_
        refine x_goto hO (tg := 13) dX5_takeDeck_88 (by decide) ?_
        exact x_leafs [3, 4, 5, 6, 1, 0] rfl (hC (uI (uI h (GR x0 4) (nx x5) r1) (GR x0 5) (nx x5) (hI (uI h (GR x0 4) (nx x5) r1) (GR x1 5) (nx (hI h (GR x1 7) (nx (x5 - ((1 : Int32)))))))) ((0 : Int32)) (x5 + (1 : Int32)))
      · refine x_iconst hO (v := 1) (by decide) dX5_takeDeck_78 ?_
        refine x_goto hO (tg := 83) dX5_takeDeck_79 (by decide) ?_
        refine x_istore hO [(4, .int ((1 : Int32))), (6, .int (hI h (GR x1 7) (nx (x5 - ((1 : Int32)))))), (0, rf Γ x0), (1, rf Γ x1), (2, .int x2), (3, .int x3), (5, .int x5)] dX5_takeDeck_83 (by decide) rfl ?_
        refine x_iinc hO 6 (v := 1) [(5, .int (x5 + (1 : Int32))), (4, .int ((1 : Int32))), (6, .int (hI h (GR x1 7) (nx (x5 - ((1 : Int32)))))), (0, rf Γ x0), (1, rf Γ x1), (2, .int x2), (3, .int x3)] dX5_takeDeck_85 rfl (by decide) (by decide) rfl ?_
        refine x_goto hO (tg := 13) dX5_takeDeck_88 (by decide) ?_
        exact x_leafs [3, 4, 5, 6, 1, 0] rfl (hC (uI (uI h (GR x0 4) (nx x5) r1) (GR x0 5) (nx x5) (hI (uI h (GR x0 4) (nx x5) r1) (GR x1 5) (nx (hI h (GR x1 7) (nx (x5 - ((1 : Int32)))))))) ((1 : Int32)) (x5 + (1 : Int32)))
set_option maxHeartbeats 4000000 in
set_option maxRecDepth 100000 in
theorem go_X5_takeDeck_L13 {Γ : Cx} (hO : Ok Γ mX5_takeDeck) (h : Hp) (x0 : Nat) (x1 : Nat) (x2 : Int32) (x3 : Int32) (x4 : Int32) (x5 : Int32) (hx0 : Is x0 5) (hx1 : Is x1 2) {K : Hp × Int32 → Prop} (hR : ∀ r, K (r) → emHI r = tgt Γ) : EG Γ mX5_takeDeck 13 [(0, rf Γ x0), (1, rf Γ x1), (2, .int x2), (3, .int x3), (4, .int x4), (5, .int x5)] [] h (L_X5_takeDeck_13 h x0 x1 x2 x3 x4 x5) K := by
  have q := x_loop (Γ := Γ) (M := mX5_takeDeck) (pc := 13) (B := fun s : Hp × Int32 × Int32 => B_X5_takeDeck_13 s.1 x0 x1 x2 x3 s.2.1 s.2.2) (lvf := fun s => [(0, rf Γ x0), (1, rf Γ x1), (2, .int x2), (3, .int x3), (4, .int s.2.1), (5, .int s.2.2)]) (hf := fun s => s.1) (Ky := K) (fun s => go_X5_takeDeck_B13 hO s.1 x0 x1 x2 x3 s.2.1 s.2.2 hx0 hx1 (fun _ _ _ => id) hR) (h, x4, x5)
  exact q
noncomputable def F_X5_takeDeck (h : Hp) (x0 : Nat) (x1 : Nat) (x2 : Int32) (x3 : Int32) : Option (Hp × Int32) :=
  gd (ib ((0 : Int32)) (LEN (GR x0 4))) (L_X5_takeDeck_13 (uI h (GR x0 4) (nx ((0 : Int32))) ((-1 : Int32))) x0 x1 x2 x3 ((1 : Int32)) ((1 : Int32)))
set_option maxHeartbeats 4000000 in
set_option maxRecDepth 100000 in
theorem go_X5_takeDeck {Γ : Cx} (hO : Ok Γ mX5_takeDeck) (h : Hp) (x0 : Nat) (x1 : Nat) (x2 : Int32) (x3 : Int32) (hx0 : Is x0 5) (hx1 : Is x1 2) {K : Hp × Int32 → Prop} (hR : ∀ r, K r → emHI r = tgt Γ) : EG Γ mX5_takeDeck 0 [(0, rf Γ x0), (1, rf Γ x1), (2, .int x2), (3, .int x3)] [] h (F_X5_takeDeck h x0 x1 x2 x3) K := by
  unfold F_X5_takeDeck
  refine x_iconst hO (v := 1) (by decide) dX5_takeDeck_0 ?_
  refine x_istore hO [(4, .int ((1 : Int32))), (0, rf Γ x0), (1, rf Γ x1), (2, .int x2), (3, .int x3)] dX5_takeDeck_1 (by decide) rfl ?_
  refine x_aload_n hO 1 rfl rfl dX5_takeDeck_3 ?_
  refine x_getR hO fl_RX5_26 hx0 dX5_takeDeck_4 ?_
  refine x_iconst hO (v := 0) (by decide) dX5_takeDeck_7 ?_
  refine x_iconst hO (v := -1) (by decide) dX5_takeDeck_8 ?_
  refine x_iast hO (gr_5_4 hx0) dX5_takeDeck_9 ?_
  refine x_iconst hO (v := 1) (by decide) dX5_takeDeck_10 ?_
  refine x_istore hO [(5, .int ((1 : Int32))), (4, .int ((1 : Int32))), (0, rf Γ x0), (1, rf Γ x1), (2, .int x2), (3, .int x3)] dX5_takeDeck_11 (by decide) rfl ?_
  exact x_sub [2, 3, 4, 5, 1, 0] rfl (go_X5_takeDeck_L13 hO (uI h (GR x0 4) (nx ((0 : Int32))) ((-1 : Int32))) x0 x1 x2 x3 ((1 : Int32)) ((1 : Int32)) hx0 hx1 hR)
theorem ok_X5_takeDeck (G : Gl) (h : Hp) (x0 : Nat) (x1 : Nat) (x2 : Int32) (x3 : Int32) (hx0 : Is x0 5) (hx1 : Is x1 2) : CN G mX5_takeDeck [.ref (gb G + x0), .ref (gb G + x1), .int x2, .int x3] h ((F_X5_takeDeck h x0 x1 x2 x3).map (emHI)) := CN.fn pn_RX5 (Nat.le_of_ble_eq_true rfl) (fun Γ hG hO => by subst hG; exact go_X5_takeDeck hO h x0 x1 x2 x3 hx0 hx1 (fun _ q => q))
noncomputable def B_X6_takeKey_12 (h : Hp) (x0 : Nat) (x1 : Nat) (x2 : Nat) (x4 : Int32) : Option ((Hp × Int32) ⊕ (Hp)) :=
  if (hI h x0 1) ≤ x4 then some (.inr h) else gd (ib x4 (LEN x2)) (gd (ib x4 (LEN (GR x0 0))) (some (.inl (uI h (GR x0 0) (nx x4) ((hL h x2 (nx x4)).toInt32), x4 + (1 : Int32)))))
noncomputable def L_X6_takeKey_12 (h : Hp) (x0 : Nat) (x1 : Nat) (x2 : Nat) (x4 : Int32) : Option (Hp) := iterW (fun s : Hp × Int32 => B_X6_takeKey_12 s.1 x0 x1 x2 s.2) (h, x4)
set_option maxHeartbeats 4000000 in
set_option maxRecDepth 100000 in
theorem go_X6_takeKey_B12 {Γ : Cx} (hO : Ok Γ mX6_takeKey) (h : Hp) (x0 : Nat) (x1 : Nat) (x2 : Nat) (x4 : Int32) (hx0 : Is x0 6) (hx1 : Is x1 2) (hx2 : Is x2 15) {K : (Hp × Int32) ⊕ (Hp) → Prop} (hC : ∀ (h : Hp) (x4 : Int32), K (.inl (h, x4)) → EW Γ mX6_takeKey 12 [(0, rf Γ x0), (1, rf Γ x1), (2, rf Γ x2), (4, .int x4)] [] h) (hE39 : ∀ (h : Hp), K (.inr h) → EW Γ mX6_takeKey 39 [(0, rf Γ x0), (1, rf Γ x1)] [] h) : EG Γ mX6_takeKey 12 [(0, rf Γ x0), (1, rf Γ x1), (2, rf Γ x2), (4, .int x4)] [] h (B_X6_takeKey_12 h x0 x1 x2 x4) K := by
  unfold B_X6_takeKey_12
  refine x_iload hO 3 rfl dX6_takeKey_12 ?_
  refine x_aload_n hO 0 rfl rfl dX6_takeKey_14 ?_
  refine x_getI hO fl_RX6_15 hx0 dX6_takeKey_15 ?_
  refine x_icmp_ge hO (tg := 39) dX6_takeKey_18 (by decide) ?_ ?_
  · exact x_leafs [0, 1] rfl (hE39 h)
  · refine x_aload_n hO 0 rfl rfl dX6_takeKey_21 ?_
    refine x_getR hO fl_RX6_9 hx0 dX6_takeKey_22 ?_
    refine x_iload hO 3 rfl dX6_takeKey_25 ?_
    refine x_aload_n hO 2 rfl rfl dX6_takeKey_27 ?_
    refine x_iload hO 3 rfl dX6_takeKey_28 ?_
    refine x_lald hO hx2 dX6_takeKey_30 ?_
    refine x_l2i hO dX6_takeKey_31 ?_
    refine x_iast hO (gr_6_0 hx0) dX6_takeKey_32 ?_
    refine x_iinc hO 3 (v := 1) [(4, .int (x4 + (1 : Int32))), (0, rf Γ x0), (1, rf Γ x1), (2, rf Γ x2)] dX6_takeKey_33 rfl (by decide) (by decide) rfl ?_
    refine x_goto hO (tg := 12) dX6_takeKey_36 (by decide) ?_
    exact x_leafs [1, 2, 3, 0] rfl (hC (uI h (GR x0 0) (nx x4) ((hL h x2 (nx x4)).toInt32)) (x4 + (1 : Int32)))
set_option maxHeartbeats 4000000 in
set_option maxRecDepth 100000 in
theorem go_X6_takeKey_L12 {Γ : Cx} (hO : Ok Γ mX6_takeKey) (h : Hp) (x0 : Nat) (x1 : Nat) (x2 : Nat) (x4 : Int32) (hx0 : Is x0 6) (hx1 : Is x1 2) (hx2 : Is x2 15) {K : Hp → Prop} (hE39 : ∀ (h : Hp), K (h) → EW Γ mX6_takeKey 39 [(0, rf Γ x0), (1, rf Γ x1)] [] h) : EG Γ mX6_takeKey 12 [(0, rf Γ x0), (1, rf Γ x1), (2, rf Γ x2), (4, .int x4)] [] h (L_X6_takeKey_12 h x0 x1 x2 x4) K := by
  have q := x_loop (Γ := Γ) (M := mX6_takeKey) (pc := 12) (B := fun s : Hp × Int32 => B_X6_takeKey_12 s.1 x0 x1 x2 s.2) (lvf := fun s => [(0, rf Γ x0), (1, rf Γ x1), (2, rf Γ x2), (4, .int s.2)]) (hf := fun s => s.1) (Ky := K) (fun s => go_X6_takeKey_B12 hO s.1 x0 x1 x2 s.2 hx0 hx1 hx2 (fun _ _ => id) hE39) (h, x4)
  exact q
noncomputable def B_X6_takeKey_57 (h : Hp) (x0 : Nat) (x1 : Nat) (x4 : Int32) (x5 : Int32) (x6 : Int32) : Option ((Int32 × Int32) ⊕ (Int32)) :=
  if (hI h x0 1) ≤ x6 then some (.inr x5) else gd (ib x6 (LEN (GR x0 0))) ((F_X6_taken h x1 x4 (hI h (GR x0 0) (nx x6))).bind (fun r1 => some (.inl ((x5 * ((16 : Int32))) + r1, x6 + (1 : Int32)))))
noncomputable def L_X6_takeKey_57 (h : Hp) (x0 : Nat) (x1 : Nat) (x4 : Int32) (x5 : Int32) (x6 : Int32) : Option (Int32) := iterW (fun s : Int32 × Int32 => B_X6_takeKey_57 h x0 x1 x4 s.1 s.2) (x5, x6)
set_option maxHeartbeats 4000000 in
set_option maxRecDepth 100000 in
theorem go_X6_takeKey_B57 {Γ : Cx} (hO : Ok Γ mX6_takeKey) (h : Hp) (x0 : Nat) (x1 : Nat) (x4 : Int32) (x5 : Int32) (x6 : Int32) (hx0 : Is x0 6) (hx1 : Is x1 2) {K : (Int32 × Int32) ⊕ (Int32) → Prop} (hC : ∀ (x5 : Int32) (x6 : Int32), K (.inl (x5, x6)) → EW Γ mX6_takeKey 57 [(0, rf Γ x0), (1, rf Γ x1), (4, .int x4), (5, .int x5), (6, .int x6)] [] h) (hE93 : ∀ (x5 : Int32), K (.inr x5) → EW Γ mX6_takeKey 93 [(0, rf Γ x0), (1, rf Γ x1), (4, .int x4), (5, .int x5)] [] h) : EG Γ mX6_takeKey 57 [(0, rf Γ x0), (1, rf Γ x1), (4, .int x4), (5, .int x5), (6, .int x6)] [] h (B_X6_takeKey_57 h x0 x1 x4 x5 x6) K := by
  unfold B_X6_takeKey_57
  refine x_iload hO 4 rfl dX6_takeKey_57 ?_
  refine x_aload_n hO 0 rfl rfl dX6_takeKey_59 ?_
  refine x_getI hO fl_RX6_15 hx0 dX6_takeKey_60 ?_
  refine x_icmp_ge hO (tg := 93) dX6_takeKey_63 (by decide) ?_ ?_
  · exact x_leafs [0, 1, 2, 3] rfl (hE93 x5)
  · refine x_iload hO 3 rfl dX6_takeKey_66 ?_
    refine x_bipush hO (v := 16) (by decide) dX6_takeKey_68 ?_
    refine x_imul hO dX6_takeKey_70 ?_
    refine x_aload_n hO 1 rfl rfl dX6_takeKey_71 ?_
    refine x_iload hO 2 rfl dX6_takeKey_72 ?_
    refine x_aload_n hO 0 rfl rfl dX6_takeKey_74 ?_
    refine x_getR hO fl_RX6_9 hx0 dX6_takeKey_75 ?_
    refine x_iload hO 4 rfl dX6_takeKey_78 ?_
    refine x_iald hO (gr_6_0 hx0) dX6_takeKey_80 ?_
    refine y_PI (x_callS hO lt_RX6_58 (As := [rf Γ x1, .int x4, .int (hI h (GR x0 0) (nx x6))]) rfl (Nat.le_of_ble_eq_true rfl) (ok_X6_taken (cG Γ) h x1 x4 (hI h (GR x0 0) (nx x6)) hx1) dX6_takeKey_81 rfl (Nat.le_of_ble_eq_true rfl)) (fun r1 => ?_)
    refine x_iadd hO dX6_takeKey_84 ?_
    refine x_istore hO [(5, .int ((x5 * ((16 : Int32))) + r1)), (0, rf Γ x0), (1, rf Γ x1), (4, .int x4), (6, .int x6)] dX6_takeKey_85 (by decide) rfl ?_
    refine x_iinc hO 4 (v := 1) [(6, .int (x6 + (1 : Int32))), (5, .int ((x5 * ((16 : Int32))) + r1)), (0, rf Γ x0), (1, rf Γ x1), (4, .int x4)] dX6_takeKey_87 rfl (by decide) (by decide) rfl ?_
    refine x_goto hO (tg := 57) dX6_takeKey_90 (by decide) ?_
    exact x_leafs [2, 3, 4, 1, 0] rfl (hC ((x5 * ((16 : Int32))) + r1) (x6 + (1 : Int32)))
set_option maxHeartbeats 4000000 in
set_option maxRecDepth 100000 in
theorem go_X6_takeKey_L57 {Γ : Cx} (hO : Ok Γ mX6_takeKey) (h : Hp) (x0 : Nat) (x1 : Nat) (x4 : Int32) (x5 : Int32) (x6 : Int32) (hx0 : Is x0 6) (hx1 : Is x1 2) {K : Int32 → Prop} (hE93 : ∀ (x5 : Int32), K (x5) → EW Γ mX6_takeKey 93 [(0, rf Γ x0), (1, rf Γ x1), (4, .int x4), (5, .int x5)] [] h) : EG Γ mX6_takeKey 57 [(0, rf Γ x0), (1, rf Γ x1), (4, .int x4), (5, .int x5), (6, .int x6)] [] h (L_X6_takeKey_57 h x0 x1 x4 x5 x6) K := by
  have q := x_loop (Γ := Γ) (M := mX6_takeKey) (pc := 57) (B := fun s : Int32 × Int32 => B_X6_takeKey_57 h x0 x1 x4 s.1 s.2) (lvf := fun s => [(0, rf Γ x0), (1, rf Γ x1), (4, .int x4), (5, .int s.1), (6, .int s.2)]) (hf := fun s => h) (Ky := K) (fun s => go_X6_takeKey_B57 hO h x0 x1 x4 s.1 s.2 hx0 hx1 (fun _ _ => id) hE93) (x5, x6)
  exact q
noncomputable def B_X6_takeKey_42 (h : Hp) (x0 : Nat) (x1 : Nat) (x4 : Int32) : Option ((Hp × Int32) ⊕ (Hp)) :=
  if (hI h x1 0) ≤ x4 then some (.inr h) else (L_X6_takeKey_57 h x0 x1 x4 ((0 : Int32)) ((0 : Int32))).bind (fun e1 => gd (ib x4 (LEN (GR x0 2))) (some (.inl (uI h (GR x0 2) (nx x4) e1, x4 + (1 : Int32)))))
noncomputable def L_X6_takeKey_42 (h : Hp) (x0 : Nat) (x1 : Nat) (x4 : Int32) : Option (Hp) := iterW (fun s : Hp × Int32 => B_X6_takeKey_42 s.1 x0 x1 s.2) (h, x4)
set_option maxHeartbeats 4000000 in
set_option maxRecDepth 100000 in
theorem go_X6_takeKey_B42 {Γ : Cx} (hO : Ok Γ mX6_takeKey) (h : Hp) (x0 : Nat) (x1 : Nat) (x4 : Int32) (hx0 : Is x0 6) (hx1 : Is x1 2) {K : (Hp × Int32) ⊕ (Hp) → Prop} (hC : ∀ (h : Hp) (x4 : Int32), K (.inl (h, x4)) → EW Γ mX6_takeKey 42 [(0, rf Γ x0), (1, rf Γ x1), (4, .int x4)] [] h) (hR : ∀ r, K (.inr r) → emHV r = tgt Γ) : EG Γ mX6_takeKey 42 [(0, rf Γ x0), (1, rf Γ x1), (4, .int x4)] [] h (B_X6_takeKey_42 h x0 x1 x4) K := by
  unfold B_X6_takeKey_42
  refine x_iload hO 2 rfl dX6_takeKey_42 ?_
  refine x_aload_n hO 1 rfl rfl dX6_takeKey_44 ?_
  refine x_getI hO fl_RX6_53 hx1 dX6_takeKey_45 ?_
  refine x_icmp_ge hO (tg := 108) dX6_takeKey_48 (by decide) ?_ ?_
  · exact x_vret hO rfl dX6_takeKey_108 (hR _)
  · refine x_iconst hO (v := 0) (by decide) dX6_takeKey_51 ?_
    refine x_istore hO [(5, .int ((0 : Int32))), (0, rf Γ x0), (1, rf Γ x1), (4, .int x4)] dX6_takeKey_52 (by decide) rfl ?_
    refine x_iconst hO (v := 0) (by decide) dX6_takeKey_54 ?_
    refine x_istore hO [(6, .int ((0 : Int32))), (5, .int ((0 : Int32))), (0, rf Γ x0), (1, rf Γ x1), (4, .int x4)] dX6_takeKey_55 (by decide) rfl ?_
    refine x_bind (x_sub [2, 3, 4, 1, 0] rfl (go_X6_takeKey_L57 hO h x0 x1 x4 ((0 : Int32)) ((0 : Int32)) hx0 hx1 (fun y1_0 hx => ?_)))
    refine x_run (t := (gd (ib x4 (LEN (GR x0 2))) (some (.inl (uI h (GR x0 2) (nx x4) y1_0, x4 + (1 : Int32)))) : Option ((Hp × Int32) ⊕ (Hp)))) hx ?_
    refine x_aload_n hO 0 rfl rfl dX6_takeKey_93 ?_
    refine x_getR hO fl_RX6_19 hx0 dX6_takeKey_94 ?_
    refine x_iload hO 2 rfl dX6_takeKey_97 ?_
    refine x_iload hO 3 rfl dX6_takeKey_99 ?_
    refine x_iast hO (gr_6_2 hx0) dX6_takeKey_101 ?_
    refine x_iinc hO 2 (v := 1) [(4, .int (x4 + (1 : Int32))), (0, rf Γ x0), (1, rf Γ x1), (5, .int y1_0)] dX6_takeKey_102 rfl (by decide) (by decide) rfl ?_
    refine x_goto hO (tg := 42) dX6_takeKey_105 (by decide) ?_
    exact x_leafs [1, 2, 0] rfl (hC (uI h (GR x0 2) (nx x4) y1_0) (x4 + (1 : Int32)))
set_option maxHeartbeats 4000000 in
set_option maxRecDepth 100000 in
theorem go_X6_takeKey_L42 {Γ : Cx} (hO : Ok Γ mX6_takeKey) (h : Hp) (x0 : Nat) (x1 : Nat) (x4 : Int32) (hx0 : Is x0 6) (hx1 : Is x1 2) {K : Hp → Prop} (hR : ∀ r, K (r) → emHV r = tgt Γ) : EG Γ mX6_takeKey 42 [(0, rf Γ x0), (1, rf Γ x1), (4, .int x4)] [] h (L_X6_takeKey_42 h x0 x1 x4) K := by
  have q := x_loop (Γ := Γ) (M := mX6_takeKey) (pc := 42) (B := fun s : Hp × Int32 => B_X6_takeKey_42 s.1 x0 x1 s.2) (lvf := fun s => [(0, rf Γ x0), (1, rf Γ x1), (4, .int s.2)]) (hf := fun s => s.1) (Ky := K) (fun s => go_X6_takeKey_B42 hO s.1 x0 x1 s.2 hx0 hx1 (fun _ _ => id) hR) (h, x4)
  exact q
noncomputable def F_X6_takeKey (h : Hp) (x0 : Nat) (x1 : Nat) (x2 : Nat) (x3 : Int32) : Option (Hp) :=
  (L_X6_takeKey_12 (uI h x0 1 (if ((4 : Int32)) < x3 then ((4 : Int32)) else x3)) x0 x1 x2 ((0 : Int32))).bind (fun e1 => L_X6_takeKey_42 e1 x0 x1 ((0 : Int32)))
set_option maxHeartbeats 4000000 in
set_option maxRecDepth 100000 in
theorem go_X6_takeKey {Γ : Cx} (hO : Ok Γ mX6_takeKey) (h : Hp) (x0 : Nat) (x1 : Nat) (x2 : Nat) (x3 : Int32) (hx0 : Is x0 6) (hx1 : Is x1 2) (hx2 : Is x2 15) {K : Hp → Prop} (hR : ∀ r, K r → emHV r = tgt Γ) : EG Γ mX6_takeKey 0 [(0, rf Γ x0), (1, rf Γ x1), (2, rf Γ x2), (3, .int x3)] [] h (F_X6_takeKey h x0 x1 x2 x3) K := by
  unfold F_X6_takeKey
  refine x_aload_n hO 0 rfl rfl dX6_takeKey_0 ?_
  refine x_iload_n hO 3 rfl rfl dX6_takeKey_1 ?_
  refine x_iconst hO (v := 4) (by decide) dX6_takeKey_2 ?_
  refine x_mmin hO lm_RX6_47 (Nat.le_of_ble_eq_true rfl) (Nat.le_of_ble_eq_true rfl) dX6_takeKey_3 ?_
  refine x_putI hO fl_RX6_15 hx0 dX6_takeKey_6 ?_
  refine x_iconst hO (v := 0) (by decide) dX6_takeKey_9 ?_
  refine x_istore hO [(4, .int ((0 : Int32))), (0, rf Γ x0), (1, rf Γ x1), (2, rf Γ x2), (3, .int x3)] dX6_takeKey_10 (by decide) rfl ?_
  refine x_bind (x_sub [1, 2, 3, 0] rfl (go_X6_takeKey_L12 hO (uI h x0 1 (if ((4 : Int32)) < x3 then ((4 : Int32)) else x3)) x0 x1 x2 ((0 : Int32)) hx0 hx1 hx2 (fun y1_0 hx => ?_)))
  refine x_run (t := (L_X6_takeKey_42 y1_0 x0 x1 ((0 : Int32)) : Option (Hp))) hx ?_
  refine x_iconst hO (v := 0) (by decide) dX6_takeKey_39 ?_
  refine x_istore hO [(4, .int ((0 : Int32))), (0, rf Γ x0), (1, rf Γ x1)] dX6_takeKey_40 (by decide) rfl ?_
  exact x_sub [1, 2, 0] rfl (go_X6_takeKey_L42 hO y1_0 x0 x1 ((0 : Int32)) hx0 hx1 hR)
theorem ok_X6_takeKey (G : Gl) (h : Hp) (x0 : Nat) (x1 : Nat) (x2 : Nat) (x3 : Int32) (hx0 : Is x0 6) (hx1 : Is x1 2) (hx2 : Is x2 15) : CN G mX6_takeKey [.ref (gb G + x0), .ref (gb G + x1), .ref (gb G + x2), .int x3] h ((F_X6_takeKey h x0 x1 x2 x3).map (emHV)) := CN.fn pn_RX6 (Nat.le_of_ble_eq_true rfl) (fun Γ hG hO => by subst hG; exact go_X6_takeKey hO h x0 x1 x2 x3 hx0 hx1 hx2 (fun _ q => q))
noncomputable def B_X6_tryRow_21 (h : Hp) (x0 : Nat) (x1 : Nat) (x2 : Nat) (x3 : Int32) (x4 : Int32) (x5 : Int32) : Option ((Hp × Int32 × Int32) ⊕ (Hp × Int32)) :=
  if x3 ≤ x5 then some (.inr ((h, x4))) else gd (ib x5 (LEN (GR x0 5))) ((F_X3_sortRow h x2 x1 (GR x0 6) (hI h x1 0) (hI h (GR x0 5) (nx x5))).bind (fun r1 => some (.inl (r1.1, x4 + r1.2, x5 + (1 : Int32)))))
noncomputable def L_X6_tryRow_21 (h : Hp) (x0 : Nat) (x1 : Nat) (x2 : Nat) (x3 : Int32) (x4 : Int32) (x5 : Int32) : Option (Hp × Int32) := iterW (fun s : Hp × Int32 × Int32 => B_X6_tryRow_21 s.1 x0 x1 x2 x3 s.2.1 s.2.2) (h, x4, x5)
set_option maxHeartbeats 4000000 in
set_option maxRecDepth 100000 in
theorem go_X6_tryRow_B21 {Γ : Cx} (hO : Ok Γ mX6_tryRow) (h : Hp) (x0 : Nat) (x1 : Nat) (x2 : Nat) (x3 : Int32) (x4 : Int32) (x5 : Int32) (hx0 : Is x0 6) (hx1 : Is x1 2) (hx2 : Is x2 3) {K : (Hp × Int32 × Int32) ⊕ (Hp × Int32) → Prop} (hC : ∀ (h : Hp) (x4 : Int32) (x5 : Int32), K (.inl (h, x4, x5)) → EW Γ mX6_tryRow 21 [(0, rf Γ x0), (1, rf Γ x1), (2, rf Γ x2), (3, .int x3), (4, .int x4), (5, .int x5)] [] h) (hE58 : ∀ (h : Hp) (x4 : Int32), K (.inr ((h, x4))) → EW Γ mX6_tryRow 58 [(0, rf Γ x0), (1, rf Γ x1), (4, .int x4)] [] h) : EG Γ mX6_tryRow 21 [(0, rf Γ x0), (1, rf Γ x1), (2, rf Γ x2), (3, .int x3), (4, .int x4), (5, .int x5)] [] h (B_X6_tryRow_21 h x0 x1 x2 x3 x4 x5) K := by
  unfold B_X6_tryRow_21
  refine x_iload hO 5 rfl dX6_tryRow_21 ?_
  refine x_iload_n hO 3 rfl rfl dX6_tryRow_23 ?_
  refine x_icmp_ge hO (tg := 58) dX6_tryRow_24 (by decide) ?_ ?_
  · exact x_leafs [0, 1, 4] rfl (hE58 h x4)
  · refine x_iload hO 4 rfl dX6_tryRow_27 ?_
    refine x_aload_n hO 2 rfl rfl dX6_tryRow_29 ?_
    refine x_aload_n hO 1 rfl rfl dX6_tryRow_30 ?_
    refine x_aload_n hO 0 rfl rfl dX6_tryRow_31 ?_
    refine x_getR hO fl_RX6_31 hx0 dX6_tryRow_32 ?_
    refine x_aload_n hO 1 rfl rfl dX6_tryRow_35 ?_
    refine x_getI hO fl_RX6_53 hx1 dX6_tryRow_36 ?_
    refine x_aload_n hO 0 rfl rfl dX6_tryRow_39 ?_
    refine x_getR hO fl_RX6_28 hx0 dX6_tryRow_40 ?_
    refine x_iload hO 5 rfl dX6_tryRow_43 ?_
    refine x_iald hO (gr_6_5 hx0) dX6_tryRow_45 ?_
    refine y_HI (x_callV hO lv_RX6_93 hx2 vc_3 (by decide) (As := [rf Γ x1, rf Γ (GR x0 6), .int (hI h x1 0), .int (hI h (GR x0 5) (nx x5))]) rfl (Nat.le_of_ble_eq_true rfl) (ok_X3_sortRow (cG Γ) h x2 x1 (GR x0 6) (hI h x1 0) (hI h (GR x0 5) (nx x5)) hx2 hx1 (gr_6_6 hx0)) dX6_tryRow_46 rfl (Nat.le_of_ble_eq_true rfl)) (fun r1 => ?_)
    refine x_iadd hO dX6_tryRow_49 ?_
    refine x_istore hO [(4, .int (x4 + r1.2)), (0, rf Γ x0), (1, rf Γ x1), (2, rf Γ x2), (3, .int x3), (5, .int x5)] dX6_tryRow_50 (by decide) rfl ?_
    refine x_iinc hO 5 (v := 1) [(5, .int (x5 + (1 : Int32))), (4, .int (x4 + r1.2)), (0, rf Γ x0), (1, rf Γ x1), (2, rf Γ x2), (3, .int x3)] dX6_tryRow_52 rfl (by decide) (by decide) rfl ?_
    refine x_goto hO (tg := 21) dX6_tryRow_55 (by decide) ?_
    exact x_leafs [2, 3, 4, 5, 1, 0] rfl (hC r1.1 (x4 + r1.2) (x5 + (1 : Int32)))
set_option maxHeartbeats 4000000 in
set_option maxRecDepth 100000 in
theorem go_X6_tryRow_L21 {Γ : Cx} (hO : Ok Γ mX6_tryRow) (h : Hp) (x0 : Nat) (x1 : Nat) (x2 : Nat) (x3 : Int32) (x4 : Int32) (x5 : Int32) (hx0 : Is x0 6) (hx1 : Is x1 2) (hx2 : Is x2 3) {K : Hp × Int32 → Prop} (hE58 : ∀ (h : Hp) (x4 : Int32), K ((h, x4)) → EW Γ mX6_tryRow 58 [(0, rf Γ x0), (1, rf Γ x1), (4, .int x4)] [] h) : EG Γ mX6_tryRow 21 [(0, rf Γ x0), (1, rf Γ x1), (2, rf Γ x2), (3, .int x3), (4, .int x4), (5, .int x5)] [] h (L_X6_tryRow_21 h x0 x1 x2 x3 x4 x5) K := by
  have q := x_loop (Γ := Γ) (M := mX6_tryRow) (pc := 21) (B := fun s : Hp × Int32 × Int32 => B_X6_tryRow_21 s.1 x0 x1 x2 x3 s.2.1 s.2.2) (lvf := fun s => [(0, rf Γ x0), (1, rf Γ x1), (2, rf Γ x2), (3, .int x3), (4, .int s.2.1), (5, .int s.2.2)]) (hf := fun s => s.1) (Ky := K) (fun s => go_X6_tryRow_B21 hO s.1 x0 x1 x2 x3 s.2.1 s.2.2 hx0 hx1 hx2 (fun _ _ _ => id) hE58) (h, x4, x5)
  exact q
noncomputable def F_X6_tryRow (h : Hp) (x0 : Nat) (x1 : Nat) (x2 : Nat) (x3 : Int32) : Option (Hp × Int32) :=
  gd (cpok ((0 : Int32)) ((0 : Int32)) ((30 : Int32)) (LEN (GR x1 7)) (LEN (GR x0 6))) ((L_X6_tryRow_21 (sI h (GR x0 6) (va_cpy (hI h (GR x1 7)) (hI h (GR x0 6)) (nx ((0 : Int32))) (nx ((0 : Int32))) (nx ((30 : Int32))))) x0 x1 x2 x3 ((0 : Int32)) ((0 : Int32))).bind (fun e1 => (F_X6_inOrder e1.1 x0 (GR x0 6) (hI e1.1 x1 0)).bind (fun r2 => if r2 = 0 then some ((e1.1, (-1 : Int32))) else some ((e1.1, e1.2)))))
set_option maxHeartbeats 4000000 in
set_option maxRecDepth 100000 in
theorem go_X6_tryRow {Γ : Cx} (hO : Ok Γ mX6_tryRow) (h : Hp) (x0 : Nat) (x1 : Nat) (x2 : Nat) (x3 : Int32) (hx0 : Is x0 6) (hx1 : Is x1 2) (hx2 : Is x2 3) {K : Hp × Int32 → Prop} (hR : ∀ r, K r → emHI r = tgt Γ) : EG Γ mX6_tryRow 0 [(0, rf Γ x0), (1, rf Γ x1), (2, rf Γ x2), (3, .int x3)] [] h (F_X6_tryRow h x0 x1 x2 x3) K := by
  unfold F_X6_tryRow
  refine x_aload_n hO 1 rfl rfl dX6_tryRow_0 ?_
  refine x_getR hO fl_RX6_90 hx1 dX6_tryRow_1 ?_
  refine x_iconst hO (v := 0) (by decide) dX6_tryRow_4 ?_
  refine x_aload_n hO 0 rfl rfl dX6_tryRow_5 ?_
  refine x_getR hO fl_RX6_31 hx0 dX6_tryRow_6 ?_
  refine x_iconst hO (v := 0) (by decide) dX6_tryRow_9 ?_
  refine x_bipush hO (v := 30) (by decide) dX6_tryRow_10 ?_
  refine x_copyI hO lc_RX6_84 (gr_2_7 hx1) (gr_6_6 hx0) (Nat.le_of_ble_eq_true rfl) (Nat.le_of_ble_eq_true rfl) dX6_tryRow_12 ?_
  refine x_iconst hO (v := 0) (by decide) dX6_tryRow_15 ?_
  refine x_istore hO [(4, .int ((0 : Int32))), (0, rf Γ x0), (1, rf Γ x1), (2, rf Γ x2), (3, .int x3)] dX6_tryRow_16 (by decide) rfl ?_
  refine x_iconst hO (v := 0) (by decide) dX6_tryRow_18 ?_
  refine x_istore hO [(5, .int ((0 : Int32))), (4, .int ((0 : Int32))), (0, rf Γ x0), (1, rf Γ x1), (2, rf Γ x2), (3, .int x3)] dX6_tryRow_19 (by decide) rfl ?_
  refine x_bind (x_sub [2, 3, 4, 5, 1, 0] rfl (go_X6_tryRow_L21 hO (sI h (GR x0 6) (va_cpy (hI h (GR x1 7)) (hI h (GR x0 6)) (nx ((0 : Int32))) (nx ((0 : Int32))) (nx ((30 : Int32))))) x0 x1 x2 x3 ((0 : Int32)) ((0 : Int32)) hx0 hx1 hx2 (fun y1_0 y1_1 hx => ?_)))
  refine x_run (t := ((F_X6_inOrder y1_0 x0 (GR x0 6) (hI y1_0 x1 0)).bind (fun r2 => if r2 = 0 then some ((y1_0, (-1 : Int32))) else some ((y1_0, y1_1))) : Option (Hp × Int32))) hx ?_
  refine x_aload_n hO 0 rfl rfl dX6_tryRow_58 ?_
  refine x_aload_n hO 0 rfl rfl dX6_tryRow_59 ?_
  refine x_getR hO fl_RX6_31 hx0 dX6_tryRow_60 ?_
  refine x_aload_n hO 1 rfl rfl dX6_tryRow_63 ?_
  refine x_getI hO fl_RX6_53 hx1 dX6_tryRow_64 ?_
  refine y_PI (x_callV hO lv_RX6_99 hx0 vc_6 (by decide) (As := [rf Γ (GR x0 6), .int (hI y1_0 x1 0)]) rfl (Nat.le_of_ble_eq_true rfl) (ok_X6_inOrder (cG Γ) y1_0 x0 (GR x0 6) (hI y1_0 x1 0) hx0 (gr_6_6 hx0)) dX6_tryRow_67 rfl (Nat.le_of_ble_eq_true rfl)) (fun r2 => ?_)
  refine x_if_eq hO (tg := 78) dX6_tryRow_70 (by decide) ?_ ?_
  · refine x_iconst hO (v := -1) (by decide) dX6_tryRow_78 ?_
    exact x_iret hO rfl dX6_tryRow_79 (hR _)
  · refine x_iload hO 2 rfl dX6_tryRow_73 ?_
    refine x_goto hO (tg := 79) dX6_tryRow_75 (by decide) ?_
    exact x_iret hO rfl dX6_tryRow_79 (hR _)
theorem ok_X6_tryRow (G : Gl) (h : Hp) (x0 : Nat) (x1 : Nat) (x2 : Nat) (x3 : Int32) (hx0 : Is x0 6) (hx1 : Is x1 2) (hx2 : Is x2 3) : CN G mX6_tryRow [.ref (gb G + x0), .ref (gb G + x1), .ref (gb G + x2), .int x3] h ((F_X6_tryRow h x0 x1 x2 x3).map (emHI)) := CN.fn pn_RX6 (Nat.le_of_ble_eq_true rfl) (fun Γ hG hO => by subst hG; exact go_X6_tryRow hO h x0 x1 x2 x3 hx0 hx1 hx2 (fun _ q => q))
noncomputable def F_X7_begin (h : Hp) (x0 : Nat) (x1 : Nat) (x2 : Int32) : Option (Hp) :=
  bnd (uI (uI (uI (uI (sT h x0 x1) x0 1 (if (nI (LEN x1)) < x2 then (nI (LEN x1)) else x2)) x0 3 ((0 : Int32))) x0 5 ((0 : Int32))) x0 6 ((-1 : Int32))) (fun h1 => (F_X7_advance h1 x0).bind (fun r2 => some r2))
set_option maxHeartbeats 4000000 in
set_option maxRecDepth 100000 in
theorem go_X7_begin {Γ : Cx} (hO : Ok Γ mX7_begin) (h : Hp) (x0 : Nat) (x1 : Nat) (x2 : Int32) (hx0 : Is x0 7) (hx1 : Is x1 14) {K : Hp → Prop} (hR : ∀ r, K r → emHV r = tgt Γ) : EG Γ mX7_begin 0 [(0, rf Γ x0), (1, rf Γ x1), (2, .int x2)] [] h (F_X7_begin h x0 x1 x2) K := by
  unfold F_X7_begin
  refine x_aload_n hO 0 rfl rfl dX7_begin_0 ?_
  refine x_aload_n hO 1 rfl rfl dX7_begin_1 ?_
  refine x_putT hO fl_RX7_9 rfl hx1 hx0 dX7_begin_2 ?_
  refine x_aload_n hO 0 rfl rfl dX7_begin_5 ?_
  refine x_iload_n hO 2 rfl rfl dX7_begin_6 ?_
  refine x_aload_n hO 1 rfl rfl dX7_begin_7 ?_
  refine x_alenI hO hx1 dX7_begin_8 ?_
  refine x_mmin hO lm_RX7_34 (Nat.le_of_ble_eq_true rfl) (Nat.le_of_ble_eq_true rfl) dX7_begin_9 ?_
  refine x_putI hO fl_RX7_15 hx0 dX7_begin_12 ?_
  refine x_aload_n hO 0 rfl rfl dX7_begin_15 ?_
  refine x_iconst hO (v := 0) (by decide) dX7_begin_16 ?_
  refine x_putI hO fl_RX7_22 hx0 dX7_begin_17 ?_
  refine x_aload_n hO 0 rfl rfl dX7_begin_20 ?_
  refine x_iconst hO (v := 0) (by decide) dX7_begin_21 ?_
  refine x_putI hO fl_RX7_28 hx0 dX7_begin_22 ?_
  refine x_aload_n hO 0 rfl rfl dX7_begin_25 ?_
  refine x_iconst hO (v := -1) (by decide) dX7_begin_26 ?_
  refine x_putI hO fl_RX7_31 hx0 dX7_begin_27 ?_
  refine x_bnd ?_
  generalize uI (uI (uI (uI (sT h x0 x1) x0 1 (if (nI (LEN x1)) < x2 then (nI (LEN x1)) else x2)) x0 3 ((0 : Int32))) x0 5 ((0 : Int32))) x0 6 ((-1 : Int32)) = h1
  refine x_aload_n hO 0 rfl rfl dX7_begin_30 ?_
  refine y_HV (x_callV hO lv_RX7_40 hx0 vc_7 (by decide) (As := []) rfl (Nat.le_of_ble_eq_true rfl) (ok_X7_advance (cG Γ) h1 x0 hx0) dX7_begin_31 rfl (Nat.le_of_ble_eq_true rfl)) (fun r2 => ?_)
  exact x_vret hO rfl dX7_begin_34 (hR _)
theorem ok_X7_begin (G : Gl) (h : Hp) (x0 : Nat) (x1 : Nat) (x2 : Int32) (hx0 : Is x0 7) (hx1 : Is x1 14) : CN G mX7_begin [.ref (gb G + x0), .ref (gb G + x1), .int x2] h ((F_X7_begin h x0 x1 x2).map (emHV)) := CN.fn pn_RX7 (Nat.le_of_ble_eq_true rfl) (fun Γ hG hO => by subst hG; exact go_X7_begin hO h x0 x1 x2 hx0 hx1 (fun _ q => q))
noncomputable def F_X7_takeSign (h : Hp) (x0 : Nat) : Option (Hp × Int32) :=
  if (hI h x0 4) = ((3 : Int32)) then (F_X7_advance h x0).bind (fun r1 => some ((r1, (1 : Int32)))) else (F_X7_misplaced h x0).bind (fun r2 => (F_X7_tell h x0 r2).bind (fun r3 => some ((r3.1, r3.2 &&& 1))))
set_option maxHeartbeats 4000000 in
set_option maxRecDepth 100000 in
theorem go_X7_takeSign {Γ : Cx} (hO : Ok Γ mX7_takeSign) (h : Hp) (x0 : Nat) (hx0 : Is x0 7) {K : Hp × Int32 → Prop} (hR : ∀ r, K r → emHI r = tgt Γ) : EG Γ mX7_takeSign 0 [(0, rf Γ x0)] [] h (F_X7_takeSign h x0) K := by
  unfold F_X7_takeSign
  refine x_aload_n hO 0 rfl rfl dX7_takeSign_0 ?_
  refine x_getI hO fl_RX7_25 hx0 dX7_takeSign_1 ?_
  refine x_iconst hO (v := 3) (by decide) dX7_takeSign_4 ?_
  refine x_icmp_eq hO (tg := 17) dX7_takeSign_5 (by decide) ?_ ?_
  · refine x_aload_n hO 0 rfl rfl dX7_takeSign_17 ?_
    refine y_HV (x_callV hO lv_RX7_40 hx0 vc_7 (by decide) (As := []) rfl (Nat.le_of_ble_eq_true rfl) (ok_X7_advance (cG Γ) h x0 hx0) dX7_takeSign_18 rfl (Nat.le_of_ble_eq_true rfl)) (fun r1 => ?_)
    refine x_iconst hO (v := 1) (by decide) dX7_takeSign_21 ?_
    exact x_zretv hO rfl (by decide) dX7_takeSign_22 (hR _)
  · refine x_aload_n hO 0 rfl rfl dX7_takeSign_8 ?_
    refine x_aload_n hO 0 rfl rfl dX7_takeSign_9 ?_
    refine y_PI (x_callV hO lv_RX7_75 hx0 vc_7 (by decide) (As := []) rfl (Nat.le_of_ble_eq_true rfl) (ok_X7_misplaced (cG Γ) h x0 hx0) dX7_takeSign_10 rfl (Nat.le_of_ble_eq_true rfl)) (fun r2 => ?_)
    refine y_HI (x_callV hO lv_RX7_78 hx0 vc_7 (by decide) (As := [.int r2]) rfl (Nat.le_of_ble_eq_true rfl) (ok_X7_tell (cG Γ) h x0 r2 hx0) dX7_takeSign_13 rfl (Nat.le_of_ble_eq_true rfl)) (fun r3 => ?_)
    exact x_zret hO rfl dX7_takeSign_16 (hR _)
theorem ok_X7_takeSign (G : Gl) (h : Hp) (x0 : Nat) (hx0 : Is x0 7) : CN G mX7_takeSign [.ref (gb G + x0)] h ((F_X7_takeSign h x0).map (emHI)) := CN.fn pn_RX7 (Nat.le_of_ble_eq_true rfl) (fun Γ hG hO => by subst hG; exact go_X7_takeSign hO h x0 hx0 (fun _ q => q))
noncomputable def F_X8_readFirst (h : Hp) (x0 : Nat) (x1 : Int32) (x2 : Int32) : Option (Hp × Int32) :=
  (F_X7_numberStands h (GR x0 0) x1 x2).bind (fun r1 => if r1.2 = 0 then some ((r1.1, (0 : Int32))) else (F_X7_numberHere r1.1 (GR x0 0)).bind (fun r2 => (F_X7_advance (uI r1.1 x0 4 r2) (GR x0 0)).bind (fun r3 => some ((r3, (1 : Int32))))))
set_option maxHeartbeats 4000000 in
set_option maxRecDepth 100000 in
theorem go_X8_readFirst {Γ : Cx} (hO : Ok Γ mX8_readFirst) (h : Hp) (x0 : Nat) (x1 : Int32) (x2 : Int32) (hx0 : Is x0 8) {K : Hp × Int32 → Prop} (hR : ∀ r, K r → emHI r = tgt Γ) : EG Γ mX8_readFirst 0 [(0, rf Γ x0), (1, .int x1), (2, .int x2)] [] h (F_X8_readFirst h x0 x1 x2) K := by
  unfold F_X8_readFirst
  refine x_aload_n hO 0 rfl rfl dX8_readFirst_0 ?_
  refine x_getR hO fl_RX8_12 hx0 dX8_readFirst_1 ?_
  refine x_iload_n hO 1 rfl rfl dX8_readFirst_4 ?_
  refine x_iload_n hO 2 rfl rfl dX8_readFirst_5 ?_
  refine y_HI (x_callV hO lv_RX8_129 (gr_8_0 hx0) vc_7 (by decide) (As := [.int x1, .int x2]) rfl (Nat.le_of_ble_eq_true rfl) (ok_X7_numberStands (cG Γ) h (GR x0 0) x1 x2 (gr_8_0 hx0)) dX8_readFirst_6 rfl (Nat.le_of_ble_eq_true rfl)) (fun r1 => ?_)
  refine x_if_ne hO (tg := 14) dX8_readFirst_9 (by decide) ?_ ?_
  · refine x_aload_n hO 0 rfl rfl dX8_readFirst_14 ?_
    refine x_aload_n hO 0 rfl rfl dX8_readFirst_15 ?_
    refine x_getR hO fl_RX8_12 hx0 dX8_readFirst_16 ?_
    refine y_PI (x_callV hO lv_RX8_132 (gr_8_0 hx0) vc_7 (by decide) (As := []) rfl (Nat.le_of_ble_eq_true rfl) (ok_X7_numberHere (cG Γ) r1.1 (GR x0 0) (gr_8_0 hx0)) dX8_readFirst_19 rfl (Nat.le_of_ble_eq_true rfl)) (fun r2 => ?_)
    refine x_putI hO fl_RX8_33 hx0 dX8_readFirst_22 ?_
    refine x_aload_n hO 0 rfl rfl dX8_readFirst_25 ?_
    refine x_getR hO fl_RX8_12 hx0 dX8_readFirst_26 ?_
    refine y_HV (x_callV hO lv_RX8_73 (gr_8_0 hx0) vc_7 (by decide) (As := []) rfl (Nat.le_of_ble_eq_true rfl) (ok_X7_advance (cG Γ) (uI r1.1 x0 4 r2) (GR x0 0) (gr_8_0 hx0)) dX8_readFirst_29 rfl (Nat.le_of_ble_eq_true rfl)) (fun r3 => ?_)
    refine x_iconst hO (v := 1) (by decide) dX8_readFirst_32 ?_
    exact x_zretv hO rfl (by decide) dX8_readFirst_33 (hR _)
  · refine x_iconst hO (v := 0) (by decide) dX8_readFirst_12 ?_
    exact x_zretv hO rfl (by decide) dX8_readFirst_13 (hR _)
theorem ok_X8_readFirst (G : Gl) (h : Hp) (x0 : Nat) (x1 : Int32) (x2 : Int32) (hx0 : Is x0 8) : CN G mX8_readFirst [.ref (gb G + x0), .int x1, .int x2] h ((F_X8_readFirst h x0 x1 x2).map (emHI)) := CN.fn pn_RX8 (Nat.le_of_ble_eq_true rfl) (fun Γ hG hO => by subst hG; exact go_X8_readFirst hO h x0 x1 x2 hx0 (fun _ q => q))
noncomputable def F_X8_readSecond (h : Hp) (x0 : Nat) (x1 : Int32) (x2 : Int32) : Option (Hp × Int32) :=
  (F_X7_numberStands h (GR x0 0) x1 x2).bind (fun r1 => if r1.2 = 0 then some ((r1.1, (0 : Int32))) else (F_X7_numberHere r1.1 (GR x0 0)).bind (fun r2 => (F_X7_advance (uI r1.1 x0 5 r2) (GR x0 0)).bind (fun r3 => some ((r3, (1 : Int32))))))
set_option maxHeartbeats 4000000 in
set_option maxRecDepth 100000 in
theorem go_X8_readSecond {Γ : Cx} (hO : Ok Γ mX8_readSecond) (h : Hp) (x0 : Nat) (x1 : Int32) (x2 : Int32) (hx0 : Is x0 8) {K : Hp × Int32 → Prop} (hR : ∀ r, K r → emHI r = tgt Γ) : EG Γ mX8_readSecond 0 [(0, rf Γ x0), (1, .int x1), (2, .int x2)] [] h (F_X8_readSecond h x0 x1 x2) K := by
  unfold F_X8_readSecond
  refine x_aload_n hO 0 rfl rfl dX8_readSecond_0 ?_
  refine x_getR hO fl_RX8_12 hx0 dX8_readSecond_1 ?_
  refine x_iload_n hO 1 rfl rfl dX8_readSecond_4 ?_
  refine x_iload_n hO 2 rfl rfl dX8_readSecond_5 ?_
  refine y_HI (x_callV hO lv_RX8_129 (gr_8_0 hx0) vc_7 (by decide) (As := [.int x1, .int x2]) rfl (Nat.le_of_ble_eq_true rfl) (ok_X7_numberStands (cG Γ) h (GR x0 0) x1 x2 (gr_8_0 hx0)) dX8_readSecond_6 rfl (Nat.le_of_ble_eq_true rfl)) (fun r1 => ?_)
  refine x_if_ne hO (tg := 14) dX8_readSecond_9 (by decide) ?_ ?_
  · refine x_aload_n hO 0 rfl rfl dX8_readSecond_14 ?_
    refine x_aload_n hO 0 rfl rfl dX8_readSecond_15 ?_
    refine x_getR hO fl_RX8_12 hx0 dX8_readSecond_16 ?_
    refine y_PI (x_callV hO lv_RX8_132 (gr_8_0 hx0) vc_7 (by decide) (As := []) rfl (Nat.le_of_ble_eq_true rfl) (ok_X7_numberHere (cG Γ) r1.1 (GR x0 0) (gr_8_0 hx0)) dX8_readSecond_19 rfl (Nat.le_of_ble_eq_true rfl)) (fun r2 => ?_)
    refine x_putI hO fl_RX8_36 hx0 dX8_readSecond_22 ?_
    refine x_aload_n hO 0 rfl rfl dX8_readSecond_25 ?_
    refine x_getR hO fl_RX8_12 hx0 dX8_readSecond_26 ?_
    refine y_HV (x_callV hO lv_RX8_73 (gr_8_0 hx0) vc_7 (by decide) (As := []) rfl (Nat.le_of_ble_eq_true rfl) (ok_X7_advance (cG Γ) (uI r1.1 x0 5 r2) (GR x0 0) (gr_8_0 hx0)) dX8_readSecond_29 rfl (Nat.le_of_ble_eq_true rfl)) (fun r3 => ?_)
    refine x_iconst hO (v := 1) (by decide) dX8_readSecond_32 ?_
    exact x_zretv hO rfl (by decide) dX8_readSecond_33 (hR _)
  · refine x_iconst hO (v := 0) (by decide) dX8_readSecond_12 ?_
    exact x_zretv hO rfl (by decide) dX8_readSecond_13 (hR _)
theorem ok_X8_readSecond (G : Gl) (h : Hp) (x0 : Nat) (x1 : Int32) (x2 : Int32) (hx0 : Is x0 8) : CN G mX8_readSecond [.ref (gb G + x0), .int x1, .int x2] h ((F_X8_readSecond h x0 x1 x2).map (emHI)) := CN.fn pn_RX8 (Nat.le_of_ble_eq_true rfl) (fun Γ hG hO => by subst hG; exact go_X8_readSecond hO h x0 x1 x2 hx0 (fun _ q => q))
noncomputable def F_X11_back (h : Hp) (x0 : Nat) : Option (Hp × Int32) :=
  if 0 < (hI h x0 14) then gd (ib (hI (uI h x0 14 ((hI h x0 14) - ((1 : Int32)))) x0 14) (LEN (GR x0 3))) ((F_X2_copyFrom (uI h x0 14 ((hI h x0 14) - ((1 : Int32)))) (GR x0 2) (GR (GR x0 3) (nx (hI (uI h x0 14 ((hI h x0 14) - ((1 : Int32)))) x0 14)))).bind (fun r2 => (F_X11_answer r2 x0 (hI r2 x0 14)).bind (fun r3 => some ((r3.1, r3.2))))) else (F_X11_refuse h x0 ((6 : Int32))).bind (fun r4 => some ((r4.1, r4.2)))
set_option maxHeartbeats 4000000 in
set_option maxRecDepth 100000 in
theorem go_X11_back {Γ : Cx} (hO : Ok Γ mX11_back) (h : Hp) (x0 : Nat) (hx0 : Is x0 11) {K : Hp × Int32 → Prop} (hR : ∀ r, K r → emHI r = tgt Γ) : EG Γ mX11_back 0 [(0, rf Γ x0)] [] h (F_X11_back h x0) K := by
  unfold F_X11_back
  refine x_aload_n hO 0 rfl rfl dX11_back_0 ?_
  refine x_getI hO fl_RX11_86 hx0 dX11_back_1 ?_
  refine x_if_gt hO (tg := 14) dX11_back_4 (by decide) ?_ ?_
  · refine x_aload_n hO 0 rfl rfl dX11_back_14 ?_
    refine x_dup_r hO dX11_back_15 ?_
    refine x_getI hO fl_RX11_86 hx0 dX11_back_16 ?_
    refine x_iconst hO (v := 1) (by decide) dX11_back_19 ?_
    refine x_isub hO dX11_back_20 ?_
    refine x_putI hO fl_RX11_86 hx0 dX11_back_21 ?_
    refine x_aload_n hO 0 rfl rfl dX11_back_24 ?_
    refine x_getR hO fl_RX11_22 hx0 dX11_back_25 ?_
    refine x_aload_n hO 0 rfl rfl dX11_back_28 ?_
    refine x_getR hO fl_RX11_26 hx0 dX11_back_29 ?_
    refine x_aload_n hO 0 rfl rfl dX11_back_32 ?_
    refine x_getI hO fl_RX11_86 hx0 dX11_back_33 ?_
    refine x_aaldH hO (gr_11_3 hx0) dX11_back_36 (fun q1 => ?_)
    refine y_HV (x_callV hO lv_RX11_395 (gr_11_2 hx0) vc_2 (by decide) (As := [rf Γ (GR (GR x0 3) (nx (hI (uI h x0 14 ((hI h x0 14) - ((1 : Int32)))) x0 14)))]) rfl (Nat.le_of_ble_eq_true rfl) (ok_X2_copyFrom (cG Γ) (uI h x0 14 ((hI h x0 14) - ((1 : Int32)))) (GR x0 2) (GR (GR x0 3) (nx (hI (uI h x0 14 ((hI h x0 14) - ((1 : Int32)))) x0 14))) (gr_11_2 hx0) q1) dX11_back_37 rfl (Nat.le_of_ble_eq_true rfl)) (fun r2 => ?_)
    refine x_aload_n hO 0 rfl rfl dX11_back_40 ?_
    refine x_aload_n hO 0 rfl rfl dX11_back_41 ?_
    refine x_getI hO fl_RX11_86 hx0 dX11_back_42 ?_
    refine y_HI (x_callV hO lv_RX11_157 hx0 vc_11 (by decide) (As := [.int (hI r2 x0 14)]) rfl (Nat.le_of_ble_eq_true rfl) (ok_X11_answer (cG Γ) r2 x0 (hI r2 x0 14) hx0) dX11_back_45 rfl (Nat.le_of_ble_eq_true rfl)) (fun r3 => ?_)
    exact x_iret hO rfl dX11_back_48 (hR _)
  · refine x_aload_n hO 0 rfl rfl dX11_back_7 ?_
    refine x_bipush hO (v := 6) (by decide) dX11_back_8 ?_
    refine y_HI (x_callV hO lv_RX11_119 hx0 vc_11 (by decide) (As := [.int ((6 : Int32))]) rfl (Nat.le_of_ble_eq_true rfl) (ok_X11_refuse (cG Γ) h x0 ((6 : Int32)) hx0) dX11_back_10 rfl (Nat.le_of_ble_eq_true rfl)) (fun r4 => ?_)
    exact x_iret hO rfl dX11_back_13 (hR _)
theorem ok_X11_back (G : Gl) (h : Hp) (x0 : Nat) (hx0 : Is x0 11) : CN G mX11_back [.ref (gb G + x0)] h ((F_X11_back h x0).map (emHI)) := CN.fn pn_RX11 (Nat.le_of_ble_eq_true rfl) (fun Γ hG hO => by subst hG; exact go_X11_back hO h x0 hx0 (fun _ q => q))
noncomputable def F_X11_habit (h : Hp) (x0 : Nat) (x1 : Int32) : Option (Hp × Int32) :=
  if x1 < 0 then (F_X11_deny h x0 ((1 : Int32))).bind (fun r1 => some ((r1.1, r1.2 &&& 1))) else if x1 ≤ ((1 : Int32)) then (F_X2_punchedBy h (GR x0 2) x1).bind (fun r2 => if r2 = 0 then (F_X11_deny h x0 ((6 : Int32))).bind (fun r6 => some ((r6.1, r6.2 &&& 1))) else (F_X2_wrongBy h (GR x0 2) x1).bind (fun r3 => (F_X11_tellFraction h x0 r3 r2).bind (fun r4 => (F_X11_agree r4 x0).bind (fun r5 => some ((r5.1, r5.2 &&& 1)))))) else (F_X11_deny h x0 ((1 : Int32))).bind (fun r7 => some ((r7.1, r7.2 &&& 1)))
set_option maxHeartbeats 4000000 in
set_option maxRecDepth 100000 in
theorem go_X11_habit {Γ : Cx} (hO : Ok Γ mX11_habit) (h : Hp) (x0 : Nat) (x1 : Int32) (hx0 : Is x0 11) {K : Hp × Int32 → Prop} (hR : ∀ r, K r → emHI r = tgt Γ) : EG Γ mX11_habit 0 [(0, rf Γ x0), (1, .int x1)] [] h (F_X11_habit h x0 x1) K := by
  unfold F_X11_habit
  refine x_iload_n hO 1 rfl rfl dX11_habit_0 ?_
  refine x_if_lt hO (tg := 9) dX11_habit_1 (by decide) ?_ ?_
  · refine x_aload_n hO 0 rfl rfl dX11_habit_9 ?_
    refine x_iconst hO (v := 1) (by decide) dX11_habit_10 ?_
    refine y_HI (x_callV hO lv_RX11_100 hx0 vc_11 (by decide) (As := [.int ((1 : Int32))]) rfl (Nat.le_of_ble_eq_true rfl) (ok_X11_deny (cG Γ) h x0 ((1 : Int32)) hx0) dX11_habit_11 rfl (Nat.le_of_ble_eq_true rfl)) (fun r1 => ?_)
    exact x_zret hO rfl dX11_habit_14 (hR _)
  · refine x_iload_n hO 1 rfl rfl dX11_habit_4 ?_
    refine x_iconst hO (v := 1) (by decide) dX11_habit_5 ?_
    refine x_icmp_le hO (tg := 15) dX11_habit_6 (by decide) ?_ ?_
    · refine x_aload_n hO 0 rfl rfl dX11_habit_15 ?_
      refine x_getR hO fl_RX11_22 hx0 dX11_habit_16 ?_
      refine x_iload_n hO 1 rfl rfl dX11_habit_19 ?_
      refine y_PI (x_callV hO lv_RX11_386 (gr_11_2 hx0) vc_2 (by decide) (As := [.int x1]) rfl (Nat.le_of_ble_eq_true rfl) (ok_X2_punchedBy (cG Γ) h (GR x0 2) x1 (gr_11_2 hx0)) dX11_habit_20 rfl (Nat.le_of_ble_eq_true rfl)) (fun r2 => ?_)
      refine x_istore_n hO rfl [(2, .int r2), (0, rf Γ x0), (1, .int x1)] dX11_habit_23 (by decide) rfl ?_
      refine x_iload_n hO 0 rfl rfl dX11_habit_24 ?_
      refine x_if_ne hO (tg := 35) dX11_habit_25 (by decide) ?_ ?_
      · refine x_aload_n hO 1 rfl rfl dX11_habit_35 ?_
        refine x_aload_n hO 1 rfl rfl dX11_habit_36 ?_
        refine x_getR hO fl_RX11_22 hx0 dX11_habit_37 ?_
        refine x_iload_n hO 2 rfl rfl dX11_habit_40 ?_
        refine y_PI (x_callV hO lv_RX11_389 (gr_11_2 hx0) vc_2 (by decide) (As := [.int x1]) rfl (Nat.le_of_ble_eq_true rfl) (ok_X2_wrongBy (cG Γ) h (GR x0 2) x1 (gr_11_2 hx0)) dX11_habit_41 rfl (Nat.le_of_ble_eq_true rfl)) (fun r3 => ?_)
        refine x_iload_n hO 0 rfl rfl dX11_habit_44 ?_
        refine y_HV (x_callV hO lv_RX11_392 hx0 vc_11 (by decide) (As := [.int r3, .int r2]) rfl (Nat.le_of_ble_eq_true rfl) (ok_X11_tellFraction (cG Γ) h x0 r3 r2 hx0) dX11_habit_45 rfl (Nat.le_of_ble_eq_true rfl)) (fun r4 => ?_)
        refine x_aload_n hO 1 rfl rfl dX11_habit_48 ?_
        refine y_HI (x_callV hO lv_RX11_107 hx0 vc_11 (by decide) (As := []) rfl (Nat.le_of_ble_eq_true rfl) (ok_X11_agree (cG Γ) r4 x0 hx0) dX11_habit_49 rfl (Nat.le_of_ble_eq_true rfl)) (fun r5 => ?_)
        exact x_zret hO rfl dX11_habit_52 (hR _)
      · refine x_aload_n hO 1 rfl rfl dX11_habit_28 ?_
        refine x_bipush hO (v := 6) (by decide) dX11_habit_29 ?_
        refine y_HI (x_callV hO lv_RX11_100 hx0 vc_11 (by decide) (As := [.int ((6 : Int32))]) rfl (Nat.le_of_ble_eq_true rfl) (ok_X11_deny (cG Γ) h x0 ((6 : Int32)) hx0) dX11_habit_31 rfl (Nat.le_of_ble_eq_true rfl)) (fun r6 => ?_)
        exact x_zret hO rfl dX11_habit_34 (hR _)
    · refine x_aload_n hO 0 rfl rfl dX11_habit_9 ?_
      refine x_iconst hO (v := 1) (by decide) dX11_habit_10 ?_
      refine y_HI (x_callV hO lv_RX11_100 hx0 vc_11 (by decide) (As := [.int ((1 : Int32))]) rfl (Nat.le_of_ble_eq_true rfl) (ok_X11_deny (cG Γ) h x0 ((1 : Int32)) hx0) dX11_habit_11 rfl (Nat.le_of_ble_eq_true rfl)) (fun r7 => ?_)
      exact x_zret hO rfl dX11_habit_14 (hR _)
theorem ok_X11_habit (G : Gl) (h : Hp) (x0 : Nat) (x1 : Int32) (hx0 : Is x0 11) : CN G mX11_habit [.ref (gb G + x0), .int x1] h ((F_X11_habit h x0 x1).map (emHI)) := CN.fn pn_RX11 (Nat.le_of_ble_eq_true rfl) (fun Γ hG hO => by subst hG; exact go_X11_habit hO h x0 x1 hx0 (fun _ q => q))
noncomputable def J_X11_lost_34 (h : Hp) (x0 : Nat) (x1 : Int32) (x2 : Int32) (x3 : Int32) (x4 : Int32) (x5 : Int32) (s0 : Int32) : Option (Hp × Int32) :=
  if s0 = 0 then (F_X11_refuse h x0 ((1 : Int32))).bind (fun r1 => some ((r1.1, r1.2))) else if x5 < 0 then (F_X11_refuse h x0 ((1 : Int32))).bind (fun r2 => some ((r2.1, r2.2))) else if x5 ≤ ((1 : Int32)) then (F_X11_tenTo h x3).bind (fun r3 => (F_X11_tenTo h ((x2 - x1) + ((1 : Int32)))).bind (fun r4 => (F_X2_wholeSum h (GR x0 2) x1 x2).bind (fun r5 => gd (!decide (r3 = 0)) (if (fmr (x4 - r5) r3) < r4 then if x5 = 0 then gd (!decide (r3 = 0)) ((F_X11_answer h x0 (((1 : Int32)) + (((r4 - ((1 : Int32))) - (fmr (x4 - r5) r3)) / r3))).bind (fun r7 => some ((r7.1, r7.2)))) else (F_X11_answer h x0 (fmr (x4 - r5) r3)).bind (fun r6 => some ((r6.1, r6.2))) else if x5 = 0 then (F_X11_answer h x0 ((0 : Int32))).bind (fun r9 => some ((r9.1, r9.2))) else (F_X11_refuse h x0 ((6 : Int32))).bind (fun r8 => some ((r8.1, r8.2))))))) else (F_X11_refuse h x0 ((1 : Int32))).bind (fun r10 => some ((r10.1, r10.2)))
set_option maxHeartbeats 4000000 in
set_option maxRecDepth 100000 in
theorem go_X11_lost_J34 {Γ : Cx} (hO : Ok Γ mX11_lost) (h : Hp) (x0 : Nat) (x1 : Int32) (x2 : Int32) (x3 : Int32) (x4 : Int32) (x5 : Int32) (s0 : Int32) (hx0 : Is x0 11) {K : Hp × Int32 → Prop} (hR : ∀ r, K r → emHI r = tgt Γ) : EG Γ mX11_lost 34 [(0, rf Γ x0), (1, .int x1), (2, .int x2), (3, .int x3), (4, .int x4), (5, .int x5)] [.int s0] h (J_X11_lost_34 h x0 x1 x2 x3 x4 x5 s0) K := by
  unfold J_X11_lost_34
  refine x_istore hO [(6, .int s0), (0, rf Γ x0), (1, .int x1), (2, .int x2), (3, .int x3), (4, .int x4), (5, .int x5)] dX11_lost_34 (by decide) rfl ?_
  refine x_iload hO 0 rfl dX11_lost_36 ?_
  refine x_if_eq hO (tg := 52) dX11_lost_38 (by decide) ?_ ?_
  · refine x_aload_n hO 1 rfl rfl dX11_lost_52 ?_
    refine x_iconst hO (v := 1) (by decide) dX11_lost_53 ?_
    refine y_HI (x_callV hO lv_RX11_119 hx0 vc_11 (by decide) (As := [.int ((1 : Int32))]) rfl (Nat.le_of_ble_eq_true rfl) (ok_X11_refuse (cG Γ) h x0 ((1 : Int32)) hx0) dX11_lost_54 rfl (Nat.le_of_ble_eq_true rfl)) (fun r1 => ?_)
    exact x_iret hO rfl dX11_lost_57 (hR _)
  · refine x_iload hO 6 rfl dX11_lost_41 ?_
    refine x_if_lt hO (tg := 52) dX11_lost_43 (by decide) ?_ ?_
    · refine x_aload_n hO 1 rfl rfl dX11_lost_52 ?_
      refine x_iconst hO (v := 1) (by decide) dX11_lost_53 ?_
      refine y_HI (x_callV hO lv_RX11_119 hx0 vc_11 (by decide) (As := [.int ((1 : Int32))]) rfl (Nat.le_of_ble_eq_true rfl) (ok_X11_refuse (cG Γ) h x0 ((1 : Int32)) hx0) dX11_lost_54 rfl (Nat.le_of_ble_eq_true rfl)) (fun r2 => ?_)
      exact x_iret hO rfl dX11_lost_57 (hR _)
    · refine x_iload hO 6 rfl dX11_lost_46 ?_
      refine x_iconst hO (v := 1) (by decide) dX11_lost_48 ?_
      refine x_icmp_le hO (tg := 58) dX11_lost_49 (by decide) ?_ ?_
      · refine x_iload_n hO 4 rfl rfl dX11_lost_58 ?_
        refine y_PI (x_callS hO lt_RX11_290 (As := [.int x3]) rfl (Nat.le_of_ble_eq_true rfl) (ok_X11_tenTo (cG Γ) h x3) dX11_lost_59 rfl (Nat.le_of_ble_eq_true rfl)) (fun r3 => ?_)
        refine x_istore hO [(7, .int r3), (6, .int s0), (0, rf Γ x0), (1, .int x1), (2, .int x2), (3, .int x3), (4, .int x4), (5, .int x5)] dX11_lost_62 (by decide) rfl ?_
        refine x_iload_n hO 4 rfl rfl dX11_lost_64 ?_
        refine x_iload_n hO 3 rfl rfl dX11_lost_65 ?_
        refine x_isub hO dX11_lost_66 ?_
        refine x_iconst hO (v := 1) (by decide) dX11_lost_67 ?_
        refine x_iadd hO dX11_lost_68 ?_
        refine y_PI (x_callS hO lt_RX11_290 (As := [.int ((x2 - x1) + ((1 : Int32)))]) rfl (Nat.le_of_ble_eq_true rfl) (ok_X11_tenTo (cG Γ) h ((x2 - x1) + ((1 : Int32)))) dX11_lost_69 rfl (Nat.le_of_ble_eq_true rfl)) (fun r4 => ?_)
        refine x_istore hO [(8, .int r4), (7, .int r3), (6, .int s0), (0, rf Γ x0), (1, .int x1), (2, .int x2), (3, .int x3), (4, .int x4), (5, .int x5)] dX11_lost_72 (by decide) rfl ?_
        refine x_iload hO 7 rfl dX11_lost_74 ?_
        refine x_aload_n hO 3 rfl rfl dX11_lost_76 ?_
        refine x_getR hO fl_RX11_22 hx0 dX11_lost_77 ?_
        refine x_iload_n hO 4 rfl rfl dX11_lost_80 ?_
        refine x_iload_n hO 5 rfl rfl dX11_lost_81 ?_
        refine y_PI (x_callV hO lv_RX11_287 (gr_11_2 hx0) vc_2 (by decide) (As := [.int x1, .int x2]) rfl (Nat.le_of_ble_eq_true rfl) (ok_X2_wholeSum (cG Γ) h (GR x0 2) x1 x2 (gr_11_2 hx0)) dX11_lost_82 rfl (Nat.le_of_ble_eq_true rfl)) (fun r5 => ?_)
        refine x_isub hO dX11_lost_85 ?_
        refine x_iload hO 1 rfl dX11_lost_86 ?_
        refine x_mfm hO lm_RX11_361 (Nat.le_of_ble_eq_true rfl) (Nat.le_of_ble_eq_true rfl) dX11_lost_88 ?_
        refine x_istore hO [(9, .int (fmr (x4 - r5) r3)), (8, .int r4), (7, .int r3), (6, .int s0), (0, rf Γ x0), (1, .int x1), (2, .int x2), (3, .int x3), (4, .int x4), (5, .int x5)] dX11_lost_91 (by decide) rfl ?_
        refine x_iload hO 0 rfl dX11_lost_93 ?_
        refine x_iload hO 1 rfl dX11_lost_95 ?_
        refine x_icmp_lt hO (tg := 120) dX11_lost_97 (by decide) ?_ ?_
        · refine x_aload_n hO 4 rfl rfl dX11_lost_120 ?_
          refine x_iload hO 9 rfl dX11_lost_121 ?_
          refine x_if_ne hO (tg := 141) dX11_lost_123 (by decide) ?_ ?_
          · refine x_iload hO 0 rfl dX11_lost_141 ?_
            refine y_HI (x_callV hO lv_RX11_157 hx0 vc_11 (by decide) (As := [.int (fmr (x4 - r5) r3)]) rfl (Nat.le_of_ble_eq_true rfl) (ok_X11_answer (cG Γ) h x0 (fmr (x4 - r5) r3) hx0) dX11_lost_143 rfl (Nat.le_of_ble_eq_true rfl)) (fun r6 => ?_)
            exact x_iret hO rfl dX11_lost_146 (hR _)
          · refine x_iconst hO (v := 1) (by decide) dX11_lost_126 ?_
            refine x_iload hO 1 rfl dX11_lost_127 ?_
            refine x_iconst hO (v := 1) (by decide) dX11_lost_129 ?_
            refine x_isub hO dX11_lost_130 ?_
            refine x_iload hO 0 rfl dX11_lost_131 ?_
            refine x_isub hO dX11_lost_133 ?_
            refine x_iload hO 2 rfl dX11_lost_134 ?_
            refine x_idiv hO dX11_lost_136 ?_
            refine x_iadd hO dX11_lost_137 ?_
            refine x_goto hO (tg := 143) dX11_lost_138 (by decide) ?_
            refine y_HI (x_callV hO lv_RX11_157 hx0 vc_11 (by decide) (As := [.int (((1 : Int32)) + (((r4 - ((1 : Int32))) - (fmr (x4 - r5) r3)) / r3))]) rfl (Nat.le_of_ble_eq_true rfl) (ok_X11_answer (cG Γ) h x0 (((1 : Int32)) + (((r4 - ((1 : Int32))) - (fmr (x4 - r5) r3)) / r3)) hx0) dX11_lost_143 rfl (Nat.le_of_ble_eq_true rfl)) (fun r7 => ?_)
            exact x_iret hO rfl dX11_lost_146 (hR _)
        · refine x_iload hO 9 rfl dX11_lost_100 ?_
          refine x_if_ne hO (tg := 113) dX11_lost_102 (by decide) ?_ ?_
          · refine x_aload_n hO 4 rfl rfl dX11_lost_113 ?_
            refine x_bipush hO (v := 6) (by decide) dX11_lost_114 ?_
            refine y_HI (x_callV hO lv_RX11_119 hx0 vc_11 (by decide) (As := [.int ((6 : Int32))]) rfl (Nat.le_of_ble_eq_true rfl) (ok_X11_refuse (cG Γ) h x0 ((6 : Int32)) hx0) dX11_lost_116 rfl (Nat.le_of_ble_eq_true rfl)) (fun r8 => ?_)
            exact x_iret hO rfl dX11_lost_119 (hR _)
          · refine x_aload_n hO 4 rfl rfl dX11_lost_105 ?_
            refine x_iconst hO (v := 0) (by decide) dX11_lost_106 ?_
            refine y_HI (x_callV hO lv_RX11_157 hx0 vc_11 (by decide) (As := [.int ((0 : Int32))]) rfl (Nat.le_of_ble_eq_true rfl) (ok_X11_answer (cG Γ) h x0 ((0 : Int32)) hx0) dX11_lost_107 rfl (Nat.le_of_ble_eq_true rfl)) (fun r9 => ?_)
            refine x_goto hO (tg := 119) dX11_lost_110 (by decide) ?_
            exact x_iret hO rfl dX11_lost_119 (hR _)
      · refine x_aload_n hO 1 rfl rfl dX11_lost_52 ?_
        refine x_iconst hO (v := 1) (by decide) dX11_lost_53 ?_
        refine y_HI (x_callV hO lv_RX11_119 hx0 vc_11 (by decide) (As := [.int ((1 : Int32))]) rfl (Nat.le_of_ble_eq_true rfl) (ok_X11_refuse (cG Γ) h x0 ((1 : Int32)) hx0) dX11_lost_54 rfl (Nat.le_of_ble_eq_true rfl)) (fun r10 => ?_)
        exact x_iret hO rfl dX11_lost_57 (hR _)
noncomputable def J_X11_lost_33 (h : Hp) (x0 : Nat) (x1 : Int32) (x2 : Int32) (x3 : Int32) (x4 : Int32) (x5 : Int32) : Option (Hp × Int32) :=
  J_X11_lost_34 h x0 x1 x2 x3 x4 x5 ((0 : Int32))
set_option maxHeartbeats 4000000 in
set_option maxRecDepth 100000 in
theorem go_X11_lost_J33 {Γ : Cx} (hO : Ok Γ mX11_lost) (h : Hp) (x0 : Nat) (x1 : Int32) (x2 : Int32) (x3 : Int32) (x4 : Int32) (x5 : Int32) (hx0 : Is x0 11) {K : Hp × Int32 → Prop} (hR : ∀ r, K r → emHI r = tgt Γ) : EG Γ mX11_lost 33 [(0, rf Γ x0), (1, .int x1), (2, .int x2), (3, .int x3), (4, .int x4), (5, .int x5)] [] h (J_X11_lost_33 h x0 x1 x2 x3 x4 x5) K := by
  unfold J_X11_lost_33
  refine x_iconst hO (v := 0) (by decide) dX11_lost_33 ?_
  exact x_sub [0, 1, 2, 3, 4, 5] rfl (go_X11_lost_J34 hO h x0 x1 x2 x3 x4 x5 ((0 : Int32)) hx0 hR)
noncomputable def F_X11_lost (h : Hp) (x0 : Nat) (x1 : Int32) (x2 : Int32) (x3 : Int32) (x4 : Int32) (x5 : Int32) : Option (Hp × Int32) :=
  (F_X11_isField h x1 x2).bind (fun r1 => if r1 = 0 then J_X11_lost_33 h x0 x1 x2 x3 x4 x5 else (F_X11_isWheel h x3).bind (fun r2 => if r2 = 0 then J_X11_lost_33 h x0 x1 x2 x3 x4 x5 else if x4 < 0 then J_X11_lost_33 h x0 x1 x2 x3 x4 x5 else (F_X11_tenTo h x3).bind (fun r3 => if r3 ≤ x4 then J_X11_lost_33 h x0 x1 x2 x3 x4 x5 else J_X11_lost_34 h x0 x1 x2 x3 x4 x5 ((1 : Int32)))))
set_option maxHeartbeats 4000000 in
set_option maxRecDepth 100000 in
theorem go_X11_lost {Γ : Cx} (hO : Ok Γ mX11_lost) (h : Hp) (x0 : Nat) (x1 : Int32) (x2 : Int32) (x3 : Int32) (x4 : Int32) (x5 : Int32) (hx0 : Is x0 11) {K : Hp × Int32 → Prop} (hR : ∀ r, K r → emHI r = tgt Γ) : EG Γ mX11_lost 0 [(0, rf Γ x0), (1, .int x1), (2, .int x2), (3, .int x3), (4, .int x4), (5, .int x5)] [] h (F_X11_lost h x0 x1 x2 x3 x4 x5) K := by
  unfold F_X11_lost
  refine x_iload_n hO 1 rfl rfl dX11_lost_0 ?_
  refine x_iload_n hO 2 rfl rfl dX11_lost_1 ?_
  refine y_PI (x_callS hO lt_RX11_277 (As := [.int x1, .int x2]) rfl (Nat.le_of_ble_eq_true rfl) (ok_X11_isField (cG Γ) h x1 x2) dX11_lost_2 rfl (Nat.le_of_ble_eq_true rfl)) (fun r1 => ?_)
  refine x_if_eq hO (tg := 33) dX11_lost_5 (by decide) ?_ ?_
  · exact x_sub [0, 1, 2, 3, 4, 5] rfl (go_X11_lost_J33 hO h x0 x1 x2 x3 x4 x5 hx0 hR)
  · refine x_iload_n hO 3 rfl rfl dX11_lost_8 ?_
    refine y_PI (x_callS hO lt_RX11_284 (As := [.int x3]) rfl (Nat.le_of_ble_eq_true rfl) (ok_X11_isWheel (cG Γ) h x3) dX11_lost_9 rfl (Nat.le_of_ble_eq_true rfl)) (fun r2 => ?_)
    refine x_if_eq hO (tg := 33) dX11_lost_12 (by decide) ?_ ?_
    · exact x_sub [0, 1, 2, 3, 4, 5] rfl (go_X11_lost_J33 hO h x0 x1 x2 x3 x4 x5 hx0 hR)
    · refine x_iload hO 4 rfl dX11_lost_15 ?_
      refine x_if_lt hO (tg := 33) dX11_lost_17 (by decide) ?_ ?_
      · exact x_sub [0, 1, 2, 3, 4, 5] rfl (go_X11_lost_J33 hO h x0 x1 x2 x3 x4 x5 hx0 hR)
      · refine x_iload hO 4 rfl dX11_lost_20 ?_
        refine x_iload_n hO 3 rfl rfl dX11_lost_22 ?_
        refine y_PI (x_callS hO lt_RX11_290 (As := [.int x3]) rfl (Nat.le_of_ble_eq_true rfl) (ok_X11_tenTo (cG Γ) h x3) dX11_lost_23 rfl (Nat.le_of_ble_eq_true rfl)) (fun r3 => ?_)
        refine x_icmp_ge hO (tg := 33) dX11_lost_26 (by decide) ?_ ?_
        · exact x_sub [0, 1, 2, 3, 4, 5] rfl (go_X11_lost_J33 hO h x0 x1 x2 x3 x4 x5 hx0 hR)
        · refine x_iconst hO (v := 1) (by decide) dX11_lost_29 ?_
          refine x_goto hO (tg := 34) dX11_lost_30 (by decide) ?_
          exact x_sub [0, 1, 2, 3, 4, 5] rfl (go_X11_lost_J34 hO h x0 x1 x2 x3 x4 x5 ((1 : Int32)) hx0 hR)
theorem ok_X11_lost (G : Gl) (h : Hp) (x0 : Nat) (x1 : Int32) (x2 : Int32) (x3 : Int32) (x4 : Int32) (x5 : Int32) (hx0 : Is x0 11) : CN G mX11_lost [.ref (gb G + x0), .int x1, .int x2, .int x3, .int x4, .int x5] h ((F_X11_lost h x0 x1 x2 x3 x4 x5).map (emHI)) := CN.fn pn_RX11 (Nat.le_of_ble_eq_true rfl) (fun Γ hG hO => by subst hG; exact go_X11_lost hO h x0 x1 x2 x3 x4 x5 hx0 (fun _ q => q))
noncomputable def F_X11_mark (h : Hp) (x0 : Nat) : Option (Hp × Int32) :=
  if (hI h x0 14) < ((3 : Int32)) then gd (ib (hI h x0 14) (LEN (GR x0 3))) ((F_X2_copyFrom h (GR (GR x0 3) (nx (hI h x0 14))) (GR x0 2)).bind (fun r2 => (F_X11_answer (uI r2 x0 14 ((hI r2 x0 14) + ((1 : Int32)))) x0 (hI (uI r2 x0 14 ((hI r2 x0 14) + ((1 : Int32)))) x0 14)).bind (fun r3 => some ((r3.1, r3.2))))) else (F_X11_refuse h x0 ((4 : Int32))).bind (fun r4 => some ((r4.1, r4.2)))
set_option maxHeartbeats 4000000 in
set_option maxRecDepth 100000 in
theorem go_X11_mark {Γ : Cx} (hO : Ok Γ mX11_mark) (h : Hp) (x0 : Nat) (hx0 : Is x0 11) {K : Hp × Int32 → Prop} (hR : ∀ r, K r → emHI r = tgt Γ) : EG Γ mX11_mark 0 [(0, rf Γ x0)] [] h (F_X11_mark h x0) K := by
  unfold F_X11_mark
  refine x_aload_n hO 0 rfl rfl dX11_mark_0 ?_
  refine x_getI hO fl_RX11_86 hx0 dX11_mark_1 ?_
  refine x_iconst hO (v := 3) (by decide) dX11_mark_4 ?_
  refine x_icmp_lt hO (tg := 14) dX11_mark_5 (by decide) ?_ ?_
  · refine x_aload_n hO 0 rfl rfl dX11_mark_14 ?_
    refine x_getR hO fl_RX11_26 hx0 dX11_mark_15 ?_
    refine x_aload_n hO 0 rfl rfl dX11_mark_18 ?_
    refine x_getI hO fl_RX11_86 hx0 dX11_mark_19 ?_
    refine x_aaldH hO (gr_11_3 hx0) dX11_mark_22 (fun q1 => ?_)
    refine x_aload_n hO 0 rfl rfl dX11_mark_23 ?_
    refine x_getR hO fl_RX11_22 hx0 dX11_mark_24 ?_
    refine y_HV (x_callV hO lv_RX11_395 q1 vc_2 (by decide) (As := [rf Γ (GR x0 2)]) rfl (Nat.le_of_ble_eq_true rfl) (ok_X2_copyFrom (cG Γ) h (GR (GR x0 3) (nx (hI h x0 14))) (GR x0 2) q1 (gr_11_2 hx0)) dX11_mark_27 rfl (Nat.le_of_ble_eq_true rfl)) (fun r2 => ?_)
    refine x_aload_n hO 0 rfl rfl dX11_mark_30 ?_
    refine x_dup_r hO dX11_mark_31 ?_
    refine x_getI hO fl_RX11_86 hx0 dX11_mark_32 ?_
    refine x_iconst hO (v := 1) (by decide) dX11_mark_35 ?_
    refine x_iadd hO dX11_mark_36 ?_
    refine x_putI hO fl_RX11_86 hx0 dX11_mark_37 ?_
    refine x_aload_n hO 0 rfl rfl dX11_mark_40 ?_
    refine x_aload_n hO 0 rfl rfl dX11_mark_41 ?_
    refine x_getI hO fl_RX11_86 hx0 dX11_mark_42 ?_
    refine y_HI (x_callV hO lv_RX11_157 hx0 vc_11 (by decide) (As := [.int (hI (uI r2 x0 14 ((hI r2 x0 14) + ((1 : Int32)))) x0 14)]) rfl (Nat.le_of_ble_eq_true rfl) (ok_X11_answer (cG Γ) (uI r2 x0 14 ((hI r2 x0 14) + ((1 : Int32)))) x0 (hI (uI r2 x0 14 ((hI r2 x0 14) + ((1 : Int32)))) x0 14) hx0) dX11_mark_45 rfl (Nat.le_of_ble_eq_true rfl)) (fun r3 => ?_)
    exact x_iret hO rfl dX11_mark_48 (hR _)
  · refine x_aload_n hO 0 rfl rfl dX11_mark_8 ?_
    refine x_iconst hO (v := 4) (by decide) dX11_mark_9 ?_
    refine y_HI (x_callV hO lv_RX11_119 hx0 vc_11 (by decide) (As := [.int ((4 : Int32))]) rfl (Nat.le_of_ble_eq_true rfl) (ok_X11_refuse (cG Γ) h x0 ((4 : Int32)) hx0) dX11_mark_10 rfl (Nat.le_of_ble_eq_true rfl)) (fun r4 => ?_)
    exact x_iret hO rfl dX11_mark_13 (hR _)
theorem ok_X11_mark (G : Gl) (h : Hp) (x0 : Nat) (hx0 : Is x0 11) : CN G mX11_mark [.ref (gb G + x0)] h ((F_X11_mark h x0).map (emHI)) := CN.fn pn_RX11 (Nat.le_of_ble_eq_true rfl) (fun Γ hG hO => by subst hG; exact go_X11_mark hO h x0 hx0 (fun _ q => q))
noncomputable def F_X11_ordered (h : Hp) (x0 : Nat) (x1 : Int32) (x2 : Int32) : Option (Hp × Int32) :=
  (F_X11_keyStatus h x0 x1 x2).bind (fun r1 => if r1 = 0 then gd (ib x1 (LEN (GR x0 0))) ((F_X6_takeKey h (GR x0 7) (GR x0 2) (GR (GR (GR x0 0) (nx x1)) 3) x2).bind (fun r3 => (F_X6_inOrder r3 (GR x0 7) (GR (GR x0 2) 7) (hI r3 (GR x0 2) 0)).bind (fun r4 => if r4 = 0 then (F_X11_answer r3 x0 ((0 : Int32))).bind (fun r5 => some ((r5.1, r5.2))) else (F_X11_answer r3 x0 ((1 : Int32))).bind (fun r6 => some ((r6.1, r6.2)))))) else (F_X11_refuse h x0 r1).bind (fun r7 => some ((r7.1, r7.2))))
set_option maxHeartbeats 4000000 in
set_option maxRecDepth 100000 in
theorem go_X11_ordered {Γ : Cx} (hO : Ok Γ mX11_ordered) (h : Hp) (x0 : Nat) (x1 : Int32) (x2 : Int32) (hx0 : Is x0 11) {K : Hp × Int32 → Prop} (hR : ∀ r, K r → emHI r = tgt Γ) : EG Γ mX11_ordered 0 [(0, rf Γ x0), (1, .int x1), (2, .int x2)] [] h (F_X11_ordered h x0 x1 x2) K := by
  unfold F_X11_ordered
  refine x_aload_n hO 0 rfl rfl dX11_ordered_0 ?_
  refine x_iload_n hO 1 rfl rfl dX11_ordered_1 ?_
  refine x_iload_n hO 2 rfl rfl dX11_ordered_2 ?_
  refine y_PI (x_callV hO lv_RX11_251 hx0 vc_11 (by decide) (As := [.int x1, .int x2]) rfl (Nat.le_of_ble_eq_true rfl) (ok_X11_keyStatus (cG Γ) h x0 x1 x2 hx0) dX11_ordered_3 rfl (Nat.le_of_ble_eq_true rfl)) (fun r1 => ?_)
  refine x_istore_n hO rfl [(3, .int r1), (0, rf Γ x0), (1, .int x1), (2, .int x2)] dX11_ordered_6 (by decide) rfl ?_
  refine x_iload_n hO 0 rfl rfl dX11_ordered_7 ?_
  refine x_if_eq hO (tg := 17) dX11_ordered_8 (by decide) ?_ ?_
  · refine x_aload_n hO 1 rfl rfl dX11_ordered_17 ?_
    refine x_getR hO fl_RX11_54 hx0 dX11_ordered_18 ?_
    refine x_aload_n hO 1 rfl rfl dX11_ordered_21 ?_
    refine x_getR hO fl_RX11_22 hx0 dX11_ordered_22 ?_
    refine x_aload_n hO 1 rfl rfl dX11_ordered_25 ?_
    refine x_getR hO fl_RX11_11 hx0 dX11_ordered_26 ?_
    refine x_iload_n hO 2 rfl rfl dX11_ordered_29 ?_
    refine x_aaldT hO (gr_11_0 hx0) dX11_ordered_30 (fun q2 => ?_)
    refine x_getR hO fl_RX11_123 q2 dX11_ordered_31 ?_
    refine x_iload_n hO 3 rfl rfl dX11_ordered_34 ?_
    refine y_HV (x_callV hO lv_RX11_254 (gr_11_7 hx0) vc_6 (by decide) (As := [rf Γ (GR x0 2), rf Γ (GR (GR (GR x0 0) (nx x1)) 3), .int x2]) rfl (Nat.le_of_ble_eq_true rfl) (ok_X6_takeKey (cG Γ) h (GR x0 7) (GR x0 2) (GR (GR (GR x0 0) (nx x1)) 3) x2 (gr_11_7 hx0) (gr_11_2 hx0) (gr_10_3 q2)) dX11_ordered_35 rfl (Nat.le_of_ble_eq_true rfl)) (fun r3 => ?_)
    refine x_aload_n hO 1 rfl rfl dX11_ordered_38 ?_
    refine x_aload_n hO 1 rfl rfl dX11_ordered_39 ?_
    refine x_getR hO fl_RX11_54 hx0 dX11_ordered_40 ?_
    refine x_aload_n hO 1 rfl rfl dX11_ordered_43 ?_
    refine x_getR hO fl_RX11_22 hx0 dX11_ordered_44 ?_
    refine x_getR hO fl_RX11_188 (gr_11_2 hx0) dX11_ordered_47 ?_
    refine x_aload_n hO 1 rfl rfl dX11_ordered_50 ?_
    refine x_getR hO fl_RX11_22 hx0 dX11_ordered_51 ?_
    refine x_getI hO fl_RX11_150 (gr_11_2 hx0) dX11_ordered_54 ?_
    refine y_PI (x_callV hO lv_RX11_258 (gr_11_7 hx0) vc_6 (by decide) (As := [rf Γ (GR (GR x0 2) 7), .int (hI r3 (GR x0 2) 0)]) rfl (Nat.le_of_ble_eq_true rfl) (ok_X6_inOrder (cG Γ) r3 (GR x0 7) (GR (GR x0 2) 7) (hI r3 (GR x0 2) 0) (gr_11_7 hx0) (gr_2_7 (gr_11_2 hx0))) dX11_ordered_57 rfl (Nat.le_of_ble_eq_true rfl)) (fun r4 => ?_)
    refine x_if_eq hO (tg := 67) dX11_ordered_60 (by decide) ?_ ?_
    · refine x_iconst hO (v := 0) (by decide) dX11_ordered_67 ?_
      refine y_HI (x_callV hO lv_RX11_157 hx0 vc_11 (by decide) (As := [.int ((0 : Int32))]) rfl (Nat.le_of_ble_eq_true rfl) (ok_X11_answer (cG Γ) r3 x0 ((0 : Int32)) hx0) dX11_ordered_68 rfl (Nat.le_of_ble_eq_true rfl)) (fun r5 => ?_)
      exact x_iret hO rfl dX11_ordered_71 (hR _)
    · refine x_iconst hO (v := 1) (by decide) dX11_ordered_63 ?_
      refine x_goto hO (tg := 68) dX11_ordered_64 (by decide) ?_
      refine y_HI (x_callV hO lv_RX11_157 hx0 vc_11 (by decide) (As := [.int ((1 : Int32))]) rfl (Nat.le_of_ble_eq_true rfl) (ok_X11_answer (cG Γ) r3 x0 ((1 : Int32)) hx0) dX11_ordered_68 rfl (Nat.le_of_ble_eq_true rfl)) (fun r6 => ?_)
      exact x_iret hO rfl dX11_ordered_71 (hR _)
  · refine x_aload_n hO 1 rfl rfl dX11_ordered_11 ?_
    refine x_iload_n hO 0 rfl rfl dX11_ordered_12 ?_
    refine y_HI (x_callV hO lv_RX11_119 hx0 vc_11 (by decide) (As := [.int r1]) rfl (Nat.le_of_ble_eq_true rfl) (ok_X11_refuse (cG Γ) h x0 r1 hx0) dX11_ordered_13 rfl (Nat.le_of_ble_eq_true rfl)) (fun r7 => ?_)
    exact x_iret hO rfl dX11_ordered_16 (hR _)
theorem ok_X11_ordered (G : Gl) (h : Hp) (x0 : Nat) (x1 : Int32) (x2 : Int32) (hx0 : Is x0 11) : CN G mX11_ordered [.ref (gb G + x0), .int x1, .int x2] h ((F_X11_ordered h x0 x1 x2).map (emHI)) := CN.fn pn_RX11 (Nat.le_of_ble_eq_true rfl) (fun Γ hG hO => by subst hG; exact go_X11_ordered hO h x0 x1 x2 hx0 (fun _ q => q))
noncomputable def F_X11_pass (h : Hp) (x0 : Nat) (x1 : Int32) (x2 : Int32) : Option (Hp × Int32) :=
  (F_X11_isColumn h x1).bind (fun r1 => if r1 = 0 then (F_X11_refuse h x0 ((1 : Int32))).bind (fun r4 => some ((r4.1, r4.2))) else (F_X3_sendThrough h (GR x0 6) (GR x0 2) x1 x2).bind (fun r2 => (F_X11_answer r2.1 x0 r2.2).bind (fun r3 => some ((r3.1, r3.2)))))
set_option maxHeartbeats 4000000 in
set_option maxRecDepth 100000 in
theorem go_X11_pass {Γ : Cx} (hO : Ok Γ mX11_pass) (h : Hp) (x0 : Nat) (x1 : Int32) (x2 : Int32) (hx0 : Is x0 11) {K : Hp × Int32 → Prop} (hR : ∀ r, K r → emHI r = tgt Γ) : EG Γ mX11_pass 0 [(0, rf Γ x0), (1, .int x1), (2, .int x2)] [] h (F_X11_pass h x0 x1 x2) K := by
  unfold F_X11_pass
  refine x_iload_n hO 1 rfl rfl dX11_pass_0 ?_
  refine y_PI (x_callS hO lt_RX11_163 (As := [.int x1]) rfl (Nat.le_of_ble_eq_true rfl) (ok_X11_isColumn (cG Γ) h x1) dX11_pass_1 rfl (Nat.le_of_ble_eq_true rfl)) (fun r1 => ?_)
  refine x_if_ne hO (tg := 13) dX11_pass_4 (by decide) ?_ ?_
  · refine x_aload_n hO 0 rfl rfl dX11_pass_13 ?_
    refine x_aload_n hO 0 rfl rfl dX11_pass_14 ?_
    refine x_getR hO fl_RX11_47 hx0 dX11_pass_15 ?_
    refine x_aload_n hO 0 rfl rfl dX11_pass_18 ?_
    refine x_getR hO fl_RX11_22 hx0 dX11_pass_19 ?_
    refine x_iload_n hO 1 rfl rfl dX11_pass_22 ?_
    refine x_iload_n hO 2 rfl rfl dX11_pass_23 ?_
    refine y_HI (x_callV hO lv_RX11_247 (gr_11_6 hx0) vc_3 (by decide) (As := [rf Γ (GR x0 2), .int x1, .int x2]) rfl (Nat.le_of_ble_eq_true rfl) (ok_X3_sendThrough (cG Γ) h (GR x0 6) (GR x0 2) x1 x2 (gr_11_6 hx0) (gr_11_2 hx0)) dX11_pass_24 rfl (Nat.le_of_ble_eq_true rfl)) (fun r2 => ?_)
    refine y_HI (x_callV hO lv_RX11_157 hx0 vc_11 (by decide) (As := [.int r2.2]) rfl (Nat.le_of_ble_eq_true rfl) (ok_X11_answer (cG Γ) r2.1 x0 r2.2 hx0) dX11_pass_27 rfl (Nat.le_of_ble_eq_true rfl)) (fun r3 => ?_)
    exact x_iret hO rfl dX11_pass_30 (hR _)
  · refine x_aload_n hO 0 rfl rfl dX11_pass_7 ?_
    refine x_iconst hO (v := 1) (by decide) dX11_pass_8 ?_
    refine y_HI (x_callV hO lv_RX11_119 hx0 vc_11 (by decide) (As := [.int ((1 : Int32))]) rfl (Nat.le_of_ble_eq_true rfl) (ok_X11_refuse (cG Γ) h x0 ((1 : Int32)) hx0) dX11_pass_9 rfl (Nat.le_of_ble_eq_true rfl)) (fun r4 => ?_)
    exact x_iret hO rfl dX11_pass_12 (hR _)
theorem ok_X11_pass (G : Gl) (h : Hp) (x0 : Nat) (x1 : Int32) (x2 : Int32) (hx0 : Is x0 11) : CN G mX11_pass [.ref (gb G + x0), .int x1, .int x2] h ((F_X11_pass h x0 x1 x2).map (emHI)) := CN.fn pn_RX11 (Nat.le_of_ble_eq_true rfl) (fun Γ hG hO => by subst hG; exact go_X11_pass hO h x0 x1 x2 hx0 (fun _ q => q))
noncomputable def J_X11_pocket_28 (h : Hp) (x0 : Nat) (x1 : Int32) (x2 : Int32) (x3 : Int32) (x4 : Int32) (x5 : Int32) (s0 : Int32) : Option (Hp × Int32) :=
  if s0 = 0 then (F_X11_refuse h x0 ((1 : Int32))).bind (fun r1 => some ((r1.1, r1.2))) else if x5 < 0 then (F_X11_refuse h x0 ((1 : Int32))).bind (fun r2 => some ((r2.1, r2.2))) else if x5 ≤ ((1 : Int32)) then if x5 = 0 then (F_X2_howManyRead h (GR x0 2) x1 x2).bind (fun r5 => (F_X11_answer h x0 r5).bind (fun r6 => some ((r6.1, r6.2)))) else (F_X2_sumWhere h (GR x0 2) x1 x2 x3 x4).bind (fun r3 => (F_X11_answer h x0 r3).bind (fun r4 => some ((r4.1, r4.2)))) else (F_X11_refuse h x0 ((1 : Int32))).bind (fun r7 => some ((r7.1, r7.2)))
set_option maxHeartbeats 4000000 in
set_option maxRecDepth 100000 in
theorem go_X11_pocket_J28 {Γ : Cx} (hO : Ok Γ mX11_pocket) (h : Hp) (x0 : Nat) (x1 : Int32) (x2 : Int32) (x3 : Int32) (x4 : Int32) (x5 : Int32) (s0 : Int32) (hx0 : Is x0 11) {K : Hp × Int32 → Prop} (hR : ∀ r, K r → emHI r = tgt Γ) : EG Γ mX11_pocket 28 [(0, rf Γ x0), (1, .int x1), (2, .int x2), (3, .int x3), (4, .int x4), (5, .int x5)] [.int s0] h (J_X11_pocket_28 h x0 x1 x2 x3 x4 x5 s0) K := by
  unfold J_X11_pocket_28
  refine x_istore hO [(6, .int s0), (0, rf Γ x0), (1, .int x1), (2, .int x2), (3, .int x3), (4, .int x4), (5, .int x5)] dX11_pocket_28 (by decide) rfl ?_
  refine x_iload hO 0 rfl dX11_pocket_30 ?_
  refine x_if_eq hO (tg := 46) dX11_pocket_32 (by decide) ?_ ?_
  · refine x_aload_n hO 1 rfl rfl dX11_pocket_46 ?_
    refine x_iconst hO (v := 1) (by decide) dX11_pocket_47 ?_
    refine y_HI (x_callV hO lv_RX11_119 hx0 vc_11 (by decide) (As := [.int ((1 : Int32))]) rfl (Nat.le_of_ble_eq_true rfl) (ok_X11_refuse (cG Γ) h x0 ((1 : Int32)) hx0) dX11_pocket_48 rfl (Nat.le_of_ble_eq_true rfl)) (fun r1 => ?_)
    exact x_iret hO rfl dX11_pocket_51 (hR _)
  · refine x_iload hO 6 rfl dX11_pocket_35 ?_
    refine x_if_lt hO (tg := 46) dX11_pocket_37 (by decide) ?_ ?_
    · refine x_aload_n hO 1 rfl rfl dX11_pocket_46 ?_
      refine x_iconst hO (v := 1) (by decide) dX11_pocket_47 ?_
      refine y_HI (x_callV hO lv_RX11_119 hx0 vc_11 (by decide) (As := [.int ((1 : Int32))]) rfl (Nat.le_of_ble_eq_true rfl) (ok_X11_refuse (cG Γ) h x0 ((1 : Int32)) hx0) dX11_pocket_48 rfl (Nat.le_of_ble_eq_true rfl)) (fun r2 => ?_)
      exact x_iret hO rfl dX11_pocket_51 (hR _)
    · refine x_iload hO 6 rfl dX11_pocket_40 ?_
      refine x_iconst hO (v := 1) (by decide) dX11_pocket_42 ?_
      refine x_icmp_le hO (tg := 52) dX11_pocket_43 (by decide) ?_ ?_
      · refine x_aload_n hO 1 rfl rfl dX11_pocket_52 ?_
        refine x_iload hO 6 rfl dX11_pocket_53 ?_
        refine x_if_ne hO (tg := 70) dX11_pocket_55 (by decide) ?_ ?_
        · refine x_aload_n hO 1 rfl rfl dX11_pocket_70 ?_
          refine x_getR hO fl_RX11_22 hx0 dX11_pocket_71 ?_
          refine x_iload_n hO 2 rfl rfl dX11_pocket_74 ?_
          refine x_iload_n hO 3 rfl rfl dX11_pocket_75 ?_
          refine x_iload_n hO 4 rfl rfl dX11_pocket_76 ?_
          refine x_iload hO 5 rfl dX11_pocket_77 ?_
          refine y_PI (x_callV hO lv_RX11_299 (gr_11_2 hx0) vc_2 (by decide) (As := [.int x1, .int x2, .int x3, .int x4]) rfl (Nat.le_of_ble_eq_true rfl) (ok_X2_sumWhere (cG Γ) h (GR x0 2) x1 x2 x3 x4 (gr_11_2 hx0)) dX11_pocket_79 rfl (Nat.le_of_ble_eq_true rfl)) (fun r3 => ?_)
          refine y_HI (x_callV hO lv_RX11_157 hx0 vc_11 (by decide) (As := [.int r3]) rfl (Nat.le_of_ble_eq_true rfl) (ok_X11_answer (cG Γ) h x0 r3 hx0) dX11_pocket_82 rfl (Nat.le_of_ble_eq_true rfl)) (fun r4 => ?_)
          exact x_iret hO rfl dX11_pocket_85 (hR _)
        · refine x_aload_n hO 1 rfl rfl dX11_pocket_58 ?_
          refine x_getR hO fl_RX11_22 hx0 dX11_pocket_59 ?_
          refine x_iload_n hO 2 rfl rfl dX11_pocket_62 ?_
          refine x_iload_n hO 3 rfl rfl dX11_pocket_63 ?_
          refine y_PI (x_callV hO lv_RX11_296 (gr_11_2 hx0) vc_2 (by decide) (As := [.int x1, .int x2]) rfl (Nat.le_of_ble_eq_true rfl) (ok_X2_howManyRead (cG Γ) h (GR x0 2) x1 x2 (gr_11_2 hx0)) dX11_pocket_64 rfl (Nat.le_of_ble_eq_true rfl)) (fun r5 => ?_)
          refine x_goto hO (tg := 82) dX11_pocket_67 (by decide) ?_
          refine y_HI (x_callV hO lv_RX11_157 hx0 vc_11 (by decide) (As := [.int r5]) rfl (Nat.le_of_ble_eq_true rfl) (ok_X11_answer (cG Γ) h x0 r5 hx0) dX11_pocket_82 rfl (Nat.le_of_ble_eq_true rfl)) (fun r6 => ?_)
          exact x_iret hO rfl dX11_pocket_85 (hR _)
      · refine x_aload_n hO 1 rfl rfl dX11_pocket_46 ?_
        refine x_iconst hO (v := 1) (by decide) dX11_pocket_47 ?_
        refine y_HI (x_callV hO lv_RX11_119 hx0 vc_11 (by decide) (As := [.int ((1 : Int32))]) rfl (Nat.le_of_ble_eq_true rfl) (ok_X11_refuse (cG Γ) h x0 ((1 : Int32)) hx0) dX11_pocket_48 rfl (Nat.le_of_ble_eq_true rfl)) (fun r7 => ?_)
        exact x_iret hO rfl dX11_pocket_51 (hR _)
noncomputable def J_X11_pocket_27 (h : Hp) (x0 : Nat) (x1 : Int32) (x2 : Int32) (x3 : Int32) (x4 : Int32) (x5 : Int32) : Option (Hp × Int32) :=
  J_X11_pocket_28 h x0 x1 x2 x3 x4 x5 ((0 : Int32))
set_option maxHeartbeats 4000000 in
set_option maxRecDepth 100000 in
theorem go_X11_pocket_J27 {Γ : Cx} (hO : Ok Γ mX11_pocket) (h : Hp) (x0 : Nat) (x1 : Int32) (x2 : Int32) (x3 : Int32) (x4 : Int32) (x5 : Int32) (hx0 : Is x0 11) {K : Hp × Int32 → Prop} (hR : ∀ r, K r → emHI r = tgt Γ) : EG Γ mX11_pocket 27 [(0, rf Γ x0), (1, .int x1), (2, .int x2), (3, .int x3), (4, .int x4), (5, .int x5)] [] h (J_X11_pocket_27 h x0 x1 x2 x3 x4 x5) K := by
  unfold J_X11_pocket_27
  refine x_iconst hO (v := 0) (by decide) dX11_pocket_27 ?_
  exact x_sub [0, 1, 2, 3, 4, 5] rfl (go_X11_pocket_J28 hO h x0 x1 x2 x3 x4 x5 ((0 : Int32)) hx0 hR)
noncomputable def F_X11_pocket (h : Hp) (x0 : Nat) (x1 : Int32) (x2 : Int32) (x3 : Int32) (x4 : Int32) (x5 : Int32) : Option (Hp × Int32) :=
  (F_X11_isColumn h x1).bind (fun r1 => if r1 = 0 then J_X11_pocket_27 h x0 x1 x2 x3 x4 x5 else (F_X11_isReading h x2).bind (fun r2 => if r2 = 0 then J_X11_pocket_27 h x0 x1 x2 x3 x4 x5 else (F_X11_isField h x3 x4).bind (fun r3 => if r3 = 0 then J_X11_pocket_27 h x0 x1 x2 x3 x4 x5 else J_X11_pocket_28 h x0 x1 x2 x3 x4 x5 ((1 : Int32)))))
set_option maxHeartbeats 4000000 in
set_option maxRecDepth 100000 in
theorem go_X11_pocket {Γ : Cx} (hO : Ok Γ mX11_pocket) (h : Hp) (x0 : Nat) (x1 : Int32) (x2 : Int32) (x3 : Int32) (x4 : Int32) (x5 : Int32) (hx0 : Is x0 11) {K : Hp × Int32 → Prop} (hR : ∀ r, K r → emHI r = tgt Γ) : EG Γ mX11_pocket 0 [(0, rf Γ x0), (1, .int x1), (2, .int x2), (3, .int x3), (4, .int x4), (5, .int x5)] [] h (F_X11_pocket h x0 x1 x2 x3 x4 x5) K := by
  unfold F_X11_pocket
  refine x_iload_n hO 1 rfl rfl dX11_pocket_0 ?_
  refine y_PI (x_callS hO lt_RX11_163 (As := [.int x1]) rfl (Nat.le_of_ble_eq_true rfl) (ok_X11_isColumn (cG Γ) h x1) dX11_pocket_1 rfl (Nat.le_of_ble_eq_true rfl)) (fun r1 => ?_)
  refine x_if_eq hO (tg := 27) dX11_pocket_4 (by decide) ?_ ?_
  · exact x_sub [0, 1, 2, 3, 4, 5] rfl (go_X11_pocket_J27 hO h x0 x1 x2 x3 x4 x5 hx0 hR)
  · refine x_iload_n hO 2 rfl rfl dX11_pocket_7 ?_
    refine y_PI (x_callS hO lt_RX11_293 (As := [.int x2]) rfl (Nat.le_of_ble_eq_true rfl) (ok_X11_isReading (cG Γ) h x2) dX11_pocket_8 rfl (Nat.le_of_ble_eq_true rfl)) (fun r2 => ?_)
    refine x_if_eq hO (tg := 27) dX11_pocket_11 (by decide) ?_ ?_
    · exact x_sub [0, 1, 2, 3, 4, 5] rfl (go_X11_pocket_J27 hO h x0 x1 x2 x3 x4 x5 hx0 hR)
    · refine x_iload_n hO 3 rfl rfl dX11_pocket_14 ?_
      refine x_iload hO 4 rfl dX11_pocket_15 ?_
      refine y_PI (x_callS hO lt_RX11_277 (As := [.int x3, .int x4]) rfl (Nat.le_of_ble_eq_true rfl) (ok_X11_isField (cG Γ) h x3 x4) dX11_pocket_17 rfl (Nat.le_of_ble_eq_true rfl)) (fun r3 => ?_)
      refine x_if_eq hO (tg := 27) dX11_pocket_20 (by decide) ?_ ?_
      · exact x_sub [0, 1, 2, 3, 4, 5] rfl (go_X11_pocket_J27 hO h x0 x1 x2 x3 x4 x5 hx0 hR)
      · refine x_iconst hO (v := 1) (by decide) dX11_pocket_23 ?_
        refine x_goto hO (tg := 28) dX11_pocket_24 (by decide) ?_
        exact x_sub [0, 1, 2, 3, 4, 5] rfl (go_X11_pocket_J28 hO h x0 x1 x2 x3 x4 x5 ((1 : Int32)) hx0 hR)
theorem ok_X11_pocket (G : Gl) (h : Hp) (x0 : Nat) (x1 : Int32) (x2 : Int32) (x3 : Int32) (x4 : Int32) (x5 : Int32) (hx0 : Is x0 11) : CN G mX11_pocket [.ref (gb G + x0), .int x1, .int x2, .int x3, .int x4, .int x5] h ((F_X11_pocket h x0 x1 x2 x3 x4 x5).map (emHI)) := CN.fn pn_RX11 (Nat.le_of_ble_eq_true rfl) (fun Γ hG hO => by subst hG; exact go_X11_pocket hO h x0 x1 x2 x3 x4 x5 hx0 (fun _ q => q))
noncomputable def F_X11_punch (h : Hp) (x0 : Nat) (x1 : Int32) (x2 : Int32) (x3 : Int32) : Option (Hp × Int32) :=
  (F_X11_isTray h x1).bind (fun r1 => if r1 = 0 then (F_X11_refuse h x0 ((1 : Int32))).bind (fun r2 => some ((r2.1, r2.2))) else if x2 < 0 then (F_X11_refuse h x0 ((1 : Int32))).bind (fun r3 => some ((r3.1, r3.2))) else if ((1 : Int32)) < x2 then (F_X11_refuse h x0 ((1 : Int32))).bind (fun r4 => some ((r4.1, r4.2))) else if x3 < ((-1 : Int32)) then (F_X11_refuse h x0 ((1 : Int32))).bind (fun r5 => some ((r5.1, r5.2))) else if x3 ≤ ((1 : Int32)) then (F_X11_rowStatus h x0 x1 ((8 : Int32))).bind (fun r6 => if r6 = 0 then gd (ib x1 (LEN (GR x0 0))) ((F_X10_allWithin h (GR (GR x0 0) (nx x1)) ((8 : Int32)) ((4095 : Int32))).bind (fun r8 => if r8 = 0 then (F_X11_refuse h x0 ((5 : Int32))).bind (fun r13 => some ((r13.1, r13.2))) else if (hI h (GR x0 2) 0) < ((30 : Int32)) then gd (ib x1 (LEN (GR x0 0))) ((F_X2_addCard h (GR x0 2) (GR (GR (GR x0 0) (nx x1)) 3) x2 x3).bind (fun r10 => (F_X11_answer r10.1 x0 r10.2).bind (fun r11 => some ((r11.1, r11.2))))) else (F_X11_refuse h x0 ((4 : Int32))).bind (fun r12 => some ((r12.1, r12.2))))) else (F_X11_refuse h x0 r6).bind (fun r14 => some ((r14.1, r14.2)))) else (F_X11_refuse h x0 ((1 : Int32))).bind (fun r15 => some ((r15.1, r15.2))))
set_option maxHeartbeats 4000000 in
set_option maxRecDepth 100000 in
theorem go_X11_punch {Γ : Cx} (hO : Ok Γ mX11_punch) (h : Hp) (x0 : Nat) (x1 : Int32) (x2 : Int32) (x3 : Int32) (hx0 : Is x0 11) {K : Hp × Int32 → Prop} (hR : ∀ r, K r → emHI r = tgt Γ) : EG Γ mX11_punch 0 [(0, rf Γ x0), (1, .int x1), (2, .int x2), (3, .int x3)] [] h (F_X11_punch h x0 x1 x2 x3) K := by
  unfold F_X11_punch
  refine x_iload_n hO 1 rfl rfl dX11_punch_0 ?_
  refine y_PI (x_callS hO lt_RX11_96 (As := [.int x1]) rfl (Nat.le_of_ble_eq_true rfl) (ok_X11_isTray (cG Γ) h x1) dX11_punch_1 rfl (Nat.le_of_ble_eq_true rfl)) (fun r1 => ?_)
  refine x_if_eq hO (tg := 26) dX11_punch_4 (by decide) ?_ ?_
  · refine x_aload_n hO 0 rfl rfl dX11_punch_26 ?_
    refine x_iconst hO (v := 1) (by decide) dX11_punch_27 ?_
    refine y_HI (x_callV hO lv_RX11_119 hx0 vc_11 (by decide) (As := [.int ((1 : Int32))]) rfl (Nat.le_of_ble_eq_true rfl) (ok_X11_refuse (cG Γ) h x0 ((1 : Int32)) hx0) dX11_punch_28 rfl (Nat.le_of_ble_eq_true rfl)) (fun r2 => ?_)
    exact x_iret hO rfl dX11_punch_31 (hR _)
  · refine x_iload_n hO 2 rfl rfl dX11_punch_7 ?_
    refine x_if_lt hO (tg := 26) dX11_punch_8 (by decide) ?_ ?_
    · refine x_aload_n hO 0 rfl rfl dX11_punch_26 ?_
      refine x_iconst hO (v := 1) (by decide) dX11_punch_27 ?_
      refine y_HI (x_callV hO lv_RX11_119 hx0 vc_11 (by decide) (As := [.int ((1 : Int32))]) rfl (Nat.le_of_ble_eq_true rfl) (ok_X11_refuse (cG Γ) h x0 ((1 : Int32)) hx0) dX11_punch_28 rfl (Nat.le_of_ble_eq_true rfl)) (fun r3 => ?_)
      exact x_iret hO rfl dX11_punch_31 (hR _)
    · refine x_iload_n hO 2 rfl rfl dX11_punch_11 ?_
      refine x_iconst hO (v := 1) (by decide) dX11_punch_12 ?_
      refine x_icmp_gt hO (tg := 26) dX11_punch_13 (by decide) ?_ ?_
      · refine x_aload_n hO 0 rfl rfl dX11_punch_26 ?_
        refine x_iconst hO (v := 1) (by decide) dX11_punch_27 ?_
        refine y_HI (x_callV hO lv_RX11_119 hx0 vc_11 (by decide) (As := [.int ((1 : Int32))]) rfl (Nat.le_of_ble_eq_true rfl) (ok_X11_refuse (cG Γ) h x0 ((1 : Int32)) hx0) dX11_punch_28 rfl (Nat.le_of_ble_eq_true rfl)) (fun r4 => ?_)
        exact x_iret hO rfl dX11_punch_31 (hR _)
      · refine x_iload_n hO 3 rfl rfl dX11_punch_16 ?_
        refine x_iconst hO (v := -1) (by decide) dX11_punch_17 ?_
        refine x_icmp_lt hO (tg := 26) dX11_punch_18 (by decide) ?_ ?_
        · refine x_aload_n hO 0 rfl rfl dX11_punch_26 ?_
          refine x_iconst hO (v := 1) (by decide) dX11_punch_27 ?_
          refine y_HI (x_callV hO lv_RX11_119 hx0 vc_11 (by decide) (As := [.int ((1 : Int32))]) rfl (Nat.le_of_ble_eq_true rfl) (ok_X11_refuse (cG Γ) h x0 ((1 : Int32)) hx0) dX11_punch_28 rfl (Nat.le_of_ble_eq_true rfl)) (fun r5 => ?_)
          exact x_iret hO rfl dX11_punch_31 (hR _)
        · refine x_iload_n hO 3 rfl rfl dX11_punch_21 ?_
          refine x_iconst hO (v := 1) (by decide) dX11_punch_22 ?_
          refine x_icmp_le hO (tg := 32) dX11_punch_23 (by decide) ?_ ?_
          · refine x_aload_n hO 0 rfl rfl dX11_punch_32 ?_
            refine x_iload_n hO 1 rfl rfl dX11_punch_33 ?_
            refine x_bipush hO (v := 8) (by decide) dX11_punch_34 ?_
            refine y_PI (x_callV hO lv_RX11_144 hx0 vc_11 (by decide) (As := [.int x1, .int ((8 : Int32))]) rfl (Nat.le_of_ble_eq_true rfl) (ok_X11_rowStatus (cG Γ) h x0 x1 ((8 : Int32)) hx0) dX11_punch_36 rfl (Nat.le_of_ble_eq_true rfl)) (fun r6 => ?_)
            refine x_istore hO [(4, .int r6), (0, rf Γ x0), (1, .int x1), (2, .int x2), (3, .int x3)] dX11_punch_39 (by decide) rfl ?_
            refine x_iload hO 0 rfl dX11_punch_41 ?_
            refine x_if_eq hO (tg := 53) dX11_punch_43 (by decide) ?_ ?_
            · refine x_aload_n hO 1 rfl rfl dX11_punch_53 ?_
              refine x_getR hO fl_RX11_11 hx0 dX11_punch_54 ?_
              refine x_iload_n hO 2 rfl rfl dX11_punch_57 ?_
              refine x_aaldT hO (gr_11_0 hx0) dX11_punch_58 (fun q7 => ?_)
              refine x_bipush hO (v := 8) (by decide) dX11_punch_59 ?_
              refine x_sipush hO (v := 4095) (by decide) dX11_punch_61 ?_
              refine y_PI (x_callV hO lv_RX11_147 q7 vc_10 (by decide) (As := [.int ((8 : Int32)), .int ((4095 : Int32))]) rfl (Nat.le_of_ble_eq_true rfl) (ok_X10_allWithin (cG Γ) h (GR (GR x0 0) (nx x1)) ((8 : Int32)) ((4095 : Int32)) q7) dX11_punch_64 rfl (Nat.le_of_ble_eq_true rfl)) (fun r8 => ?_)
              refine x_if_ne hO (tg := 76) dX11_punch_67 (by decide) ?_ ?_
              · refine x_aload_n hO 1 rfl rfl dX11_punch_76 ?_
                refine x_getR hO fl_RX11_22 hx0 dX11_punch_77 ?_
                refine x_getI hO fl_RX11_150 (gr_11_2 hx0) dX11_punch_80 ?_
                refine x_bipush hO (v := 30) (by decide) dX11_punch_83 ?_
                refine x_icmp_lt hO (tg := 94) dX11_punch_85 (by decide) ?_ ?_
                · refine x_aload_n hO 1 rfl rfl dX11_punch_94 ?_
                  refine x_aload_n hO 1 rfl rfl dX11_punch_95 ?_
                  refine x_getR hO fl_RX11_22 hx0 dX11_punch_96 ?_
                  refine x_aload_n hO 1 rfl rfl dX11_punch_99 ?_
                  refine x_getR hO fl_RX11_11 hx0 dX11_punch_100 ?_
                  refine x_iload_n hO 2 rfl rfl dX11_punch_103 ?_
                  refine x_aaldT hO (gr_11_0 hx0) dX11_punch_104 (fun q9 => ?_)
                  refine x_getR hO fl_RX11_123 q9 dX11_punch_105 ?_
                  refine x_iload_n hO 3 rfl rfl dX11_punch_108 ?_
                  refine x_iload_n hO 4 rfl rfl dX11_punch_109 ?_
                  refine y_HI (x_callV hO lv_RX11_153 (gr_11_2 hx0) vc_2 (by decide) (As := [rf Γ (GR (GR (GR x0 0) (nx x1)) 3), .int x2, .int x3]) rfl (Nat.le_of_ble_eq_true rfl) (ok_X2_addCard (cG Γ) h (GR x0 2) (GR (GR (GR x0 0) (nx x1)) 3) x2 x3 (gr_11_2 hx0) (gr_10_3 q9)) dX11_punch_110 rfl (Nat.le_of_ble_eq_true rfl)) (fun r10 => ?_)
                  refine y_HI (x_callV hO lv_RX11_157 hx0 vc_11 (by decide) (As := [.int r10.2]) rfl (Nat.le_of_ble_eq_true rfl) (ok_X11_answer (cG Γ) r10.1 x0 r10.2 hx0) dX11_punch_113 rfl (Nat.le_of_ble_eq_true rfl)) (fun r11 => ?_)
                  exact x_iret hO rfl dX11_punch_116 (hR _)
                · refine x_aload_n hO 1 rfl rfl dX11_punch_88 ?_
                  refine x_iconst hO (v := 4) (by decide) dX11_punch_89 ?_
                  refine y_HI (x_callV hO lv_RX11_119 hx0 vc_11 (by decide) (As := [.int ((4 : Int32))]) rfl (Nat.le_of_ble_eq_true rfl) (ok_X11_refuse (cG Γ) h x0 ((4 : Int32)) hx0) dX11_punch_90 rfl (Nat.le_of_ble_eq_true rfl)) (fun r12 => ?_)
                  exact x_iret hO rfl dX11_punch_93 (hR _)
              · refine x_aload_n hO 1 rfl rfl dX11_punch_70 ?_
                refine x_iconst hO (v := 5) (by decide) dX11_punch_71 ?_
                refine y_HI (x_callV hO lv_RX11_119 hx0 vc_11 (by decide) (As := [.int ((5 : Int32))]) rfl (Nat.le_of_ble_eq_true rfl) (ok_X11_refuse (cG Γ) h x0 ((5 : Int32)) hx0) dX11_punch_72 rfl (Nat.le_of_ble_eq_true rfl)) (fun r13 => ?_)
                exact x_iret hO rfl dX11_punch_75 (hR _)
            · refine x_aload_n hO 1 rfl rfl dX11_punch_46 ?_
              refine x_iload hO 0 rfl dX11_punch_47 ?_
              refine y_HI (x_callV hO lv_RX11_119 hx0 vc_11 (by decide) (As := [.int r6]) rfl (Nat.le_of_ble_eq_true rfl) (ok_X11_refuse (cG Γ) h x0 r6 hx0) dX11_punch_49 rfl (Nat.le_of_ble_eq_true rfl)) (fun r14 => ?_)
              exact x_iret hO rfl dX11_punch_52 (hR _)
          · refine x_aload_n hO 0 rfl rfl dX11_punch_26 ?_
            refine x_iconst hO (v := 1) (by decide) dX11_punch_27 ?_
            refine y_HI (x_callV hO lv_RX11_119 hx0 vc_11 (by decide) (As := [.int ((1 : Int32))]) rfl (Nat.le_of_ble_eq_true rfl) (ok_X11_refuse (cG Γ) h x0 ((1 : Int32)) hx0) dX11_punch_28 rfl (Nat.le_of_ble_eq_true rfl)) (fun r15 => ?_)
            exact x_iret hO rfl dX11_punch_31 (hR _)
theorem ok_X11_punch (G : Gl) (h : Hp) (x0 : Nat) (x1 : Int32) (x2 : Int32) (x3 : Int32) (hx0 : Is x0 11) : CN G mX11_punch [.ref (gb G + x0), .int x1, .int x2, .int x3] h ((F_X11_punch h x0 x1 x2 x3).map (emHI)) := CN.fn pn_RX11 (Nat.le_of_ble_eq_true rfl) (fun Γ hG hO => by subst hG; exact go_X11_punch hO h x0 x1 x2 x3 hx0 (fun _ q => q))
