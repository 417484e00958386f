noncomputable def B_X12_wrongKey_45 (h : Hp) (x0 : Nat) (x1 : Int32) (x2 : Int32) (x3 : Int32) : Option ((Hp × Int32) ⊕ (Hp × Int32)) :=
  if x2 ≤ x3 then some (.inr ((uI h x0 30 x2, (0 : Int32)))) else gd (ib ((((60 : Int32)) * x1) + x3) (LEN (GR x0 6))) ((F_X12_isFrom h (hL h (GR x0 6) (nx ((((60 : Int32)) * x1) + x3))) ((0 : Int64)) ((23 : Int64))).bind (fun r1 => if r1 = 0 then some (.inr ((h, (5 : Int32)))) else gd (ib x3 (LEN (GR x0 28))) (bnd (uI h (GR x0 28) (nx x3) (((hL h (GR x0 6) (nx ((((60 : Int32)) * x1) + x3))).toInt32) - ((hL h (GR x0 6) (nx ((((60 : Int32)) * x1) + x3))).toInt32) / ((8 : Int32)) * ((8 : Int32)))) (fun h2 => gd (ib x3 (LEN (GR x0 29))) (some (.inl (uI h2 (GR x0 29) (nx x3) (((hL h (GR x0 6) (nx ((((60 : Int32)) * x1) + x3))).toInt32) / ((8 : Int32))), x3 + (1 : Int32))))))))
noncomputable def L_X12_wrongKey_45 (h : Hp) (x0 : Nat) (x1 : Int32) (x2 : Int32) (x3 : Int32) : Option (Hp × Int32) := iterW (fun s : Hp × Int32 => B_X12_wrongKey_45 s.1 x0 x1 x2 s.2) (h, x3)
set_option maxHeartbeats 4000000 in
set_option maxRecDepth 100000 in
theorem go_X12_wrongKey_B45 {Γ : Cx} (hO : Ok Γ mX12_wrongKey) (h : Hp) (x0 : Nat) (x1 : Int32) (x2 : Int32) (x3 : Int32) (hx0 : Is x0 12) {K : (Hp × Int32) ⊕ (Hp × Int32) → Prop} (hC : ∀ (h : Hp) (x3 : Int32), K (.inl (h, x3)) → EW Γ mX12_wrongKey 45 [(0, rf Γ x0), (1, .int x1), (2, .int x2), (3, .int x3)] [] h) (hR : ∀ r, K (.inr r) → emHI r = tgt Γ) : EG Γ mX12_wrongKey 45 [(0, rf Γ x0), (1, .int x1), (2, .int x2), (3, .int x3)] [] h (B_X12_wrongKey_45 h x0 x1 x2 x3) K := by
  unfold B_X12_wrongKey_45
  refine x_iload_n hO 3 rfl rfl dX12_wrongKey_45 ?_
  refine x_iload_n hO 2 rfl rfl dX12_wrongKey_46 ?_
  refine x_icmp_ge hO (tg := 107) dX12_wrongKey_47 (by decide) ?_ ?_
  · refine x_aload_n hO 0 rfl rfl dX12_wrongKey_107 ?_
    refine x_iload_n hO 2 rfl rfl dX12_wrongKey_108 ?_
    refine x_putI hO fl_RX12_299 hx0 dX12_wrongKey_109 ?_
    refine x_iconst hO (v := 0) (by decide) dX12_wrongKey_112 ?_
    exact x_iret hO rfl dX12_wrongKey_113 (hR _)
  · refine x_aload_n hO 0 rfl rfl dX12_wrongKey_50 ?_
    refine x_getR hO fl_RX12_23 hx0 dX12_wrongKey_51 ?_
    refine x_bipush hO (v := 60) (by decide) dX12_wrongKey_54 ?_
    refine x_iload_n hO 1 rfl rfl dX12_wrongKey_56 ?_
    refine x_imul hO dX12_wrongKey_57 ?_
    refine x_iload_n hO 3 rfl rfl dX12_wrongKey_58 ?_
    refine x_iadd hO dX12_wrongKey_59 ?_
    refine x_lald hO (gr_12_6 hx0) dX12_wrongKey_60 ?_
    refine x_lstore hO [(4, .long (hL h (GR x0 6) (nx ((((60 : Int32)) * x1) + x3)))), (0, rf Γ x0), (1, .int x1), (2, .int x2), (3, .int x3)] dX12_wrongKey_61 (by decide) rfl ?_
    refine x_lload hO 0 rfl dX12_wrongKey_63 ?_
    refine x_lconst hO (v := 0) (by decide) dX12_wrongKey_65 ?_
    refine x_ldc2 hO cn_RX12_297 dX12_wrongKey_66 ?_
    refine y_PI (x_callS hO lt_RX12_142 (As := [.long (hL h (GR x0 6) (nx ((((60 : Int32)) * x1) + x3))), .long ((0 : Int64)), .long ((23 : Int64))]) rfl (Nat.le_of_ble_eq_true rfl) (ok_X12_isFrom (cG Γ) h (hL h (GR x0 6) (nx ((((60 : Int32)) * x1) + x3))) ((0 : Int64)) ((23 : Int64))) dX12_wrongKey_69 rfl (Nat.le_of_ble_eq_true rfl)) (fun r1 => ?_)
    refine x_if_ne hO (tg := 77) dX12_wrongKey_72 (by decide) ?_ ?_
    · refine x_aload_n hO 1 rfl rfl dX12_wrongKey_77 ?_
      refine x_getR hO fl_RX12_59 hx0 dX12_wrongKey_78 ?_
      refine x_iload_n hO 4 rfl rfl dX12_wrongKey_81 ?_
      refine x_lload hO 0 rfl dX12_wrongKey_82 ?_
      refine x_l2i hO dX12_wrongKey_84 ?_
      refine x_bipush hO (v := 8) (by decide) dX12_wrongKey_85 ?_
      refine x_iremc hO (by decide) dX12_wrongKey_87 ?_
      refine x_iast hO (gr_12_28 hx0) dX12_wrongKey_88 ?_
      refine x_bnd ?_
      generalize uI h (GR x0 28) (nx x3) (((hL h (GR x0 6) (nx ((((60 : Int32)) * x1) + x3))).toInt32) - ((hL h (GR x0 6) (nx ((((60 : Int32)) * x1) + x3))).toInt32) / ((8 : Int32)) * ((8 : Int32))) = h2
      refine x_aload_n hO 1 rfl rfl dX12_wrongKey_89 ?_
      refine x_getR hO fl_RX12_62 hx0 dX12_wrongKey_90 ?_
      refine x_iload_n hO 4 rfl rfl dX12_wrongKey_93 ?_
      refine x_lload hO 0 rfl dX12_wrongKey_94 ?_
      refine x_l2i hO dX12_wrongKey_96 ?_
      refine x_bipush hO (v := 8) (by decide) dX12_wrongKey_97 ?_
      refine x_idivc hO (by decide) dX12_wrongKey_99 ?_
      refine x_iast hO (gr_12_29 hx0) dX12_wrongKey_100 ?_
      refine x_iinc hO 4 (v := 1) [(3, .int (x3 + (1 : Int32))), (4, .long (hL h (GR x0 6) (nx ((((60 : Int32)) * x1) + x3)))), (0, rf Γ x0), (1, .int x1), (2, .int x2)] dX12_wrongKey_101 rfl (by decide) (by decide) rfl ?_
      refine x_goto hO (tg := 45) dX12_wrongKey_104 (by decide) ?_
      exact x_leafs [2, 3, 4, 0] rfl (hC (uI h2 (GR x0 29) (nx x3) (((hL h (GR x0 6) (nx ((((60 : Int32)) * x1) + x3))).toInt32) / ((8 : Int32)))) (x3 + (1 : Int32)))
    · refine x_iconst hO (v := 5) (by decide) dX12_wrongKey_75 ?_
      exact x_iret hO rfl dX12_wrongKey_76 (hR _)
set_option maxHeartbeats 4000000 in
set_option maxRecDepth 100000 in
theorem go_X12_wrongKey_L45 {Γ : Cx} (hO : Ok Γ mX12_wrongKey) (h : Hp) (x0 : Nat) (x1 : Int32) (x2 : Int32) (x3 : Int32) (hx0 : Is x0 12) {K : Hp × Int32 → Prop} (hR : ∀ r, K (r) → emHI r = tgt Γ) : EG Γ mX12_wrongKey 45 [(0, rf Γ x0), (1, .int x1), (2, .int x2), (3, .int x3)] [] h (L_X12_wrongKey_45 h x0 x1 x2 x3) K := by
  have q := x_loop (Γ := Γ) (M := mX12_wrongKey) (pc := 45) (B := fun s : Hp × Int32 => B_X12_wrongKey_45 s.1 x0 x1 x2 s.2) (lvf := fun s => [(0, rf Γ x0), (1, .int x1), (2, .int x2), (3, .int s.2)]) (hf := fun s => s.1) (Ky := K) (fun s => go_X12_wrongKey_B45 hO s.1 x0 x1 x2 s.2 hx0 (fun _ _ => id) hR) (h, x3)
  exact q
noncomputable def F_X12_wrongKey (h : Hp) (x0 : Nat) (x1 : Int32) (x2 : Int32) : Option (Hp × Int32) :=
  (F_X12_isTray h x1).bind (fun r1 => if r1 = 0 then some ((h, (1 : Int32))) else if x2 < ((1 : Int32)) then some ((h, (1 : Int32))) else if x2 ≤ ((4 : Int32)) then gd (ib x1 (LEN (GR x0 5))) (if (hI h (GR x0 5) (nx x1)) = ((-1 : Int32)) then some ((h, (2 : Int32))) else gd (ib x1 (LEN (GR x0 5))) (if x2 ≤ (hI h (GR x0 5) (nx x1)) then L_X12_wrongKey_45 h x0 x1 x2 ((0 : Int32)) else some ((h, (3 : Int32))))) else some ((h, (1 : Int32))))
set_option maxHeartbeats 4000000 in
set_option maxRecDepth 100000 in
theorem go_X12_wrongKey {Γ : Cx} (hO : Ok Γ mX12_wrongKey) (h : Hp) (x0 : Nat) (x1 : Int32) (x2 : Int32) (hx0 : Is x0 12) {K : Hp × Int32 → Prop} (hR : ∀ r, K r → emHI r = tgt Γ) : EG Γ mX12_wrongKey 0 [(0, rf Γ x0), (1, .int x1), (2, .int x2)] [] h (F_X12_wrongKey h x0 x1 x2) K := by
  unfold F_X12_wrongKey
  refine x_iload_n hO 1 rfl rfl dX12_wrongKey_0 ?_
  refine y_PI (x_callS hO lt_RX12_113 (As := [.int x1]) rfl (Nat.le_of_ble_eq_true rfl) (ok_X12_isTray (cG Γ) h x1) dX12_wrongKey_1 rfl (Nat.le_of_ble_eq_true rfl)) (fun r1 => ?_)
  refine x_if_eq hO (tg := 17) dX12_wrongKey_4 (by decide) ?_ ?_
  · refine x_iconst hO (v := 1) (by decide) dX12_wrongKey_17 ?_
    exact x_iret hO rfl dX12_wrongKey_18 (hR _)
  · refine x_iload_n hO 2 rfl rfl dX12_wrongKey_7 ?_
    refine x_iconst hO (v := 1) (by decide) dX12_wrongKey_8 ?_
    refine x_icmp_lt hO (tg := 17) dX12_wrongKey_9 (by decide) ?_ ?_
    · refine x_iconst hO (v := 1) (by decide) dX12_wrongKey_17 ?_
      exact x_iret hO rfl dX12_wrongKey_18 (hR _)
    · refine x_iload_n hO 2 rfl rfl dX12_wrongKey_12 ?_
      refine x_iconst hO (v := 4) (by decide) dX12_wrongKey_13 ?_
      refine x_icmp_le hO (tg := 19) dX12_wrongKey_14 (by decide) ?_ ?_
      · refine x_aload_n hO 0 rfl rfl dX12_wrongKey_19 ?_
        refine x_getR hO fl_RX12_20 hx0 dX12_wrongKey_20 ?_
        refine x_iload_n hO 1 rfl rfl dX12_wrongKey_23 ?_
        refine x_iald hO (gr_12_5 hx0) dX12_wrongKey_24 ?_
        refine x_iconst hO (v := -1) (by decide) dX12_wrongKey_25 ?_
        refine x_icmp_ne hO (tg := 31) dX12_wrongKey_26 (by decide) ?_ ?_
        · refine x_aload_n hO 0 rfl rfl dX12_wrongKey_31 ?_
          refine x_getR hO fl_RX12_20 hx0 dX12_wrongKey_32 ?_
          refine x_iload_n hO 1 rfl rfl dX12_wrongKey_35 ?_
          refine x_iald hO (gr_12_5 hx0) dX12_wrongKey_36 ?_
          refine x_iload_n hO 2 rfl rfl dX12_wrongKey_37 ?_
          refine x_icmp_ge hO (tg := 43) dX12_wrongKey_38 (by decide) ?_ ?_
          · refine x_iconst hO (v := 0) (by decide) dX12_wrongKey_43 ?_
            refine x_istore_n hO rfl [(3, .int ((0 : Int32))), (0, rf Γ x0), (1, .int x1), (2, .int x2)] dX12_wrongKey_44 (by decide) rfl ?_
            exact x_sub [1, 2, 3, 0] rfl (go_X12_wrongKey_L45 hO h x0 x1 x2 ((0 : Int32)) hx0 hR)
          · refine x_iconst hO (v := 3) (by decide) dX12_wrongKey_41 ?_
            exact x_iret hO rfl dX12_wrongKey_42 (hR _)
        · refine x_iconst hO (v := 2) (by decide) dX12_wrongKey_29 ?_
          exact x_iret hO rfl dX12_wrongKey_30 (hR _)
      · refine x_iconst hO (v := 1) (by decide) dX12_wrongKey_17 ?_
        exact x_iret hO rfl dX12_wrongKey_18 (hR _)
theorem ok_X12_wrongKey (G : Gl) (h : Hp) (x0 : Nat) (x1 : Int32) (x2 : Int32) (hx0 : Is x0 12) : CN G mX12_wrongKey [.ref (gb G + x0), .int x1, .int x2] h ((F_X12_wrongKey h x0 x1 x2).map (emHI)) := CN.fn pn_RX12 (Nat.le_of_ble_eq_true rfl) (fun Γ hG hO => by subst hG; exact go_X12_wrongKey hO h x0 x1 x2 hx0 (fun _ q => q))
noncomputable def F_X12_wrongPlace (h : Hp) (x0 : Nat) (x1 : Int32) (x2 : Int32) : Option (Int32) :=
  (F_X12_isTray h x1).bind (fun r1 => if r1 = 0 then some ((1 : Int32)) else gd (ib x1 (LEN (GR x0 5))) (if (hI h (GR x0 5) (nx x1)) = ((-1 : Int32)) then some ((2 : Int32)) else if x2 < 0 then some ((3 : Int32)) else gd (ib x1 (LEN (GR x0 5))) (if x2 < (hI h (GR x0 5) (nx x1)) then some ((0 : Int32)) else some ((3 : Int32)))))
set_option maxHeartbeats 4000000 in
set_option maxRecDepth 100000 in
theorem go_X12_wrongPlace {Γ : Cx} (hO : Ok Γ mX12_wrongPlace) (h : Hp) (x0 : Nat) (x1 : Int32) (x2 : Int32) (hx0 : Is x0 12) {K : Int32 → Prop} (hR : ∀ r, K r → emPI h r = tgt Γ) : EG Γ mX12_wrongPlace 0 [(0, rf Γ x0), (1, .int x1), (2, .int x2)] [] h (F_X12_wrongPlace h x0 x1 x2) K := by
  unfold F_X12_wrongPlace
  refine x_iload_n hO 1 rfl rfl dX12_wrongPlace_0 ?_
  refine y_PI (x_callS hO lt_RX12_113 (As := [.int x1]) rfl (Nat.le_of_ble_eq_true rfl) (ok_X12_isTray (cG Γ) h x1) dX12_wrongPlace_1 rfl (Nat.le_of_ble_eq_true rfl)) (fun r1 => ?_)
  refine x_if_ne hO (tg := 11) dX12_wrongPlace_4 (by decide) ?_ ?_
  · refine x_aload_n hO 0 rfl rfl dX12_wrongPlace_11 ?_
    refine x_getR hO fl_RX12_20 hx0 dX12_wrongPlace_12 ?_
    refine x_iload_n hO 1 rfl rfl dX12_wrongPlace_15 ?_
    refine x_iald hO (gr_12_5 hx0) dX12_wrongPlace_16 ?_
    refine x_iconst hO (v := -1) (by decide) dX12_wrongPlace_17 ?_
    refine x_icmp_ne hO (tg := 25) dX12_wrongPlace_18 (by decide) ?_ ?_
    · refine x_iload_n hO 2 rfl rfl dX12_wrongPlace_25 ?_
      refine x_if_lt hO (tg := 39) dX12_wrongPlace_26 (by decide) ?_ ?_
      · refine x_iconst hO (v := 3) (by decide) dX12_wrongPlace_39 ?_
        refine x_goto hO (tg := 44) dX12_wrongPlace_40 (by decide) ?_
        exact x_iret hO rfl dX12_wrongPlace_44 (hR _)
      · refine x_iload_n hO 2 rfl rfl dX12_wrongPlace_29 ?_
        refine x_aload_n hO 0 rfl rfl dX12_wrongPlace_30 ?_
        refine x_getR hO fl_RX12_20 hx0 dX12_wrongPlace_31 ?_
        refine x_iload_n hO 1 rfl rfl dX12_wrongPlace_34 ?_
        refine x_iald hO (gr_12_5 hx0) dX12_wrongPlace_35 ?_
        refine x_icmp_lt hO (tg := 43) dX12_wrongPlace_36 (by decide) ?_ ?_
        · refine x_iconst hO (v := 0) (by decide) dX12_wrongPlace_43 ?_
          exact x_iret hO rfl dX12_wrongPlace_44 (hR _)
        · refine x_iconst hO (v := 3) (by decide) dX12_wrongPlace_39 ?_
          refine x_goto hO (tg := 44) dX12_wrongPlace_40 (by decide) ?_
          exact x_iret hO rfl dX12_wrongPlace_44 (hR _)
    · refine x_iconst hO (v := 2) (by decide) dX12_wrongPlace_21 ?_
      refine x_goto hO (tg := 44) dX12_wrongPlace_22 (by decide) ?_
      exact x_iret hO rfl dX12_wrongPlace_44 (hR _)
  · refine x_iconst hO (v := 1) (by decide) dX12_wrongPlace_7 ?_
    refine x_goto hO (tg := 44) dX12_wrongPlace_8 (by decide) ?_
    exact x_iret hO rfl dX12_wrongPlace_44 (hR _)
theorem ok_X12_wrongPlace (G : Gl) (h : Hp) (x0 : Nat) (x1 : Int32) (x2 : Int32) (hx0 : Is x0 12) : CN G mX12_wrongPlace [.ref (gb G + x0), .int x1, .int x2] h ((F_X12_wrongPlace h x0 x1 x2).map (emPI h)) := CN.fn pn_RX12 (Nat.le_of_ble_eq_true rfl) (fun Γ hG hO => by subst hG; exact go_X12_wrongPlace hO h x0 x1 x2 hx0 (fun _ q => q))
noncomputable def B_X2_fieldOf_6 (h : Hp) (x0 : Nat) (x1 : Int32) (x3 : Int32) (x4 : Int32) (x5 : Int32) : Option ((Int32 × Int32) ⊕ (Int32)) :=
  if x3 < x5 then some (.inr x4) else (F_X2_reading h x0 x1 x5).bind (fun r1 => if r1 = ((11 : Int32)) then some (.inr ((-1 : Int32))) else if r1 = ((10 : Int32)) then some (.inl ((x4 * ((10 : Int32))) + ((0 : Int32)), x5 + (1 : Int32))) else some (.inl ((x4 * ((10 : Int32))) + r1, x5 + (1 : Int32))))
noncomputable def L_X2_fieldOf_6 (h : Hp) (x0 : Nat) (x1 : Int32) (x3 : Int32) (x4 : Int32) (x5 : Int32) : Option (Int32) := iterW (fun s : Int32 × Int32 => B_X2_fieldOf_6 h x0 x1 x3 s.1 s.2) (x4, x5)
set_option maxHeartbeats 4000000 in
set_option maxRecDepth 100000 in
theorem go_X2_fieldOf_B6 {Γ : Cx} (hO : Ok Γ mX2_fieldOf) (h : Hp) (x0 : Nat) (x1 : Int32) (x3 : Int32) (x4 : Int32) (x5 : Int32) (hx0 : Is x0 2) {K : (Int32 × Int32) ⊕ (Int32) → Prop} (hC : ∀ (x4 : Int32) (x5 : Int32), K (.inl (x4, x5)) → EW Γ mX2_fieldOf 6 [(0, rf Γ x0), (1, .int x1), (3, .int x3), (4, .int x4), (5, .int x5)] [] h) (hR : ∀ r, K (.inr r) → emPI h r = tgt Γ) : EG Γ mX2_fieldOf 6 [(0, rf Γ x0), (1, .int x1), (3, .int x3), (4, .int x4), (5, .int x5)] [] h (B_X2_fieldOf_6 h x0 x1 x3 x4 x5) K := by
  unfold B_X2_fieldOf_6
  refine x_iload hO 4 rfl dX2_fieldOf_6 ?_
  refine x_iload_n hO 2 rfl rfl dX2_fieldOf_8 ?_
  refine x_icmp_gt hO (tg := 57) dX2_fieldOf_9 (by decide) ?_ ?_
  · refine x_iload hO 3 rfl dX2_fieldOf_57 ?_
    exact x_iret hO rfl dX2_fieldOf_59 (hR _)
  · refine x_aload_n hO 0 rfl rfl dX2_fieldOf_12 ?_
    refine x_iload_n hO 1 rfl rfl dX2_fieldOf_13 ?_
    refine x_iload hO 4 rfl dX2_fieldOf_14 ?_
    refine y_PI (x_callV hO lv_RX2_72 hx0 vc_2 (by decide) (As := [.int x1, .int x5]) rfl (Nat.le_of_ble_eq_true rfl) (ok_X2_reading (cG Γ) h x0 x1 x5 hx0) dX2_fieldOf_16 rfl (Nat.le_of_ble_eq_true rfl)) (fun r1 => ?_)
    refine x_istore hO [(6, .int r1), (0, rf Γ x0), (1, .int x1), (3, .int x3), (4, .int x4), (5, .int x5)] dX2_fieldOf_19 (by decide) rfl ?_
    refine x_iload hO 0 rfl dX2_fieldOf_21 ?_
    refine x_bipush hO (v := 11) (by decide) dX2_fieldOf_23 ?_
    refine x_icmp_ne hO (tg := 30) dX2_fieldOf_25 (by decide) ?_ ?_
    · refine x_iload hO 4 rfl dX2_fieldOf_30 ?_
      refine x_bipush hO (v := 10) (by decide) dX2_fieldOf_32 ?_
      refine x_imul hO dX2_fieldOf_34 ?_
      refine x_iload hO 0 rfl dX2_fieldOf_35 ?_
      refine x_bipush hO (v := 10) (by decide) dX2_fieldOf_37 ?_
      refine x_icmp_ne hO (tg := 46) dX2_fieldOf_39 (by decide) ?_ ?_
      · refine x_iload hO 0 rfl dX2_fieldOf_46 ?_
        refine x_iadd hO dX2_fieldOf_48 ?_
        refine x_istore hO [(4, .int ((x4 * ((10 : Int32))) + r1)), (6, .int r1), (0, rf Γ x0), (1, .int x1), (3, .int x3), (5, .int x5)] dX2_fieldOf_49 (by decide) rfl ?_
        refine x_iinc hO 5 (v := 1) [(5, .int (x5 + (1 : Int32))), (4, .int ((x4 * ((10 : Int32))) + r1)), (6, .int r1), (0, rf Γ x0), (1, .int x1), (3, .int x3)] dX2_fieldOf_51 rfl (by decide) (by decide) rfl ?_
        refine x_goto hO (tg := 6) dX2_fieldOf_54 (by decide) ?_
        exact x_leafs [3, 4, 5, 1, 0] rfl (hC ((x4 * ((10 : Int32))) + r1) (x5 + (1 : Int32)))
      · refine x_iconst hO (v := 0) (by decide) dX2_fieldOf_42 ?_
        refine x_goto hO (tg := 48) dX2_fieldOf_43 (by decide) ?_
        refine x_iadd hO dX2_fieldOf_48 ?_
        refine x_istore hO [(4, .int ((x4 * ((10 : Int32))) + ((0 : Int32)))), (6, .int r1), (0, rf Γ x0), (1, .int x1), (3, .int x3), (5, .int x5)] dX2_fieldOf_49 (by decide) rfl ?_
        refine x_iinc hO 5 (v := 1) [(5, .int (x5 + (1 : Int32))), (4, .int ((x4 * ((10 : Int32))) + ((0 : Int32)))), (6, .int r1), (0, rf Γ x0), (1, .int x1), (3, .int x3)] dX2_fieldOf_51 rfl (by decide) (by decide) rfl ?_
        refine x_goto hO (tg := 6) dX2_fieldOf_54 (by decide) ?_
        exact x_leafs [3, 4, 5, 1, 0] rfl (hC ((x4 * ((10 : Int32))) + ((0 : Int32))) (x5 + (1 : Int32)))
    · refine x_iconst hO (v := -1) (by decide) dX2_fieldOf_28 ?_
      exact x_iret hO rfl dX2_fieldOf_29 (hR _)
set_option maxHeartbeats 4000000 in
set_option maxRecDepth 100000 in
theorem go_X2_fieldOf_L6 {Γ : Cx} (hO : Ok Γ mX2_fieldOf) (h : Hp) (x0 : Nat) (x1 : Int32) (x3 : Int32) (x4 : Int32) (x5 : Int32) (hx0 : Is x0 2) {K : Int32 → Prop} (hR : ∀ r, K (r) → emPI h r = tgt Γ) : EG Γ mX2_fieldOf 6 [(0, rf Γ x0), (1, .int x1), (3, .int x3), (4, .int x4), (5, .int x5)] [] h (L_X2_fieldOf_6 h x0 x1 x3 x4 x5) K := by
  have q := x_loop (Γ := Γ) (M := mX2_fieldOf) (pc := 6) (B := fun s : Int32 × Int32 => B_X2_fieldOf_6 h x0 x1 x3 s.1 s.2) (lvf := fun s => [(0, rf Γ x0), (1, .int x1), (3, .int x3), (4, .int s.1), (5, .int s.2)]) (hf := fun s => h) (Ky := K) (fun s => go_X2_fieldOf_B6 hO h x0 x1 x3 s.1 s.2 hx0 (fun _ _ => id) hR) (x4, x5)
  exact q
noncomputable def F_X2_fieldOf (h : Hp) (x0 : Nat) (x1 : Int32) (x2 : Int32) (x3 : Int32) : Option (Int32) :=
  L_X2_fieldOf_6 h x0 x1 x3 ((0 : Int32)) x2
set_option maxHeartbeats 4000000 in
set_option maxRecDepth 100000 in
theorem go_X2_fieldOf {Γ : Cx} (hO : Ok Γ mX2_fieldOf) (h : Hp) (x0 : Nat) (x1 : Int32) (x2 : Int32) (x3 : Int32) (hx0 : Is x0 2) {K : Int32 → Prop} (hR : ∀ r, K r → emPI h r = tgt Γ) : EG Γ mX2_fieldOf 0 [(0, rf Γ x0), (1, .int x1), (2, .int x2), (3, .int x3)] [] h (F_X2_fieldOf h x0 x1 x2 x3) K := by
  unfold F_X2_fieldOf
  refine x_iconst hO (v := 0) (by decide) dX2_fieldOf_0 ?_
  refine x_istore hO [(4, .int ((0 : Int32))), (0, rf Γ x0), (1, .int x1), (2, .int x2), (3, .int x3)] dX2_fieldOf_1 (by decide) rfl ?_
  refine x_iload_n hO 3 rfl rfl dX2_fieldOf_3 ?_
  refine x_istore hO [(5, .int x2), (4, .int ((0 : Int32))), (0, rf Γ x0), (1, .int x1), (2, .int x2), (3, .int x3)] dX2_fieldOf_4 (by decide) rfl ?_
  exact x_sub [2, 3, 5, 1, 0] rfl (go_X2_fieldOf_L6 hO h x0 x1 x3 ((0 : Int32)) x2 hx0 hR)
theorem ok_X2_fieldOf (G : Gl) (h : Hp) (x0 : Nat) (x1 : Int32) (x2 : Int32) (x3 : Int32) (hx0 : Is x0 2) : CN G mX2_fieldOf [.ref (gb G + x0), .int x1, .int x2, .int x3] h ((F_X2_fieldOf h x0 x1 x2 x3).map (emPI h)) := CN.fn pn_RX2 (Nat.le_of_ble_eq_true rfl) (fun Γ hG hO => by subst hG; exact go_X2_fieldOf hO h x0 x1 x2 x3 hx0 (fun _ q => q))
noncomputable def B_X2_hasWrong_2 (h : Hp) (x0 : Nat) (x1 : Int32) (x2 : Int32) : Option ((Int32) ⊕ (Int32)) :=
  if ((8 : Int32)) ≤ x2 then some (.inr ((0 : Int32))) else (F_X2_reading h x0 x1 x2).bind (fun r1 => if r1 = ((11 : Int32)) then some (.inr ((1 : Int32))) else some (.inl (x2 + (1 : Int32))))
noncomputable def L_X2_hasWrong_2 (h : Hp) (x0 : Nat) (x1 : Int32) (x2 : Int32) : Option (Int32) := iterW (fun s : Int32 => B_X2_hasWrong_2 h x0 x1 s) x2
set_option maxHeartbeats 4000000 in
set_option maxRecDepth 100000 in
theorem go_X2_hasWrong_B2 {Γ : Cx} (hO : Ok Γ mX2_hasWrong) (h : Hp) (x0 : Nat) (x1 : Int32) (x2 : Int32) (hx0 : Is x0 2) {K : (Int32) ⊕ (Int32) → Prop} (hC : ∀ (x2 : Int32), K (.inl x2) → EW Γ mX2_hasWrong 2 [(0, rf Γ x0), (1, .int x1), (2, .int x2)] [] h) (hR : ∀ r, K (.inr r) → emPI h r = tgt Γ) : EG Γ mX2_hasWrong 2 [(0, rf Γ x0), (1, .int x1), (2, .int x2)] [] h (B_X2_hasWrong_2 h x0 x1 x2) K := by
  unfold B_X2_hasWrong_2
  refine x_iload_n hO 2 rfl rfl dX2_hasWrong_2 ?_
  refine x_bipush hO (v := 8) (by decide) dX2_hasWrong_3 ?_
  refine x_icmp_ge hO (tg := 27) dX2_hasWrong_5 (by decide) ?_ ?_
  · refine x_iconst hO (v := 0) (by decide) dX2_hasWrong_27 ?_
    exact x_zretv hO rfl (by decide) dX2_hasWrong_28 (hR _)
  · refine x_aload_n hO 0 rfl rfl dX2_hasWrong_8 ?_
    refine x_iload_n hO 1 rfl rfl dX2_hasWrong_9 ?_
    refine x_iload_n hO 2 rfl rfl dX2_hasWrong_10 ?_
    refine y_PI (x_callV hO lv_RX2_72 hx0 vc_2 (by decide) (As := [.int x1, .int x2]) rfl (Nat.le_of_ble_eq_true rfl) (ok_X2_reading (cG Γ) h x0 x1 x2 hx0) dX2_hasWrong_11 rfl (Nat.le_of_ble_eq_true rfl)) (fun r1 => ?_)
    refine x_bipush hO (v := 11) (by decide) dX2_hasWrong_14 ?_
    refine x_icmp_ne hO (tg := 21) dX2_hasWrong_16 (by decide) ?_ ?_
    · refine x_iinc hO 2 (v := 1) [(2, .int (x2 + (1 : Int32))), (0, rf Γ x0), (1, .int x1)] dX2_hasWrong_21 rfl (by decide) (by decide) rfl ?_
      refine x_goto hO (tg := 2) dX2_hasWrong_24 (by decide) ?_
      exact x_leafs [1, 2, 0] rfl (hC (x2 + (1 : Int32)))
    · refine x_iconst hO (v := 1) (by decide) dX2_hasWrong_19 ?_
      exact x_zretv hO rfl (by decide) dX2_hasWrong_20 (hR _)
set_option maxHeartbeats 4000000 in
set_option maxRecDepth 100000 in
theorem go_X2_hasWrong_L2 {Γ : Cx} (hO : Ok Γ mX2_hasWrong) (h : Hp) (x0 : Nat) (x1 : Int32) (x2 : Int32) (hx0 : Is x0 2) {K : Int32 → Prop} (hR : ∀ r, K (r) → emPI h r = tgt Γ) : EG Γ mX2_hasWrong 2 [(0, rf Γ x0), (1, .int x1), (2, .int x2)] [] h (L_X2_hasWrong_2 h x0 x1 x2) K := by
  have q := x_loop (Γ := Γ) (M := mX2_hasWrong) (pc := 2) (B := fun s : Int32 => B_X2_hasWrong_2 h x0 x1 s) (lvf := fun s => [(0, rf Γ x0), (1, .int x1), (2, .int s)]) (hf := fun s => h) (Ky := K) (fun s => go_X2_hasWrong_B2 hO h x0 x1 s hx0 (fun _ => id) hR) x2
  exact q
noncomputable def F_X2_hasWrong (h : Hp) (x0 : Nat) (x1 : Int32) : Option (Int32) :=
  L_X2_hasWrong_2 h x0 x1 ((0 : Int32))
set_option maxHeartbeats 4000000 in
set_option maxRecDepth 100000 in
theorem go_X2_hasWrong {Γ : Cx} (hO : Ok Γ mX2_hasWrong) (h : Hp) (x0 : Nat) (x1 : Int32) (hx0 : Is x0 2) {K : Int32 → Prop} (hR : ∀ r, K r → emPI h r = tgt Γ) : EG Γ mX2_hasWrong 0 [(0, rf Γ x0), (1, .int x1)] [] h (F_X2_hasWrong h x0 x1) K := by
  unfold F_X2_hasWrong
  refine x_iconst hO (v := 0) (by decide) dX2_hasWrong_0 ?_
  refine x_istore_n hO rfl [(2, .int ((0 : Int32))), (0, rf Γ x0), (1, .int x1)] dX2_hasWrong_1 (by decide) rfl ?_
  exact x_sub [1, 2, 0] rfl (go_X2_hasWrong_L2 hO h x0 x1 ((0 : Int32)) hx0 hR)
theorem ok_X2_hasWrong (G : Gl) (h : Hp) (x0 : Nat) (x1 : Int32) (hx0 : Is x0 2) : CN G mX2_hasWrong [.ref (gb G + x0), .int x1] h ((F_X2_hasWrong h x0 x1).map (emPI h)) := CN.fn pn_RX2 (Nat.le_of_ble_eq_true rfl) (fun Γ hG hO => by subst hG; exact go_X2_hasWrong hO h x0 x1 hx0 (fun _ q => q))
noncomputable def B_X2_howManyMean_5 (h : Hp) (x0 : Nat) (x1 : Int32) (x2 : Int32) (x3 : Int32) (x4 : Int32) : Option ((Int32 × Int32) ⊕ (Int32)) :=
  if (hI h x0 0) ≤ x4 then some (.inr x3) else (F_X2_holesOf h x0 x4 x2).bind (fun r1 => gd (ib x1 (LEN (GR (GR x0 8) 4))) (if r1 = (hI h (GR (GR x0 8) 4) (nx x1)) then some (.inl (x3 + (1 : Int32), x4 + (1 : Int32))) else some (.inl (x3, x4 + (1 : Int32)))))
noncomputable def L_X2_howManyMean_5 (h : Hp) (x0 : Nat) (x1 : Int32) (x2 : Int32) (x3 : Int32) (x4 : Int32) : Option (Int32) := iterW (fun s : Int32 × Int32 => B_X2_howManyMean_5 h x0 x1 x2 s.1 s.2) (x3, x4)
set_option maxHeartbeats 4000000 in
set_option maxRecDepth 100000 in
theorem go_X2_howManyMean_B5 {Γ : Cx} (hO : Ok Γ mX2_howManyMean) (h : Hp) (x0 : Nat) (x1 : Int32) (x2 : Int32) (x3 : Int32) (x4 : Int32) (hx0 : Is x0 2) {K : (Int32 × Int32) ⊕ (Int32) → Prop} (hC : ∀ (x3 : Int32) (x4 : Int32), K (.inl (x3, x4)) → EW Γ mX2_howManyMean 5 [(0, rf Γ x0), (1, .int x1), (2, .int x2), (3, .int x3), (4, .int x4)] [] h) (hR : ∀ r, K (.inr r) → emPI h r = tgt Γ) : EG Γ mX2_howManyMean 5 [(0, rf Γ x0), (1, .int x1), (2, .int x2), (3, .int x3), (4, .int x4)] [] h (B_X2_howManyMean_5 h x0 x1 x2 x3 x4) K := by
  unfold B_X2_howManyMean_5
  refine x_iload hO 4 rfl dX2_howManyMean_5 ?_
  refine x_aload_n hO 0 rfl rfl dX2_howManyMean_7 ?_
  refine x_getI hO fl_RX2_9 hx0 dX2_howManyMean_8 ?_
  refine x_icmp_ge hO (tg := 42) dX2_howManyMean_11 (by decide) ?_ ?_
  · refine x_iload_n hO 3 rfl rfl dX2_howManyMean_42 ?_
    exact x_iret hO rfl dX2_howManyMean_43 (hR _)
  · refine x_aload_n hO 0 rfl rfl dX2_howManyMean_14 ?_
    refine x_iload hO 4 rfl dX2_howManyMean_15 ?_
    refine x_iload_n hO 2 rfl rfl dX2_howManyMean_17 ?_
    refine y_PI (x_callV hO lv_RX2_89 hx0 vc_2 (by decide) (As := [.int x4, .int x2]) rfl (Nat.le_of_ble_eq_true rfl) (ok_X2_holesOf (cG Γ) h x0 x4 x2 hx0) dX2_howManyMean_18 rfl (Nat.le_of_ble_eq_true rfl)) (fun r1 => ?_)
    refine x_aload_n hO 0 rfl rfl dX2_howManyMean_21 ?_
    refine x_getR hO fl_RX2_40 hx0 dX2_howManyMean_22 ?_
    refine x_getR hO fl_RX2_92 (gr_2_8 hx0) dX2_howManyMean_25 ?_
    refine x_iload_n hO 1 rfl rfl dX2_howManyMean_28 ?_
    refine x_iald hO (gr_0_4 (gr_2_8 hx0)) dX2_howManyMean_29 ?_
    refine x_icmp_ne hO (tg := 36) dX2_howManyMean_30 (by decide) ?_ ?_
    · refine x_iinc hO 4 (v := 1) [(4, .int (x4 + (1 : Int32))), (0, rf Γ x0), (1, .int x1), (2, .int x2), (3, .int x3)] dX2_howManyMean_36 rfl (by decide) (by decide) rfl ?_
      refine x_goto hO (tg := 5) dX2_howManyMean_39 (by decide) ?_
      exact x_leafs [1, 2, 3, 4, 0] rfl (hC x3 (x4 + (1 : Int32)))
    · refine x_iinc hO 3 (v := 1) [(3, .int (x3 + (1 : Int32))), (0, rf Γ x0), (1, .int x1), (2, .int x2), (4, .int x4)] dX2_howManyMean_33 rfl (by decide) (by decide) rfl ?_
      refine x_iinc hO 4 (v := 1) [(4, .int (x4 + (1 : Int32))), (3, .int (x3 + (1 : Int32))), (0, rf Γ x0), (1, .int x1), (2, .int x2)] dX2_howManyMean_36 rfl (by decide) (by decide) rfl ?_
      refine x_goto hO (tg := 5) dX2_howManyMean_39 (by decide) ?_
      exact x_leafs [2, 3, 4, 1, 0] rfl (hC (x3 + (1 : Int32)) (x4 + (1 : Int32)))
set_option maxHeartbeats 4000000 in
set_option maxRecDepth 100000 in
theorem go_X2_howManyMean_L5 {Γ : Cx} (hO : Ok Γ mX2_howManyMean) (h : Hp) (x0 : Nat) (x1 : Int32) (x2 : Int32) (x3 : Int32) (x4 : Int32) (hx0 : Is x0 2) {K : Int32 → Prop} (hR : ∀ r, K (r) → emPI h r = tgt Γ) : EG Γ mX2_howManyMean 5 [(0, rf Γ x0), (1, .int x1), (2, .int x2), (3, .int x3), (4, .int x4)] [] h (L_X2_howManyMean_5 h x0 x1 x2 x3 x4) K := by
  have q := x_loop (Γ := Γ) (M := mX2_howManyMean) (pc := 5) (B := fun s : Int32 × Int32 => B_X2_howManyMean_5 h x0 x1 x2 s.1 s.2) (lvf := fun s => [(0, rf Γ x0), (1, .int x1), (2, .int x2), (3, .int s.1), (4, .int s.2)]) (hf := fun s => h) (Ky := K) (fun s => go_X2_howManyMean_B5 hO h x0 x1 x2 s.1 s.2 hx0 (fun _ _ => id) hR) (x3, x4)
  exact q
noncomputable def F_X2_howManyMean (h : Hp) (x0 : Nat) (x1 : Int32) (x2 : Int32) : Option (Int32) :=
  L_X2_howManyMean_5 h x0 x1 x2 ((0 : Int32)) ((0 : Int32))
set_option maxHeartbeats 4000000 in
set_option maxRecDepth 100000 in
theorem go_X2_howManyMean {Γ : Cx} (hO : Ok Γ mX2_howManyMean) (h : Hp) (x0 : Nat) (x1 : Int32) (x2 : Int32) (hx0 : Is x0 2) {K : Int32 → Prop} (hR : ∀ r, K r → emPI h r = tgt Γ) : EG Γ mX2_howManyMean 0 [(0, rf Γ x0), (1, .int x1), (2, .int x2)] [] h (F_X2_howManyMean h x0 x1 x2) K := by
  unfold F_X2_howManyMean
  refine x_iconst hO (v := 0) (by decide) dX2_howManyMean_0 ?_
  refine x_istore_n hO rfl [(3, .int ((0 : Int32))), (0, rf Γ x0), (1, .int x1), (2, .int x2)] dX2_howManyMean_1 (by decide) rfl ?_
  refine x_iconst hO (v := 0) (by decide) dX2_howManyMean_2 ?_
  refine x_istore hO [(4, .int ((0 : Int32))), (3, .int ((0 : Int32))), (0, rf Γ x0), (1, .int x1), (2, .int x2)] dX2_howManyMean_3 (by decide) rfl ?_
  exact x_sub [2, 3, 4, 1, 0] rfl (go_X2_howManyMean_L5 hO h x0 x1 x2 ((0 : Int32)) ((0 : Int32)) hx0 hR)
theorem ok_X2_howManyMean (G : Gl) (h : Hp) (x0 : Nat) (x1 : Int32) (x2 : Int32) (hx0 : Is x0 2) : CN G mX2_howManyMean [.ref (gb G + x0), .int x1, .int x2] h ((F_X2_howManyMean h x0 x1 x2).map (emPI h)) := CN.fn pn_RX2 (Nat.le_of_ble_eq_true rfl) (fun Γ hG hO => by subst hG; exact go_X2_howManyMean hO h x0 x1 x2 hx0 (fun _ q => q))
noncomputable def B_X2_howManyRead_5 (h : Hp) (x0 : Nat) (x1 : Int32) (x2 : Int32) (x3 : Int32) (x4 : Int32) : Option ((Int32 × Int32) ⊕ (Int32)) :=
  if (hI h x0 0) ≤ x4 then some (.inr x3) else (F_X2_reading h x0 x4 x1).bind (fun r1 => if r1 = x2 then some (.inl (x3 + (1 : Int32), x4 + (1 : Int32))) else some (.inl (x3, x4 + (1 : Int32))))
noncomputable def L_X2_howManyRead_5 (h : Hp) (x0 : Nat) (x1 : Int32) (x2 : Int32) (x3 : Int32) (x4 : Int32) : Option (Int32) := iterW (fun s : Int32 × Int32 => B_X2_howManyRead_5 h x0 x1 x2 s.1 s.2) (x3, x4)
set_option maxHeartbeats 4000000 in
set_option maxRecDepth 100000 in
theorem go_X2_howManyRead_B5 {Γ : Cx} (hO : Ok Γ mX2_howManyRead) (h : Hp) (x0 : Nat) (x1 : Int32) (x2 : Int32) (x3 : Int32) (x4 : Int32) (hx0 : Is x0 2) {K : (Int32 × Int32) ⊕ (Int32) → Prop} (hC : ∀ (x3 : Int32) (x4 : Int32), K (.inl (x3, x4)) → EW Γ mX2_howManyRead 5 [(0, rf Γ x0), (1, .int x1), (2, .int x2), (3, .int x3), (4, .int x4)] [] h) (hR : ∀ r, K (.inr r) → emPI h r = tgt Γ) : EG Γ mX2_howManyRead 5 [(0, rf Γ x0), (1, .int x1), (2, .int x2), (3, .int x3), (4, .int x4)] [] h (B_X2_howManyRead_5 h x0 x1 x2 x3 x4) K := by
  unfold B_X2_howManyRead_5
  refine x_iload hO 4 rfl dX2_howManyRead_5 ?_
  refine x_aload_n hO 0 rfl rfl dX2_howManyRead_7 ?_
  refine x_getI hO fl_RX2_9 hx0 dX2_howManyRead_8 ?_
  refine x_icmp_ge hO (tg := 34) dX2_howManyRead_11 (by decide) ?_ ?_
  · refine x_iload_n hO 3 rfl rfl dX2_howManyRead_34 ?_
    exact x_iret hO rfl dX2_howManyRead_35 (hR _)
  · refine x_aload_n hO 0 rfl rfl dX2_howManyRead_14 ?_
    refine x_iload hO 4 rfl dX2_howManyRead_15 ?_
    refine x_iload_n hO 1 rfl rfl dX2_howManyRead_17 ?_
    refine y_PI (x_callV hO lv_RX2_72 hx0 vc_2 (by decide) (As := [.int x4, .int x1]) rfl (Nat.le_of_ble_eq_true rfl) (ok_X2_reading (cG Γ) h x0 x4 x1 hx0) dX2_howManyRead_18 rfl (Nat.le_of_ble_eq_true rfl)) (fun r1 => ?_)
    refine x_iload_n hO 2 rfl rfl dX2_howManyRead_21 ?_
    refine x_icmp_ne hO (tg := 28) dX2_howManyRead_22 (by decide) ?_ ?_
    · refine x_iinc hO 4 (v := 1) [(4, .int (x4 + (1 : Int32))), (0, rf Γ x0), (1, .int x1), (2, .int x2), (3, .int x3)] dX2_howManyRead_28 rfl (by decide) (by decide) rfl ?_
      refine x_goto hO (tg := 5) dX2_howManyRead_31 (by decide) ?_
      exact x_leafs [1, 2, 3, 4, 0] rfl (hC x3 (x4 + (1 : Int32)))
    · refine x_iinc hO 3 (v := 1) [(3, .int (x3 + (1 : Int32))), (0, rf Γ x0), (1, .int x1), (2, .int x2), (4, .int x4)] dX2_howManyRead_25 rfl (by decide) (by decide) rfl ?_
      refine x_iinc hO 4 (v := 1) [(4, .int (x4 + (1 : Int32))), (3, .int (x3 + (1 : Int32))), (0, rf Γ x0), (1, .int x1), (2, .int x2)] dX2_howManyRead_28 rfl (by decide) (by decide) rfl ?_
      refine x_goto hO (tg := 5) dX2_howManyRead_31 (by decide) ?_
      exact x_leafs [2, 3, 4, 1, 0] rfl (hC (x3 + (1 : Int32)) (x4 + (1 : Int32)))
set_option maxHeartbeats 4000000 in
set_option maxRecDepth 100000 in
theorem go_X2_howManyRead_L5 {Γ : Cx} (hO : Ok Γ mX2_howManyRead) (h : Hp) (x0 : Nat) (x1 : Int32) (x2 : Int32) (x3 : Int32) (x4 : Int32) (hx0 : Is x0 2) {K : Int32 → Prop} (hR : ∀ r, K (r) → emPI h r = tgt Γ) : EG Γ mX2_howManyRead 5 [(0, rf Γ x0), (1, .int x1), (2, .int x2), (3, .int x3), (4, .int x4)] [] h (L_X2_howManyRead_5 h x0 x1 x2 x3 x4) K := by
  have q := x_loop (Γ := Γ) (M := mX2_howManyRead) (pc := 5) (B := fun s : Int32 × Int32 => B_X2_howManyRead_5 h x0 x1 x2 s.1 s.2) (lvf := fun s => [(0, rf Γ x0), (1, .int x1), (2, .int x2), (3, .int s.1), (4, .int s.2)]) (hf := fun s => h) (Ky := K) (fun s => go_X2_howManyRead_B5 hO h x0 x1 x2 s.1 s.2 hx0 (fun _ _ => id) hR) (x3, x4)
  exact q
noncomputable def F_X2_howManyRead (h : Hp) (x0 : Nat) (x1 : Int32) (x2 : Int32) : Option (Int32) :=
  L_X2_howManyRead_5 h x0 x1 x2 ((0 : Int32)) ((0 : Int32))
set_option maxHeartbeats 4000000 in
set_option maxRecDepth 100000 in
theorem go_X2_howManyRead {Γ : Cx} (hO : Ok Γ mX2_howManyRead) (h : Hp) (x0 : Nat) (x1 : Int32) (x2 : Int32) (hx0 : Is x0 2) {K : Int32 → Prop} (hR : ∀ r, K r → emPI h r = tgt Γ) : EG Γ mX2_howManyRead 0 [(0, rf Γ x0), (1, .int x1), (2, .int x2)] [] h (F_X2_howManyRead h x0 x1 x2) K := by
  unfold F_X2_howManyRead
  refine x_iconst hO (v := 0) (by decide) dX2_howManyRead_0 ?_
  refine x_istore_n hO rfl [(3, .int ((0 : Int32))), (0, rf Γ x0), (1, .int x1), (2, .int x2)] dX2_howManyRead_1 (by decide) rfl ?_
  refine x_iconst hO (v := 0) (by decide) dX2_howManyRead_2 ?_
  refine x_istore hO [(4, .int ((0 : Int32))), (3, .int ((0 : Int32))), (0, rf Γ x0), (1, .int x1), (2, .int x2)] dX2_howManyRead_3 (by decide) rfl ?_
  exact x_sub [2, 3, 4, 1, 0] rfl (go_X2_howManyRead_L5 hO h x0 x1 x2 ((0 : Int32)) ((0 : Int32)) hx0 hR)
theorem ok_X2_howManyRead (G : Gl) (h : Hp) (x0 : Nat) (x1 : Int32) (x2 : Int32) (hx0 : Is x0 2) : CN G mX2_howManyRead [.ref (gb G + x0), .int x1, .int x2] h ((F_X2_howManyRead h x0 x1 x2).map (emPI h)) := CN.fn pn_RX2 (Nat.le_of_ble_eq_true rfl) (fun Γ hG hO => by subst hG; exact go_X2_howManyRead hO h x0 x1 x2 hx0 (fun _ q => q))
noncomputable def F_X2_setHoles (h : Hp) (x0 : Nat) (x1 : Int32) (x2 : Int32) (x3 : Int32) : Option (Hp) :=
  gd (ib ((x1 * ((8 : Int32))) + x2) (LEN (GR x0 2))) ((F_X2_readingOf (uI h (GR x0 2) (nx ((x1 * ((8 : Int32))) + x2)) x3) x3).bind (fun r1 => gd (ib ((x1 * ((8 : Int32))) + x2) (LEN (GR x0 3))) (some (uI (uI h (GR x0 2) (nx ((x1 * ((8 : Int32))) + x2)) x3) (GR x0 3) (nx ((x1 * ((8 : Int32))) + x2)) r1))))
set_option maxHeartbeats 4000000 in
set_option maxRecDepth 100000 in
theorem go_X2_setHoles {Γ : Cx} (hO : Ok Γ mX2_setHoles) (h : Hp) (x0 : Nat) (x1 : Int32) (x2 : Int32) (x3 : Int32) (hx0 : Is x0 2) {K : Hp → Prop} (hR : ∀ r, K r → emHV r = tgt Γ) : EG Γ mX2_setHoles 0 [(0, rf Γ x0), (1, .int x1), (2, .int x2), (3, .int x3)] [] h (F_X2_setHoles h x0 x1 x2 x3) K := by
  unfold F_X2_setHoles
  refine x_aload_n hO 0 rfl rfl dX2_setHoles_0 ?_
  refine x_getR hO fl_RX2_18 hx0 dX2_setHoles_1 ?_
  refine x_iload_n hO 1 rfl rfl dX2_setHoles_4 ?_
  refine x_bipush hO (v := 8) (by decide) dX2_setHoles_5 ?_
  refine x_imul hO dX2_setHoles_7 ?_
  refine x_iload_n hO 2 rfl rfl dX2_setHoles_8 ?_
  refine x_iadd hO dX2_setHoles_9 ?_
  refine x_iload_n hO 3 rfl rfl dX2_setHoles_10 ?_
  refine x_iast hO (gr_2_2 hx0) dX2_setHoles_11 ?_
  refine x_aload_n hO 0 rfl rfl dX2_setHoles_12 ?_
  refine x_getR hO fl_RX2_22 hx0 dX2_setHoles_13 ?_
  refine x_iload_n hO 1 rfl rfl dX2_setHoles_16 ?_
  refine x_bipush hO (v := 8) (by decide) dX2_setHoles_17 ?_
  refine x_imul hO dX2_setHoles_19 ?_
  refine x_iload_n hO 2 rfl rfl dX2_setHoles_20 ?_
  refine x_iadd hO dX2_setHoles_21 ?_
  refine x_iload_n hO 3 rfl rfl dX2_setHoles_22 ?_
  refine y_PI (x_callS hO lt_RX2_68 (As := [.int x3]) rfl (Nat.le_of_ble_eq_true rfl) (ok_X2_readingOf (cG Γ) (uI h (GR x0 2) (nx ((x1 * ((8 : Int32))) + x2)) x3) x3) dX2_setHoles_23 rfl (Nat.le_of_ble_eq_true rfl)) (fun r1 => ?_)
  refine x_iast hO (gr_2_3 hx0) dX2_setHoles_26 ?_
  exact x_vret hO rfl dX2_setHoles_27 (hR _)
theorem ok_X2_setHoles (G : Gl) (h : Hp) (x0 : Nat) (x1 : Int32) (x2 : Int32) (x3 : Int32) (hx0 : Is x0 2) : CN G mX2_setHoles [.ref (gb G + x0), .int x1, .int x2, .int x3] h ((F_X2_setHoles h x0 x1 x2 x3).map (emHV)) := CN.fn pn_RX2 (Nat.le_of_ble_eq_true rfl) (fun Γ hG hO => by subst hG; exact go_X2_setHoles hO h x0 x1 x2 x3 hx0 (fun _ q => q))
noncomputable def B_X3_aheadOfBlank_2 (h : Hp) (x0 : Nat) (x1 : Int32) (x2 : Int32) : Option ((Int32) ⊕ (Int32)) :=
  if (hI h x0 0) ≤ x2 then some (.inr x2) else gd (ib x2 (LEN (GR x0 7))) ((F_X2_reading h x0 (hI h (GR x0 7) (nx x2)) x1).bind (fun r1 => if r1 = ((10 : Int32)) then some (.inr x2) else some (.inl (x2 + (1 : Int32)))))
noncomputable def L_X3_aheadOfBlank_2 (h : Hp) (x0 : Nat) (x1 : Int32) (x2 : Int32) : Option (Int32) := iterW (fun s : Int32 => B_X3_aheadOfBlank_2 h x0 x1 s) x2
set_option maxHeartbeats 4000000 in
set_option maxRecDepth 100000 in
theorem go_X3_aheadOfBlank_B2 {Γ : Cx} (hO : Ok Γ mX3_aheadOfBlank) (h : Hp) (x0 : Nat) (x1 : Int32) (x2 : Int32) (hx0 : Is x0 2) {K : (Int32) ⊕ (Int32) → Prop} (hC : ∀ (x2 : Int32), K (.inl x2) → EW Γ mX3_aheadOfBlank 2 [(0, rf Γ x0), (1, .int x1), (2, .int x2)] [] h) (hR : ∀ r, K (.inr r) → emPI h r = tgt Γ) : EG Γ mX3_aheadOfBlank 2 [(0, rf Γ x0), (1, .int x1), (2, .int x2)] [] h (B_X3_aheadOfBlank_2 h x0 x1 x2) K := by
  unfold B_X3_aheadOfBlank_2
  refine x_iload_n hO 2 rfl rfl dX3_aheadOfBlank_2 ?_
  refine x_aload_n hO 0 rfl rfl dX3_aheadOfBlank_3 ?_
  refine x_getI hO fl_RX3_45 hx0 dX3_aheadOfBlank_4 ?_
  refine x_icmp_ge hO (tg := 32) dX3_aheadOfBlank_7 (by decide) ?_ ?_
  · refine x_iload_n hO 2 rfl rfl dX3_aheadOfBlank_32 ?_
    exact x_iret hO rfl dX3_aheadOfBlank_33 (hR _)
  · refine x_aload_n hO 0 rfl rfl dX3_aheadOfBlank_10 ?_
    refine x_aload_n hO 0 rfl rfl dX3_aheadOfBlank_11 ?_
    refine x_getR hO fl_RX3_53 hx0 dX3_aheadOfBlank_12 ?_
    refine x_iload_n hO 2 rfl rfl dX3_aheadOfBlank_15 ?_
    refine x_iald hO (gr_2_7 hx0) dX3_aheadOfBlank_16 ?_
    refine x_iload_n hO 1 rfl rfl dX3_aheadOfBlank_17 ?_
    refine y_PI (x_callV hO lv_RX3_63 hx0 vc_2 (by decide) (As := [.int (hI h (GR x0 7) (nx x2)), .int x1]) rfl (Nat.le_of_ble_eq_true rfl) (ok_X2_reading (cG Γ) h x0 (hI h (GR x0 7) (nx x2)) x1 hx0) dX3_aheadOfBlank_18 rfl (Nat.le_of_ble_eq_true rfl)) (fun r1 => ?_)
    refine x_bipush hO (v := 10) (by decide) dX3_aheadOfBlank_21 ?_
    refine x_icmp_eq hO (tg := 32) dX3_aheadOfBlank_23 (by decide) ?_ ?_
    · refine x_iload_n hO 2 rfl rfl dX3_aheadOfBlank_32 ?_
      exact x_iret hO rfl dX3_aheadOfBlank_33 (hR _)
    · refine x_iinc hO 2 (v := 1) [(2, .int (x2 + (1 : Int32))), (0, rf Γ x0), (1, .int x1)] dX3_aheadOfBlank_26 rfl (by decide) (by decide) rfl ?_
      refine x_goto hO (tg := 2) dX3_aheadOfBlank_29 (by decide) ?_
      exact x_leafs [1, 2, 0] rfl (hC (x2 + (1 : Int32)))
set_option maxHeartbeats 4000000 in
set_option maxRecDepth 100000 in
theorem go_X3_aheadOfBlank_L2 {Γ : Cx} (hO : Ok Γ mX3_aheadOfBlank) (h : Hp) (x0 : Nat) (x1 : Int32) (x2 : Int32) (hx0 : Is x0 2) {K : Int32 → Prop} (hR : ∀ r, K (r) → emPI h r = tgt Γ) : EG Γ mX3_aheadOfBlank 2 [(0, rf Γ x0), (1, .int x1), (2, .int x2)] [] h (L_X3_aheadOfBlank_2 h x0 x1 x2) K := by
  have q := x_loop (Γ := Γ) (M := mX3_aheadOfBlank) (pc := 2) (B := fun s : Int32 => B_X3_aheadOfBlank_2 h x0 x1 s) (lvf := fun s => [(0, rf Γ x0), (1, .int x1), (2, .int s)]) (hf := fun s => h) (Ky := K) (fun s => go_X3_aheadOfBlank_B2 hO h x0 x1 s hx0 (fun _ => id) hR) x2
  exact q
noncomputable def F_X3_aheadOfBlank (h : Hp) (x0 : Nat) (x1 : Int32) : Option (Int32) :=
  L_X3_aheadOfBlank_2 h x0 x1 ((0 : Int32))
set_option maxHeartbeats 4000000 in
set_option maxRecDepth 100000 in
theorem go_X3_aheadOfBlank {Γ : Cx} (hO : Ok Γ mX3_aheadOfBlank) (h : Hp) (x0 : Nat) (x1 : Int32) (hx0 : Is x0 2) {K : Int32 → Prop} (hR : ∀ r, K r → emPI h r = tgt Γ) : EG Γ mX3_aheadOfBlank 0 [(0, rf Γ x0), (1, .int x1)] [] h (F_X3_aheadOfBlank h x0 x1) K := by
  unfold F_X3_aheadOfBlank
  refine x_iconst hO (v := 0) (by decide) dX3_aheadOfBlank_0 ?_
  refine x_istore_n hO rfl [(2, .int ((0 : Int32))), (0, rf Γ x0), (1, .int x1)] dX3_aheadOfBlank_1 (by decide) rfl ?_
  exact x_sub [1, 2, 0] rfl (go_X3_aheadOfBlank_L2 hO h x0 x1 ((0 : Int32)) hx0 hR)
theorem ok_X3_aheadOfBlank (G : Gl) (h : Hp) (x0 : Nat) (x1 : Int32) (hx0 : Is x0 2) : CN G mX3_aheadOfBlank [.ref (gb G + x0), .int x1] h ((F_X3_aheadOfBlank h x0 x1).map (emPI h)) := CN.fn pn_RX3 (Nat.le_of_ble_eq_true rfl) (fun Γ hG hO => by subst hG; exact go_X3_aheadOfBlank hO h x0 x1 hx0 (fun _ q => q))
noncomputable def F_X3_cutDeck (h : Hp) (x0 : Nat) (x1 : Nat) (x2 : Int32) : Option (Hp) :=
  if x2 ≤ 0 then some h else if (hI h x1 0) ≤ x2 then some h else gd (cpok x2 ((0 : Int32)) ((hI h x1 0) - x2) (LEN (GR x1 7)) (LEN (GR x0 0))) (gd (cpok ((0 : Int32)) ((hI (sI h (GR x0 0) (va_cpy (hI h (GR x1 7)) (hI h (GR x0 0)) (nx x2) (nx ((0 : Int32))) (nx ((hI h x1 0) - x2)))) x1 0) - x2) x2 (LEN (GR x1 7)) (LEN (GR x0 0))) (bnd (sI (sI h (GR x0 0) (va_cpy (hI h (GR x1 7)) (hI h (GR x0 0)) (nx x2) (nx ((0 : Int32))) (nx ((hI h x1 0) - x2)))) (GR x0 0) (va_cpy (hI (sI h (GR x0 0) (va_cpy (hI h (GR x1 7)) (hI h (GR x0 0)) (nx x2) (nx ((0 : Int32))) (nx ((hI h x1 0) - x2)))) (GR x1 7)) (hI (sI h (GR x0 0) (va_cpy (hI h (GR x1 7)) (hI h (GR x0 0)) (nx x2) (nx ((0 : Int32))) (nx ((hI h x1 0) - x2)))) (GR x0 0)) (nx ((0 : Int32))) (nx ((hI (sI h (GR x0 0) (va_cpy (hI h (GR x1 7)) (hI h (GR x0 0)) (nx x2) (nx ((0 : Int32))) (nx ((hI h x1 0) - x2)))) x1 0) - x2)) (nx x2))) (fun h1 => gd (cpok ((0 : Int32)) ((0 : Int32)) (hI h1 x1 0) (LEN (GR x0 0)) (LEN (GR x1 7))) (some (sI h1 (GR x1 7) (va_cpy (hI h1 (GR x0 0)) (hI h1 (GR x1 7)) (nx ((0 : Int32))) (nx ((0 : Int32))) (nx (hI h1 x1 0))))))))
set_option maxHeartbeats 4000000 in
set_option maxRecDepth 100000 in
theorem go_X3_cutDeck {Γ : Cx} (hO : Ok Γ mX3_cutDeck) (h : Hp) (x0 : Nat) (x1 : Nat) (x2 : Int32) (hx0 : Is x0 3) (hx1 : Is x1 2) {K : Hp → Prop} (hR : ∀ r, K r → emHV r = tgt Γ) : EG Γ mX3_cutDeck 0 [(0, rf Γ x0), (1, rf Γ x1), (2, .int x2)] [] h (F_X3_cutDeck h x0 x1 x2) K := by
  unfold F_X3_cutDeck
  refine x_iload_n hO 2 rfl rfl dX3_cutDeck_0 ?_
  refine x_if_le hO (tg := 67) dX3_cutDeck_1 (by decide) ?_ ?_
  · exact x_vret hO rfl dX3_cutDeck_67 (hR _)
  · refine x_iload_n hO 2 rfl rfl dX3_cutDeck_4 ?_
    refine x_aload_n hO 1 rfl rfl dX3_cutDeck_5 ?_
    refine x_getI hO fl_RX3_45 hx1 dX3_cutDeck_6 ?_
    refine x_icmp_ge hO (tg := 67) dX3_cutDeck_9 (by decide) ?_ ?_
    · exact x_vret hO rfl dX3_cutDeck_67 (hR _)
    · refine x_aload_n hO 1 rfl rfl dX3_cutDeck_12 ?_
      refine x_getR hO fl_RX3_53 hx1 dX3_cutDeck_13 ?_
      refine x_iload_n hO 2 rfl rfl dX3_cutDeck_16 ?_
      refine x_aload_n hO 0 rfl rfl dX3_cutDeck_17 ?_
      refine x_getR hO fl_RX3_9 hx0 dX3_cutDeck_18 ?_
      refine x_iconst hO (v := 0) (by decide) dX3_cutDeck_21 ?_
      refine x_aload_n hO 1 rfl rfl dX3_cutDeck_22 ?_
      refine x_getI hO fl_RX3_45 hx1 dX3_cutDeck_23 ?_
      refine x_iload_n hO 2 rfl rfl dX3_cutDeck_26 ?_
      refine x_isub hO dX3_cutDeck_27 ?_
      refine x_copyI hO lc_RX3_73 (gr_2_7 hx1) (gr_3_0 hx0) (Nat.le_of_ble_eq_true rfl) (Nat.le_of_ble_eq_true rfl) dX3_cutDeck_28 ?_
      refine x_aload_n hO 1 rfl rfl dX3_cutDeck_31 ?_
      refine x_getR hO fl_RX3_53 hx1 dX3_cutDeck_32 ?_
      refine x_iconst hO (v := 0) (by decide) dX3_cutDeck_35 ?_
      refine x_aload_n hO 0 rfl rfl dX3_cutDeck_36 ?_
      refine x_getR hO fl_RX3_9 hx0 dX3_cutDeck_37 ?_
      refine x_aload_n hO 1 rfl rfl dX3_cutDeck_40 ?_
      refine x_getI hO fl_RX3_45 hx1 dX3_cutDeck_41 ?_
      refine x_iload_n hO 2 rfl rfl dX3_cutDeck_44 ?_
      refine x_isub hO dX3_cutDeck_45 ?_
      refine x_iload_n hO 2 rfl rfl dX3_cutDeck_46 ?_
      refine x_copyI hO lc_RX3_73 (gr_2_7 hx1) (gr_3_0 hx0) (Nat.le_of_ble_eq_true rfl) (Nat.le_of_ble_eq_true rfl) dX3_cutDeck_47 ?_
      refine x_bnd ?_
      generalize sI (sI h (GR x0 0) (va_cpy (hI h (GR x1 7)) (hI h (GR x0 0)) (nx x2) (nx ((0 : Int32))) (nx ((hI h x1 0) - x2)))) (GR x0 0) (va_cpy (hI (sI h (GR x0 0) (va_cpy (hI h (GR x1 7)) (hI h (GR x0 0)) (nx x2) (nx ((0 : Int32))) (nx ((hI h x1 0) - x2)))) (GR x1 7)) (hI (sI h (GR x0 0) (va_cpy (hI h (GR x1 7)) (hI h (GR x0 0)) (nx x2) (nx ((0 : Int32))) (nx ((hI h x1 0) - x2)))) (GR x0 0)) (nx ((0 : Int32))) (nx ((hI (sI h (GR x0 0) (va_cpy (hI h (GR x1 7)) (hI h (GR x0 0)) (nx x2) (nx ((0 : Int32))) (nx ((hI h x1 0) - x2)))) x1 0) - x2)) (nx x2)) = h1
      refine x_aload_n hO 0 rfl rfl dX3_cutDeck_50 ?_
      refine x_getR hO fl_RX3_9 hx0 dX3_cutDeck_51 ?_
      refine x_iconst hO (v := 0) (by decide) dX3_cutDeck_54 ?_
      refine x_aload_n hO 1 rfl rfl dX3_cutDeck_55 ?_
      refine x_getR hO fl_RX3_53 hx1 dX3_cutDeck_56 ?_
      refine x_iconst hO (v := 0) (by decide) dX3_cutDeck_59 ?_
      refine x_aload_n hO 1 rfl rfl dX3_cutDeck_60 ?_
      refine x_getI hO fl_RX3_45 hx1 dX3_cutDeck_61 ?_
      refine x_copyI hO lc_RX3_73 (gr_3_0 hx0) (gr_2_7 hx1) (Nat.le_of_ble_eq_true rfl) (Nat.le_of_ble_eq_true rfl) dX3_cutDeck_64 ?_
      exact x_vret hO rfl dX3_cutDeck_67 (hR _)
theorem ok_X3_cutDeck (G : Gl) (h : Hp) (x0 : Nat) (x1 : Nat) (x2 : Int32) (hx0 : Is x0 3) (hx1 : Is x1 2) : CN G mX3_cutDeck [.ref (gb G + x0), .ref (gb G + x1), .int x2] h ((F_X3_cutDeck h x0 x1 x2).map (emHV)) := CN.fn pn_RX3 (Nat.le_of_ble_eq_true rfl) (fun Γ hG hO => by subst hG; exact go_X3_cutDeck hO h x0 x1 x2 hx0 hx1 (fun _ q => q))
noncomputable def F_X3_holds (h : Hp) (x0 : Nat) (x1 : Int32) (x2 : Int32) : Option (Int32) :=
  if (hI h x0 0) ≤ 0 then some ((0 : Int32)) else gd (ib ((0 : Int32)) (LEN (GR x0 7))) ((F_X2_reading h x0 (hI h (GR x0 7) (nx ((0 : Int32)))) x1).bind (fun r1 => if r1 = x2 then some ((1 : Int32)) else some ((0 : Int32))))
set_option maxHeartbeats 4000000 in
set_option maxRecDepth 100000 in
theorem go_X3_holds {Γ : Cx} (hO : Ok Γ mX3_holds) (h : Hp) (x0 : Nat) (x1 : Int32) (x2 : Int32) (hx0 : Is x0 2) {K : Int32 → Prop} (hR : ∀ r, K r → emPI h r = tgt Γ) : EG Γ mX3_holds 0 [(0, rf Γ x0), (1, .int x1), (2, .int x2)] [] h (F_X3_holds h x0 x1 x2) K := by
  unfold F_X3_holds
  refine x_aload_n hO 0 rfl rfl dX3_holds_0 ?_
  refine x_getI hO fl_RX3_45 hx0 dX3_holds_1 ?_
  refine x_if_le hO (tg := 26) dX3_holds_4 (by decide) ?_ ?_
  · refine x_iconst hO (v := 0) (by decide) dX3_holds_26 ?_
    exact x_zretv hO rfl (by decide) dX3_holds_27 (hR _)
  · refine x_aload_n hO 0 rfl rfl dX3_holds_7 ?_
    refine x_aload_n hO 0 rfl rfl dX3_holds_8 ?_
    refine x_getR hO fl_RX3_53 hx0 dX3_holds_9 ?_
    refine x_iconst hO (v := 0) (by decide) dX3_holds_12 ?_
    refine x_iald hO (gr_2_7 hx0) dX3_holds_13 ?_
    refine x_iload_n hO 1 rfl rfl dX3_holds_14 ?_
    refine y_PI (x_callV hO lv_RX3_63 hx0 vc_2 (by decide) (As := [.int (hI h (GR x0 7) (nx ((0 : Int32)))), .int x1]) rfl (Nat.le_of_ble_eq_true rfl) (ok_X2_reading (cG Γ) h x0 (hI h (GR x0 7) (nx ((0 : Int32)))) x1 hx0) dX3_holds_15 rfl (Nat.le_of_ble_eq_true rfl)) (fun r1 => ?_)
    refine x_iload_n hO 2 rfl rfl dX3_holds_18 ?_
    refine x_icmp_ne hO (tg := 26) dX3_holds_19 (by decide) ?_ ?_
    · refine x_iconst hO (v := 0) (by decide) dX3_holds_26 ?_
      exact x_zretv hO rfl (by decide) dX3_holds_27 (hR _)
    · refine x_iconst hO (v := 1) (by decide) dX3_holds_22 ?_
      refine x_goto hO (tg := 27) dX3_holds_23 (by decide) ?_
      exact x_zretv hO rfl (by decide) dX3_holds_27 (hR _)
theorem ok_X3_holds (G : Gl) (h : Hp) (x0 : Nat) (x1 : Int32) (x2 : Int32) (hx0 : Is x0 2) : CN G mX3_holds [.ref (gb G + x0), .int x1, .int x2] h ((F_X3_holds h x0 x1 x2).map (emPI h)) := CN.fn pn_RX3 (Nat.le_of_ble_eq_true rfl) (fun Γ hG hO => by subst hG; exact go_X3_holds hO h x0 x1 x2 hx0 (fun _ q => q))
noncomputable def J_X3_putBehind_60 (h : Hp) (x0 : Nat) (x1 : Nat) (x2 : Int32) (x3 : Int32) (x4 : Int32) (x5 : Int32) (x6 : Int32) (s0 : Int32) (s1 : Int32) : Option ((Hp × Int32 × Int32) ⊕ (Hp × Int32)) :=
  if s0 = s1 then gd (ib x6 (LEN (GR x1 7))) (gd (ib x4 (LEN (GR x0 0))) (some (.inl (uI h (GR x0 0) (nx x4) (hI h (GR x1 7) (nx x6)), x4 + (1 : Int32), x6 + (1 : Int32))))) else some (.inl (h, x4, x6 + (1 : Int32)))
set_option maxHeartbeats 4000000 in
set_option maxRecDepth 100000 in
theorem go_X3_putBehind_J60 {Γ : Cx} (hO : Ok Γ mX3_putBehind) (h : Hp) (x0 : Nat) (x1 : Nat) (x2 : Int32) (x3 : Int32) (x4 : Int32) (x5 : Int32) (x6 : Int32) (s0 : Int32) (s1 : Int32) (hx0 : Is x0 3) (hx1 : Is x1 2) {K : (Hp × Int32 × Int32) ⊕ (Hp × Int32) → Prop} (hC : ∀ (h : Hp) (x4 : Int32) (x6 : Int32), K (.inl (h, x4, x6)) → EW Γ mX3_putBehind 15 [(0, rf Γ x0), (1, rf Γ x1), (2, .int x2), (3, .int x3), (4, .int x4), (5, .int x5), (6, .int x6)] [] h) (hE86 : ∀ (h : Hp) (x4 : Int32), K (.inr ((h, x4))) → EW Γ mX3_putBehind 86 [(0, rf Γ x0), (1, rf Γ x1), (2, .int x2), (3, .int x3), (4, .int x4), (5, .int x5)] [] h) : EG Γ mX3_putBehind 60 [(0, rf Γ x0), (1, rf Γ x1), (2, .int x2), (3, .int x3), (4, .int x4), (5, .int x5), (6, .int x6)] [.int s1, .int s0] h (J_X3_putBehind_60 h x0 x1 x2 x3 x4 x5 x6 s0 s1) K := by
  unfold J_X3_putBehind_60
  refine x_icmp_ne hO (tg := 80) dX3_putBehind_60 (by decide) ?_ ?_
  · refine x_iinc hO 6 (v := 1) [(6, .int (x6 + (1 : Int32))), (0, rf Γ x0), (1, rf Γ x1), (2, .int x2), (3, .int x3), (4, .int x4), (5, .int x5)] dX3_putBehind_80 rfl (by decide) (by decide) rfl ?_
    refine x_goto hO (tg := 15) dX3_putBehind_83 (by decide) ?_
    exact x_leafs [1, 2, 3, 4, 5, 6, 0] rfl (hC h x4 (x6 + (1 : Int32)))
  · refine x_aload_n hO 0 rfl rfl dX3_putBehind_63 ?_
    refine x_getR hO fl_RX3_9 hx0 dX3_putBehind_64 ?_
    refine x_iload hO 4 rfl dX3_putBehind_67 ?_
    refine x_aload_n hO 1 rfl rfl dX3_putBehind_69 ?_
    refine x_getR hO fl_RX3_53 hx1 dX3_putBehind_70 ?_
    refine x_iload hO 6 rfl dX3_putBehind_73 ?_
    refine x_iald hO (gr_2_7 hx1) dX3_putBehind_75 ?_
    refine x_iast hO (gr_3_0 hx0) dX3_putBehind_76 ?_
    refine x_iinc hO 4 (v := 1) [(4, .int (x4 + (1 : Int32))), (0, rf Γ x0), (1, rf Γ x1), (2, .int x2), (3, .int x3), (5, .int x5), (6, .int x6)] dX3_putBehind_77 rfl (by decide) (by decide) rfl ?_
    refine x_iinc hO 6 (v := 1) [(6, .int (x6 + (1 : Int32))), (4, .int (x4 + (1 : Int32))), (0, rf Γ x0), (1, rf Γ x1), (2, .int x2), (3, .int x3), (5, .int x5)] dX3_putBehind_80 rfl (by decide) (by decide) rfl ?_
    refine x_goto hO (tg := 15) dX3_putBehind_83 (by decide) ?_
    exact x_leafs [2, 3, 4, 5, 1, 6, 0] rfl (hC (uI h (GR x0 0) (nx x4) (hI h (GR x1 7) (nx x6))) (x4 + (1 : Int32)) (x6 + (1 : Int32)))
noncomputable def J_X3_putBehind_45 (h : Hp) (x0 : Nat) (x1 : Nat) (x2 : Int32) (x3 : Int32) (x4 : Int32) (x5 : Int32) (x6 : Int32) (s0 : Int32) : Option ((Hp × Int32 × Int32) ⊕ (Hp × Int32)) :=
  if x5 = ((1 : Int32)) then J_X3_putBehind_60 h x0 x1 x2 x3 x4 x5 x6 s0 ((1 : Int32)) else J_X3_putBehind_60 h x0 x1 x2 x3 x4 x5 x6 s0 ((0 : Int32))
set_option maxHeartbeats 4000000 in
set_option maxRecDepth 100000 in
theorem go_X3_putBehind_J45 {Γ : Cx} (hO : Ok Γ mX3_putBehind) (h : Hp) (x0 : Nat) (x1 : Nat) (x2 : Int32) (x3 : Int32) (x4 : Int32) (x5 : Int32) (x6 : Int32) (s0 : Int32) (hx0 : Is x0 3) (hx1 : Is x1 2) {K : (Hp × Int32 × Int32) ⊕ (Hp × Int32) → Prop} (hC : ∀ (h : Hp) (x4 : Int32) (x6 : Int32), K (.inl (h, x4, x6)) → EW Γ mX3_putBehind 15 [(0, rf Γ x0), (1, rf Γ x1), (2, .int x2), (3, .int x3), (4, .int x4), (5, .int x5), (6, .int x6)] [] h) (hE86 : ∀ (h : Hp) (x4 : Int32), K (.inr ((h, x4))) → EW Γ mX3_putBehind 86 [(0, rf Γ x0), (1, rf Γ x1), (2, .int x2), (3, .int x3), (4, .int x4), (5, .int x5)] [] h) : EG Γ mX3_putBehind 45 [(0, rf Γ x0), (1, rf Γ x1), (2, .int x2), (3, .int x3), (4, .int x4), (5, .int x5), (6, .int x6)] [.int s0] h (J_X3_putBehind_45 h x0 x1 x2 x3 x4 x5 x6 s0) K := by
  unfold J_X3_putBehind_45
  refine x_istore hO [(7, .int s0), (0, rf Γ x0), (1, rf Γ x1), (2, .int x2), (3, .int x3), (4, .int x4), (5, .int x5), (6, .int x6)] dX3_putBehind_45 (by decide) rfl ?_
  refine x_iload hO 0 rfl dX3_putBehind_47 ?_
  refine x_iload hO 6 rfl dX3_putBehind_49 ?_
  refine x_iconst hO (v := 1) (by decide) dX3_putBehind_51 ?_
  refine x_icmp_ne hO (tg := 59) dX3_putBehind_52 (by decide) ?_ ?_
  · refine x_iconst hO (v := 0) (by decide) dX3_putBehind_59 ?_
    exact x_sub [1, 2, 3, 4, 5, 6, 7] rfl (go_X3_putBehind_J60 hO h x0 x1 x2 x3 x4 x5 x6 s0 ((0 : Int32)) hx0 hx1 hC hE86)
  · refine x_iconst hO (v := 1) (by decide) dX3_putBehind_55 ?_
    refine x_goto hO (tg := 60) dX3_putBehind_56 (by decide) ?_
    exact x_sub [1, 2, 3, 4, 5, 6, 7] rfl (go_X3_putBehind_J60 hO h x0 x1 x2 x3 x4 x5 x6 s0 ((1 : Int32)) hx0 hx1 hC hE86)
noncomputable def B_X3_putBehind_15 (h : Hp) (x0 : Nat) (x1 : Nat) (x2 : Int32) (x3 : Int32) (x5 : Int32) (x4 : Int32) (x6 : Int32) : Option ((Hp × Int32 × Int32) ⊕ (Hp × Int32)) :=
  if (hI h x1 0) ≤ x6 then some (.inr ((h, x4))) else gd (ib x6 (LEN (GR x1 7))) ((F_X2_reading h x1 (hI h (GR x1 7) (nx x6)) x2).bind (fun r1 => if r1 = x3 then J_X3_putBehind_45 h x0 x1 x2 x3 x4 x5 x6 ((1 : Int32)) else J_X3_putBehind_45 h x0 x1 x2 x3 x4 x5 x6 ((0 : Int32))))
noncomputable def L_X3_putBehind_15 (h : Hp) (x0 : Nat) (x1 : Nat) (x2 : Int32) (x3 : Int32) (x5 : Int32) (x4 : Int32) (x6 : Int32) : Option (Hp × Int32) := iterW (fun s : Hp × Int32 × Int32 => B_X3_putBehind_15 s.1 x0 x1 x2 x3 x5 s.2.1 s.2.2) (h, x4, x6)
set_option maxHeartbeats 4000000 in
set_option maxRecDepth 100000 in
theorem go_X3_putBehind_B15 {Γ : Cx} (hO : Ok Γ mX3_putBehind) (h : Hp) (x0 : Nat) (x1 : Nat) (x2 : Int32) (x3 : Int32) (x5 : Int32) (x4 : Int32) (x6 : Int32) (hx0 : Is x0 3) (hx1 : Is x1 2) {K : (Hp × Int32 × Int32) ⊕ (Hp × Int32) → Prop} (hC : ∀ (h : Hp) (x4 : Int32) (x6 : Int32), K (.inl (h, x4, x6)) → EW Γ mX3_putBehind 15 [(0, rf Γ x0), (1, rf Γ x1), (2, .int x2), (3, .int x3), (4, .int x4), (5, .int x5), (6, .int x6)] [] h) (hE86 : ∀ (h : Hp) (x4 : Int32), K (.inr ((h, x4))) → EW Γ mX3_putBehind 86 [(0, rf Γ x0), (1, rf Γ x1), (2, .int x2), (3, .int x3), (4, .int x4), (5, .int x5)] [] h) : EG Γ mX3_putBehind 15 [(0, rf Γ x0), (1, rf Γ x1), (2, .int x2), (3, .int x3), (4, .int x4), (5, .int x5), (6, .int x6)] [] h (B_X3_putBehind_15 h x0 x1 x2 x3 x5 x4 x6) K := by
  unfold B_X3_putBehind_15
  refine x_iload hO 6 rfl dX3_putBehind_15 ?_
  refine x_aload_n hO 1 rfl rfl dX3_putBehind_17 ?_
  refine x_getI hO fl_RX3_45 hx1 dX3_putBehind_18 ?_
  refine x_icmp_ge hO (tg := 86) dX3_putBehind_21 (by decide) ?_ ?_
  · exact x_leafs [0, 1, 2, 3, 4, 5] rfl (hE86 h x4)
  · refine x_aload_n hO 1 rfl rfl dX3_putBehind_24 ?_
    refine x_aload_n hO 1 rfl rfl dX3_putBehind_25 ?_
    refine x_getR hO fl_RX3_53 hx1 dX3_putBehind_26 ?_
    refine x_iload hO 6 rfl dX3_putBehind_29 ?_
    refine x_iald hO (gr_2_7 hx1) dX3_putBehind_31 ?_
    refine x_iload_n hO 2 rfl rfl dX3_putBehind_32 ?_
    refine y_PI (x_callV hO lv_RX3_63 hx1 vc_2 (by decide) (As := [.int (hI h (GR x1 7) (nx x6)), .int x2]) rfl (Nat.le_of_ble_eq_true rfl) (ok_X2_reading (cG Γ) h x1 (hI h (GR x1 7) (nx x6)) x2 hx1) dX3_putBehind_33 rfl (Nat.le_of_ble_eq_true rfl)) (fun r1 => ?_)
    refine x_iload_n hO 3 rfl rfl dX3_putBehind_36 ?_
    refine x_icmp_ne hO (tg := 44) dX3_putBehind_37 (by decide) ?_ ?_
    · refine x_iconst hO (v := 0) (by decide) dX3_putBehind_44 ?_
      exact x_sub [0, 1, 2, 3, 4, 5, 6] rfl (go_X3_putBehind_J45 hO h x0 x1 x2 x3 x4 x5 x6 ((0 : Int32)) hx0 hx1 hC hE86)
    · refine x_iconst hO (v := 1) (by decide) dX3_putBehind_40 ?_
      refine x_goto hO (tg := 45) dX3_putBehind_41 (by decide) ?_
      exact x_sub [0, 1, 2, 3, 4, 5, 6] rfl (go_X3_putBehind_J45 hO h x0 x1 x2 x3 x4 x5 x6 ((1 : Int32)) hx0 hx1 hC hE86)
set_option maxHeartbeats 4000000 in
set_option maxRecDepth 100000 in
theorem go_X3_putBehind_L15 {Γ : Cx} (hO : Ok Γ mX3_putBehind) (h : Hp) (x0 : Nat) (x1 : Nat) (x2 : Int32) (x3 : Int32) (x5 : Int32) (x4 : Int32) (x6 : Int32) (hx0 : Is x0 3) (hx1 : Is x1 2) {K : Hp × Int32 → Prop} (hE86 : ∀ (h : Hp) (x4 : Int32), K ((h, x4)) → EW Γ mX3_putBehind 86 [(0, rf Γ x0), (1, rf Γ x1), (2, .int x2), (3, .int x3), (4, .int x4), (5, .int x5)] [] h) : EG Γ mX3_putBehind 15 [(0, rf Γ x0), (1, rf Γ x1), (2, .int x2), (3, .int x3), (4, .int x4), (5, .int x5), (6, .int x6)] [] h (L_X3_putBehind_15 h x0 x1 x2 x3 x5 x4 x6) K := by
  have q := x_loop (Γ := Γ) (M := mX3_putBehind) (pc := 15) (B := fun s : Hp × Int32 × Int32 => B_X3_putBehind_15 s.1 x0 x1 x2 x3 x5 s.2.1 s.2.2) (lvf := fun s => [(0, rf Γ x0), (1, rf Γ x1), (2, .int x2), (3, .int x3), (4, .int s.2.1), (5, .int x5), (6, .int s.2.2)]) (hf := fun s => s.1) (Ky := K) (fun s => go_X3_putBehind_B15 hO s.1 x0 x1 x2 x3 x5 s.2.1 s.2.2 hx0 hx1 (fun _ _ _ => id) hE86) (h, x4, x6)
  exact q
noncomputable def B_X3_putBehind_6 (h : Hp) (x0 : Nat) (x1 : Nat) (x2 : Int32) (x3 : Int32) (x4 : Int32) (x5 : Int32) : Option ((Hp × Int32 × Int32) ⊕ (Hp)) :=
  if ((2 : Int32)) ≤ x5 then gd (cpok ((0 : Int32)) ((0 : Int32)) (hI h x1 0) (LEN (GR x0 0)) (LEN (GR x1 7))) (some (.inr (sI h (GR x1 7) (va_cpy (hI h (GR x0 0)) (hI h (GR x1 7)) (nx ((0 : Int32))) (nx ((0 : Int32))) (nx (hI h x1 0)))))) else (L_X3_putBehind_15 h x0 x1 x2 x3 x5 x4 ((0 : Int32))).bind (fun e1 => some (.inl (e1.1, e1.2, x5 + (1 : Int32))))
noncomputable def L_X3_putBehind_6 (h : Hp) (x0 : Nat) (x1 : Nat) (x2 : Int32) (x3 : Int32) (x4 : Int32) (x5 : Int32) : Option (Hp) := iterW (fun s : Hp × Int32 × Int32 => B_X3_putBehind_6 s.1 x0 x1 x2 x3 s.2.1 s.2.2) (h, x4, x5)
set_option maxHeartbeats 4000000 in
set_option maxRecDepth 100000 in
theorem go_X3_putBehind_B6 {Γ : Cx} (hO : Ok Γ mX3_putBehind) (h : Hp) (x0 : Nat) (x1 : Nat) (x2 : Int32) (x3 : Int32) (x4 : Int32) (x5 : Int32) (hx0 : Is x0 3) (hx1 : Is x1 2) {K : (Hp × Int32 × Int32) ⊕ (Hp) → Prop} (hC : ∀ (h : Hp) (x4 : Int32) (x5 : Int32), K (.inl (h, x4, x5)) → EW Γ mX3_putBehind 6 [(0, rf Γ x0), (1, rf Γ x1), (2, .int x2), (3, .int x3), (4, .int x4), (5, .int x5)] [] h) (hR : ∀ r, K (.inr r) → emHV r = tgt Γ) : EG Γ mX3_putBehind 6 [(0, rf Γ x0), (1, rf Γ x1), (2, .int x2), (3, .int x3), (4, .int x4), (5, .int x5)] [] h (B_X3_putBehind_6 h x0 x1 x2 x3 x4 x5) K := by
  unfold B_X3_putBehind_6
  refine x_iload hO 5 rfl dX3_putBehind_6 ?_
  refine x_iconst hO (v := 2) (by decide) dX3_putBehind_8 ?_
  refine x_icmp_ge hO (tg := 92) dX3_putBehind_9 (by decide) ?_ ?_
  · refine x_aload_n hO 0 rfl rfl dX3_putBehind_92 ?_
    refine x_getR hO fl_RX3_9 hx0 dX3_putBehind_93 ?_
    refine x_iconst hO (v := 0) (by decide) dX3_putBehind_96 ?_
    refine x_aload_n hO 1 rfl rfl dX3_putBehind_97 ?_
    refine x_getR hO fl_RX3_53 hx1 dX3_putBehind_98 ?_
    refine x_iconst hO (v := 0) (by decide) dX3_putBehind_101 ?_
    refine x_aload_n hO 1 rfl rfl dX3_putBehind_102 ?_
    refine x_getI hO fl_RX3_45 hx1 dX3_putBehind_103 ?_
    refine x_copyI hO lc_RX3_73 (gr_3_0 hx0) (gr_2_7 hx1) (Nat.le_of_ble_eq_true rfl) (Nat.le_of_ble_eq_true rfl) dX3_putBehind_106 ?_
    exact x_vret hO rfl dX3_putBehind_109 (hR _)
  · refine x_iconst hO (v := 0) (by decide) dX3_putBehind_12 ?_
    refine x_istore hO [(6, .int ((0 : Int32))), (0, rf Γ x0), (1, rf Γ x1), (2, .int x2), (3, .int x3), (4, .int x4), (5, .int x5)] dX3_putBehind_13 (by decide) rfl ?_
    refine x_bind (x_sub [1, 2, 3, 4, 5, 6, 0] rfl (go_X3_putBehind_L15 hO h x0 x1 x2 x3 x5 x4 ((0 : Int32)) hx0 hx1 (fun y1_0 y1_1 hx => ?_)))
    refine x_run (t := (some (.inl (y1_0, y1_1, x5 + (1 : Int32))) : Option ((Hp × Int32 × Int32) ⊕ (Hp)))) hx ?_
    refine x_iinc hO 5 (v := 1) [(5, .int (x5 + (1 : Int32))), (0, rf Γ x0), (1, rf Γ x1), (2, .int x2), (3, .int x3), (4, .int y1_1)] dX3_putBehind_86 rfl (by decide) (by decide) rfl ?_
    refine x_goto hO (tg := 6) dX3_putBehind_89 (by decide) ?_
    exact x_leafs [1, 2, 3, 4, 5, 0] rfl (hC y1_0 y1_1 (x5 + (1 : Int32)))
set_option maxHeartbeats 4000000 in
set_option maxRecDepth 100000 in
theorem go_X3_putBehind_L6 {Γ : Cx} (hO : Ok Γ mX3_putBehind) (h : Hp) (x0 : Nat) (x1 : Nat) (x2 : Int32) (x3 : Int32) (x4 : Int32) (x5 : Int32) (hx0 : Is x0 3) (hx1 : Is x1 2) {K : Hp → Prop} (hR : ∀ r, K (r) → emHV r = tgt Γ) : EG Γ mX3_putBehind 6 [(0, rf Γ x0), (1, rf Γ x1), (2, .int x2), (3, .int x3), (4, .int x4), (5, .int x5)] [] h (L_X3_putBehind_6 h x0 x1 x2 x3 x4 x5) K := by
  have q := x_loop (Γ := Γ) (M := mX3_putBehind) (pc := 6) (B := fun s : Hp × Int32 × Int32 => B_X3_putBehind_6 s.1 x0 x1 x2 x3 s.2.1 s.2.2) (lvf := fun s => [(0, rf Γ x0), (1, rf Γ x1), (2, .int x2), (3, .int x3), (4, .int s.2.1), (5, .int s.2.2)]) (hf := fun s => s.1) (Ky := K) (fun s => go_X3_putBehind_B6 hO s.1 x0 x1 x2 x3 s.2.1 s.2.2 hx0 hx1 (fun _ _ _ => id) hR) (h, x4, x5)
  exact q
noncomputable def F_X3_putBehind (h : Hp) (x0 : Nat) (x1 : Nat) (x2 : Int32) (x3 : Int32) : Option (Hp) :=
  L_X3_putBehind_6 h x0 x1 x2 x3 ((0 : Int32)) ((0 : Int32))
set_option maxHeartbeats 4000000 in
set_option maxRecDepth 100000 in
theorem go_X3_putBehind {Γ : Cx} (hO : Ok Γ mX3_putBehind) (h : Hp) (x0 : Nat) (x1 : Nat) (x2 : Int32) (x3 : Int32) (hx0 : Is x0 3) (hx1 : Is x1 2) {K : Hp → Prop} (hR : ∀ r, K r → emHV r = tgt Γ) : EG Γ mX3_putBehind 0 [(0, rf Γ x0), (1, rf Γ x1), (2, .int x2), (3, .int x3)] [] h (F_X3_putBehind h x0 x1 x2 x3) K := by
  unfold F_X3_putBehind
  refine x_iconst hO (v := 0) (by decide) dX3_putBehind_0 ?_
  refine x_istore hO [(4, .int ((0 : Int32))), (0, rf Γ x0), (1, rf Γ x1), (2, .int x2), (3, .int x3)] dX3_putBehind_1 (by decide) rfl ?_
  refine x_iconst hO (v := 0) (by decide) dX3_putBehind_3 ?_
  refine x_istore hO [(5, .int ((0 : Int32))), (4, .int ((0 : Int32))), (0, rf Γ x0), (1, rf Γ x1), (2, .int x2), (3, .int x3)] dX3_putBehind_4 (by decide) rfl ?_
  exact x_sub [2, 3, 4, 5, 1, 0] rfl (go_X3_putBehind_L6 hO h x0 x1 x2 x3 ((0 : Int32)) ((0 : Int32)) hx0 hx1 hR)
theorem ok_X3_putBehind (G : Gl) (h : Hp) (x0 : Nat) (x1 : Nat) (x2 : Int32) (x3 : Int32) (hx0 : Is x0 3) (hx1 : Is x1 2) : CN G mX3_putBehind [.ref (gb G + x0), .ref (gb G + x1), .int x2, .int x3] h ((F_X3_putBehind h x0 x1 x2 x3).map (emHV)) := CN.fn pn_RX3 (Nat.le_of_ble_eq_true rfl) (fun Γ hG hO => by subst hG; exact go_X3_putBehind hO h x0 x1 x2 x3 hx0 hx1 (fun _ q => q))
noncomputable def B_X3_sortRow_11 (h : Hp) (x0 : Nat) (x1 : Nat) (x2 : Nat) (x3 : Int32) (x4 : Int32) (x5 : Int32) : Option ((Hp × Int32) ⊕ (Hp)) :=
  if x3 ≤ x5 then some (.inr h) else gd (ib x5 (LEN x2)) ((F_X2_reading h x1 (hI h x2 (nx x5)) x4).bind (fun r1 => gd (ib (r1 + ((1 : Int32))) (LEN (GR x0 1))) (gd (ib (r1 + ((1 : Int32))) (LEN (GR x0 1))) (some (.inl (uI h (GR x0 1) (nx (r1 + ((1 : Int32)))) ((hI h (GR x0 1) (nx (r1 + ((1 : Int32))))) + ((1 : Int32))), x5 + (1 : Int32)))))))
noncomputable def L_X3_sortRow_11 (h : Hp) (x0 : Nat) (x1 : Nat) (x2 : Nat) (x3 : Int32) (x4 : Int32) (x5 : Int32) : Option (Hp) := iterW (fun s : Hp × Int32 => B_X3_sortRow_11 s.1 x0 x1 x2 x3 x4 s.2) (h, x5)
set_option maxHeartbeats 4000000 in
set_option maxRecDepth 100000 in
theorem go_X3_sortRow_B11 {Γ : Cx} (hO : Ok Γ mX3_sortRow) (h : Hp) (x0 : Nat) (x1 : Nat) (x2 : Nat) (x3 : Int32) (x4 : Int32) (x5 : Int32) (hx0 : Is x0 3) (hx1 : Is x1 2) (hx2 : Is x2 14) {K : (Hp × Int32) ⊕ (Hp) → Prop} (hC : ∀ (h : Hp) (x5 : Int32), K (.inl (h, x5)) → EW Γ mX3_sortRow 11 [(0, rf Γ x0), (1, rf Γ x1), (2, rf Γ x2), (3, .int x3), (4, .int x4), (5, .int x5)] [] h) (hE44 : ∀ (h : Hp), K (.inr h) → EW Γ mX3_sortRow 44 [(0, rf Γ x0), (1, rf Γ x1), (2, rf Γ x2), (3, .int x3), (4, .int x4)] [] h) : EG Γ mX3_sortRow 11 [(0, rf Γ x0), (1, rf Γ x1), (2, rf Γ x2), (3, .int x3), (4, .int x4), (5, .int x5)] [] h (B_X3_sortRow_11 h x0 x1 x2 x3 x4 x5) K := by
  unfold B_X3_sortRow_11
  refine x_iload hO 5 rfl dX3_sortRow_11 ?_
  refine x_iload_n hO 3 rfl rfl dX3_sortRow_13 ?_
  refine x_icmp_ge hO (tg := 44) dX3_sortRow_14 (by decide) ?_ ?_
  · exact x_leafs [0, 1, 2, 3, 4] rfl (hE44 h)
  · refine x_aload_n hO 0 rfl rfl dX3_sortRow_17 ?_
    refine x_getR hO fl_RX3_15 hx0 dX3_sortRow_18 ?_
    refine x_aload_n hO 1 rfl rfl dX3_sortRow_21 ?_
    refine x_aload_n hO 2 rfl rfl dX3_sortRow_22 ?_
    refine x_iload hO 5 rfl dX3_sortRow_23 ?_
    refine x_iald hO hx2 dX3_sortRow_25 ?_
    refine x_iload hO 4 rfl dX3_sortRow_26 ?_
    refine y_PI (x_callV hO lv_RX3_63 hx1 vc_2 (by decide) (As := [.int (hI h x2 (nx x5)), .int x4]) rfl (Nat.le_of_ble_eq_true rfl) (ok_X2_reading (cG Γ) h x1 (hI h x2 (nx x5)) x4 hx1) dX3_sortRow_28 rfl (Nat.le_of_ble_eq_true rfl)) (fun r1 => ?_)
    refine x_iconst hO (v := 1) (by decide) dX3_sortRow_31 ?_
    refine x_iadd hO dX3_sortRow_32 ?_
    refine x_dup2_ri hO dX3_sortRow_33 ?_
    refine x_iald hO (gr_3_1 hx0) dX3_sortRow_34 ?_
    refine x_iconst hO (v := 1) (by decide) dX3_sortRow_35 ?_
    refine x_iadd hO dX3_sortRow_36 ?_
    refine x_iast hO (gr_3_1 hx0) dX3_sortRow_37 ?_
    refine x_iinc hO 5 (v := 1) [(5, .int (x5 + (1 : Int32))), (0, rf Γ x0), (1, rf Γ x1), (2, rf Γ x2), (3, .int x3), (4, .int x4)] dX3_sortRow_38 rfl (by decide) (by decide) rfl ?_
    refine x_goto hO (tg := 11) dX3_sortRow_41 (by decide) ?_
    exact x_leafs [1, 2, 3, 4, 5, 0] rfl (hC (uI h (GR x0 1) (nx (r1 + ((1 : Int32)))) ((hI h (GR x0 1) (nx (r1 + ((1 : Int32))))) + ((1 : Int32)))) (x5 + (1 : Int32)))
set_option maxHeartbeats 4000000 in
set_option maxRecDepth 100000 in
theorem go_X3_sortRow_L11 {Γ : Cx} (hO : Ok Γ mX3_sortRow) (h : Hp) (x0 : Nat) (x1 : Nat) (x2 : Nat) (x3 : Int32) (x4 : Int32) (x5 : Int32) (hx0 : Is x0 3) (hx1 : Is x1 2) (hx2 : Is x2 14) {K : Hp → Prop} (hE44 : ∀ (h : Hp), K (h) → EW Γ mX3_sortRow 44 [(0, rf Γ x0), (1, rf Γ x1), (2, rf Γ x2), (3, .int x3), (4, .int x4)] [] h) : EG Γ mX3_sortRow 11 [(0, rf Γ x0), (1, rf Γ x1), (2, rf Γ x2), (3, .int x3), (4, .int x4), (5, .int x5)] [] h (L_X3_sortRow_11 h x0 x1 x2 x3 x4 x5) K := by
  have q := x_loop (Γ := Γ) (M := mX3_sortRow) (pc := 11) (B := fun s : Hp × Int32 => B_X3_sortRow_11 s.1 x0 x1 x2 x3 x4 s.2) (lvf := fun s => [(0, rf Γ x0), (1, rf Γ x1), (2, rf Γ x2), (3, .int x3), (4, .int x4), (5, .int s.2)]) (hf := fun s => s.1) (Ky := K) (fun s => go_X3_sortRow_B11 hO s.1 x0 x1 x2 x3 x4 s.2 hx0 hx1 hx2 (fun _ _ => id) hE44) (h, x5)
  exact q
noncomputable def J_X3_sortRow_72 (h : Hp) (x0 : Nat) (x1 : Nat) (x2 : Nat) (x3 : Int32) (x4 : Int32) (x5 : Int32) (x6 : Int32) : Option ((Hp × Int32 × Int32) ⊕ (Hp × Int32)) :=
  gd (ib (x6 + ((1 : Int32))) (LEN (GR x0 1))) (gd (ib x6 (LEN (GR x0 1))) (gd (ib (x6 + ((1 : Int32))) (LEN (GR x0 1))) (some (.inl (uI h (GR x0 1) (nx (x6 + ((1 : Int32)))) ((hI h (GR x0 1) (nx (x6 + ((1 : Int32))))) + (hI h (GR x0 1) (nx x6))), x5, x6 + (1 : Int32))))))
set_option maxHeartbeats 4000000 in
set_option maxRecDepth 100000 in
theorem go_X3_sortRow_J72 {Γ : Cx} (hO : Ok Γ mX3_sortRow) (h : Hp) (x0 : Nat) (x1 : Nat) (x2 : Nat) (x3 : Int32) (x4 : Int32) (x5 : Int32) (x6 : Int32) (hx0 : Is x0 3) (hx1 : Is x1 2) (hx2 : Is x2 14) {K : (Hp × Int32 × Int32) ⊕ (Hp × Int32) → Prop} (hC : ∀ (h : Hp) (x5 : Int32) (x6 : Int32), K (.inl (h, x5, x6)) → EW Γ mX3_sortRow 50 [(0, rf Γ x0), (1, rf Γ x1), (2, rf Γ x2), (3, .int x3), (4, .int x4), (5, .int x5), (6, .int x6)] [] h) (hE97 : ∀ (h : Hp) (x5 : Int32), K (.inr ((h, x5))) → EW Γ mX3_sortRow 97 [(0, rf Γ x0), (1, rf Γ x1), (2, rf Γ x2), (3, .int x3), (4, .int x4), (5, .int x5)] [] h) : EG Γ mX3_sortRow 72 [(0, rf Γ x0), (1, rf Γ x1), (2, rf Γ x2), (3, .int x3), (4, .int x4), (5, .int x5), (6, .int x6)] [] h (J_X3_sortRow_72 h x0 x1 x2 x3 x4 x5 x6) K := by
  unfold J_X3_sortRow_72
  refine x_aload_n hO 0 rfl rfl dX3_sortRow_72 ?_
  refine x_getR hO fl_RX3_15 hx0 dX3_sortRow_73 ?_
  refine x_iload hO 6 rfl dX3_sortRow_76 ?_
  refine x_iconst hO (v := 1) (by decide) dX3_sortRow_78 ?_
  refine x_iadd hO dX3_sortRow_79 ?_
  refine x_dup2_ri hO dX3_sortRow_80 ?_
  refine x_iald hO (gr_3_1 hx0) dX3_sortRow_81 ?_
  refine x_aload_n hO 0 rfl rfl dX3_sortRow_82 ?_
  refine x_getR hO fl_RX3_15 hx0 dX3_sortRow_83 ?_
  refine x_iload hO 6 rfl dX3_sortRow_86 ?_
  refine x_iald hO (gr_3_1 hx0) dX3_sortRow_88 ?_
  refine x_iadd hO dX3_sortRow_89 ?_
  refine x_iast hO (gr_3_1 hx0) dX3_sortRow_90 ?_
  refine x_iinc hO 6 (v := 1) [(6, .int (x6 + (1 : Int32))), (0, rf Γ x0), (1, rf Γ x1), (2, rf Γ x2), (3, .int x3), (4, .int x4), (5, .int x5)] dX3_sortRow_91 rfl (by decide) (by decide) rfl ?_
  refine x_goto hO (tg := 50) dX3_sortRow_94 (by decide) ?_
  exact x_leafs [1, 2, 3, 4, 5, 6, 0] rfl (hC (uI h (GR x0 1) (nx (x6 + ((1 : Int32)))) ((hI h (GR x0 1) (nx (x6 + ((1 : Int32))))) + (hI h (GR x0 1) (nx x6)))) x5 (x6 + (1 : Int32)))
noncomputable def B_X3_sortRow_50 (h : Hp) (x0 : Nat) (x1 : Nat) (x2 : Nat) (x3 : Int32) (x4 : Int32) (x5 : Int32) (x6 : Int32) : Option ((Hp × Int32 × Int32) ⊕ (Hp × Int32)) :=
  if ((12 : Int32)) ≤ x6 then some (.inr ((h, x5))) else gd (ib (x6 + ((1 : Int32))) (LEN (GR x0 1))) (if (hI h (GR x0 1) (nx (x6 + ((1 : Int32))))) ≤ 0 then J_X3_sortRow_72 h x0 x1 x2 x3 x4 x5 x6 else J_X3_sortRow_72 h x0 x1 x2 x3 x4 (x5 + (1 : Int32)) x6)
noncomputable def L_X3_sortRow_50 (h : Hp) (x0 : Nat) (x1 : Nat) (x2 : Nat) (x3 : Int32) (x4 : Int32) (x5 : Int32) (x6 : Int32) : Option (Hp × Int32) := iterW (fun s : Hp × Int32 × Int32 => B_X3_sortRow_50 s.1 x0 x1 x2 x3 x4 s.2.1 s.2.2) (h, x5, x6)
set_option maxHeartbeats 4000000 in
set_option maxRecDepth 100000 in
theorem go_X3_sortRow_B50 {Γ : Cx} (hO : Ok Γ mX3_sortRow) (h : Hp) (x0 : Nat) (x1 : Nat) (x2 : Nat) (x3 : Int32) (x4 : Int32) (x5 : Int32) (x6 : Int32) (hx0 : Is x0 3) (hx1 : Is x1 2) (hx2 : Is x2 14) {K : (Hp × Int32 × Int32) ⊕ (Hp × Int32) → Prop} (hC : ∀ (h : Hp) (x5 : Int32) (x6 : Int32), K (.inl (h, x5, x6)) → EW Γ mX3_sortRow 50 [(0, rf Γ x0), (1, rf Γ x1), (2, rf Γ x2), (3, .int x3), (4, .int x4), (5, .int x5), (6, .int x6)] [] h) (hE97 : ∀ (h : Hp) (x5 : Int32), K (.inr ((h, x5))) → EW Γ mX3_sortRow 97 [(0, rf Γ x0), (1, rf Γ x1), (2, rf Γ x2), (3, .int x3), (4, .int x4), (5, .int x5)] [] h) : EG Γ mX3_sortRow 50 [(0, rf Γ x0), (1, rf Γ x1), (2, rf Γ x2), (3, .int x3), (4, .int x4), (5, .int x5), (6, .int x6)] [] h (B_X3_sortRow_50 h x0 x1 x2 x3 x4 x5 x6) K := by
  unfold B_X3_sortRow_50
  refine x_iload hO 6 rfl dX3_sortRow_50 ?_
  refine x_bipush hO (v := 12) (by decide) dX3_sortRow_52 ?_
  refine x_icmp_ge hO (tg := 97) dX3_sortRow_54 (by decide) ?_ ?_
  · exact x_leafs [0, 1, 2, 3, 4, 5] rfl (hE97 h x5)
  · refine x_aload_n hO 0 rfl rfl dX3_sortRow_57 ?_
    refine x_getR hO fl_RX3_15 hx0 dX3_sortRow_58 ?_
    refine x_iload hO 6 rfl dX3_sortRow_61 ?_
    refine x_iconst hO (v := 1) (by decide) dX3_sortRow_63 ?_
    refine x_iadd hO dX3_sortRow_64 ?_
    refine x_iald hO (gr_3_1 hx0) dX3_sortRow_65 ?_
    refine x_if_le hO (tg := 72) dX3_sortRow_66 (by decide) ?_ ?_
    · exact x_sub [0, 1, 2, 3, 4, 5, 6] rfl (go_X3_sortRow_J72 hO h x0 x1 x2 x3 x4 x5 x6 hx0 hx1 hx2 hC hE97)
    · refine x_iinc hO 5 (v := 1) [(5, .int (x5 + (1 : Int32))), (0, rf Γ x0), (1, rf Γ x1), (2, rf Γ x2), (3, .int x3), (4, .int x4), (6, .int x6)] dX3_sortRow_69 rfl (by decide) (by decide) rfl ?_
      exact x_sub [1, 2, 3, 4, 5, 0, 6] rfl (go_X3_sortRow_J72 hO h x0 x1 x2 x3 x4 (x5 + (1 : Int32)) x6 hx0 hx1 hx2 hC hE97)
set_option maxHeartbeats 4000000 in
set_option maxRecDepth 100000 in
theorem go_X3_sortRow_L50 {Γ : Cx} (hO : Ok Γ mX3_sortRow) (h : Hp) (x0 : Nat) (x1 : Nat) (x2 : Nat) (x3 : Int32) (x4 : Int32) (x5 : Int32) (x6 : Int32) (hx0 : Is x0 3) (hx1 : Is x1 2) (hx2 : Is x2 14) {K : Hp × Int32 → Prop} (hE97 : ∀ (h : Hp) (x5 : Int32), K ((h, x5)) → EW Γ mX3_sortRow 97 [(0, rf Γ x0), (1, rf Γ x1), (2, rf Γ x2), (3, .int x3), (4, .int x4), (5, .int x5)] [] h) : EG Γ mX3_sortRow 50 [(0, rf Γ x0), (1, rf Γ x1), (2, rf Γ x2), (3, .int x3), (4, .int x4), (5, .int x5), (6, .int x6)] [] h (L_X3_sortRow_50 h x0 x1 x2 x3 x4 x5 x6) K := by
  have q := x_loop (Γ := Γ) (M := mX3_sortRow) (pc := 50) (B := fun s : Hp × Int32 × Int32 => B_X3_sortRow_50 s.1 x0 x1 x2 x3 x4 s.2.1 s.2.2) (lvf := fun s => [(0, rf Γ x0), (1, rf Γ x1), (2, rf Γ x2), (3, .int x3), (4, .int x4), (5, .int s.2.1), (6, .int s.2.2)]) (hf := fun s => s.1) (Ky := K) (fun s => go_X3_sortRow_B50 hO s.1 x0 x1 x2 x3 x4 s.2.1 s.2.2 hx0 hx1 hx2 (fun _ _ _ => id) hE97) (h, x5, x6)
  exact q
noncomputable def B_X3_sortRow_100 (h : Hp) (x0 : Nat) (x1 : Nat) (x2 : Nat) (x3 : Int32) (x4 : Int32) (x5 : Int32) (x6 : Int32) : Option ((Hp × Int32) ⊕ (Hp × Int32)) :=
  if x3 ≤ x6 then gd (cpok ((0 : Int32)) ((0 : Int32)) x3 (LEN (GR x0 0)) (LEN x2)) (some (.inr ((sI h x2 (va_cpy (hI h (GR x0 0)) (hI h x2) (nx ((0 : Int32))) (nx ((0 : Int32))) (nx x3)), x5)))) else gd (ib x6 (LEN x2)) ((F_X2_reading h x1 (hI h x2 (nx x6)) x4).bind (fun r1 => gd (ib r1 (LEN (GR x0 1))) (gd (ib x6 (LEN x2)) (gd (ib (hI h (GR x0 1) (nx r1)) (LEN (GR x0 0))) (gd (ib r1 (LEN (GR x0 1))) (gd (ib r1 (LEN (GR x0 1))) (bnd (uI (uI h (GR x0 0) (nx (hI h (GR x0 1) (nx r1))) (hI h x2 (nx x6))) (GR x0 1) (nx r1) ((hI (uI h (GR x0 0) (nx (hI h (GR x0 1) (nx r1))) (hI h x2 (nx x6))) (GR x0 1) (nx r1)) + ((1 : Int32)))) (fun h2 => some (.inl (h2, x6 + (1 : Int32)))))))))))
noncomputable def L_X3_sortRow_100 (h : Hp) (x0 : Nat) (x1 : Nat) (x2 : Nat) (x3 : Int32) (x4 : Int32) (x5 : Int32) (x6 : Int32) : Option (Hp × Int32) := iterW (fun s : Hp × Int32 => B_X3_sortRow_100 s.1 x0 x1 x2 x3 x4 x5 s.2) (h, x6)
set_option maxHeartbeats 4000000 in
set_option maxRecDepth 100000 in
theorem go_X3_sortRow_B100 {Γ : Cx} (hO : Ok Γ mX3_sortRow) (h : Hp) (x0 : Nat) (x1 : Nat) (x2 : Nat) (x3 : Int32) (x4 : Int32) (x5 : Int32) (x6 : Int32) (hx0 : Is x0 3) (hx1 : Is x1 2) (hx2 : Is x2 14) {K : (Hp × Int32) ⊕ (Hp × Int32) → Prop} (hC : ∀ (h : Hp) (x6 : Int32), K (.inl (h, x6)) → EW Γ mX3_sortRow 100 [(0, rf Γ x0), (1, rf Γ x1), (2, rf Γ x2), (3, .int x3), (4, .int x4), (5, .int x5), (6, .int x6)] [] h) (hR : ∀ r, K (.inr r) → emHI r = tgt Γ) : EG Γ mX3_sortRow 100 [(0, rf Γ x0), (1, rf Γ x1), (2, rf Γ x2), (3, .int x3), (4, .int x4), (5, .int x5), (6, .int x6)] [] h (B_X3_sortRow_100 h x0 x1 x2 x3 x4 x5 x6) K := by
  unfold B_X3_sortRow_100
  refine x_iload hO 6 rfl dX3_sortRow_100 ?_
  refine x_iload_n hO 3 rfl rfl dX3_sortRow_102 ?_
  refine x_icmp_ge hO (tg := 151) dX3_sortRow_103 (by decide) ?_ ?_
  · refine x_aload_n hO 0 rfl rfl dX3_sortRow_151 ?_
    refine x_getR hO fl_RX3_9 hx0 dX3_sortRow_152 ?_
    refine x_iconst hO (v := 0) (by decide) dX3_sortRow_155 ?_
    refine x_aload_n hO 2 rfl rfl dX3_sortRow_156 ?_
    refine x_iconst hO (v := 0) (by decide) dX3_sortRow_157 ?_
    refine x_iload_n hO 3 rfl rfl dX3_sortRow_158 ?_
    refine x_copyI hO lc_RX3_73 (gr_3_0 hx0) hx2 (Nat.le_of_ble_eq_true rfl) (Nat.le_of_ble_eq_true rfl) dX3_sortRow_159 ?_
    refine x_iload hO 5 rfl dX3_sortRow_162 ?_
    exact x_iret hO rfl dX3_sortRow_164 (hR _)
  · refine x_aload_n hO 1 rfl rfl dX3_sortRow_106 ?_
    refine x_aload_n hO 2 rfl rfl dX3_sortRow_107 ?_
    refine x_iload hO 6 rfl dX3_sortRow_108 ?_
    refine x_iald hO hx2 dX3_sortRow_110 ?_
    refine x_iload hO 4 rfl dX3_sortRow_111 ?_
    refine y_PI (x_callV hO lv_RX3_63 hx1 vc_2 (by decide) (As := [.int (hI h x2 (nx x6)), .int x4]) rfl (Nat.le_of_ble_eq_true rfl) (ok_X2_reading (cG Γ) h x1 (hI h x2 (nx x6)) x4 hx1) dX3_sortRow_113 rfl (Nat.le_of_ble_eq_true rfl)) (fun r1 => ?_)
    refine x_istore hO [(7, .int r1), (0, rf Γ x0), (1, rf Γ x1), (2, rf Γ x2), (3, .int x3), (4, .int x4), (5, .int x5), (6, .int x6)] dX3_sortRow_116 (by decide) rfl ?_
    refine x_aload_n hO 1 rfl rfl dX3_sortRow_118 ?_
    refine x_getR hO fl_RX3_9 hx0 dX3_sortRow_119 ?_
    refine x_aload_n hO 1 rfl rfl dX3_sortRow_122 ?_
    refine x_getR hO fl_RX3_15 hx0 dX3_sortRow_123 ?_
    refine x_iload hO 0 rfl dX3_sortRow_126 ?_
    refine x_iald hO (gr_3_1 hx0) dX3_sortRow_128 ?_
    refine x_aload_n hO 3 rfl rfl dX3_sortRow_129 ?_
    refine x_iload hO 7 rfl dX3_sortRow_130 ?_
    refine x_iald hO hx2 dX3_sortRow_132 ?_
    refine x_iast hO (gr_3_0 hx0) dX3_sortRow_133 ?_
    refine x_aload_n hO 1 rfl rfl dX3_sortRow_134 ?_
    refine x_getR hO fl_RX3_15 hx0 dX3_sortRow_135 ?_
    refine x_iload hO 0 rfl dX3_sortRow_138 ?_
    refine x_dup2_ri hO dX3_sortRow_140 ?_
    refine x_iald hO (gr_3_1 hx0) dX3_sortRow_141 ?_
    refine x_iconst hO (v := 1) (by decide) dX3_sortRow_142 ?_
    refine x_iadd hO dX3_sortRow_143 ?_
    refine x_iast hO (gr_3_1 hx0) dX3_sortRow_144 ?_
    refine x_bnd ?_
    generalize uI (uI h (GR x0 0) (nx (hI h (GR x0 1) (nx r1))) (hI h x2 (nx x6))) (GR x0 1) (nx r1) ((hI (uI h (GR x0 0) (nx (hI h (GR x0 1) (nx r1))) (hI h x2 (nx x6))) (GR x0 1) (nx r1)) + ((1 : Int32))) = h2
    refine x_iinc hO 7 (v := 1) [(6, .int (x6 + (1 : Int32))), (7, .int r1), (0, rf Γ x0), (1, rf Γ x1), (2, rf Γ x2), (3, .int x3), (4, .int x4), (5, .int x5)] dX3_sortRow_145 rfl (by decide) (by decide) rfl ?_
    refine x_goto hO (tg := 100) dX3_sortRow_148 (by decide) ?_
    exact x_leafs [2, 3, 4, 5, 6, 7, 0] rfl (hC h2 (x6 + (1 : Int32)))
set_option maxHeartbeats 4000000 in
set_option maxRecDepth 100000 in
theorem go_X3_sortRow_L100 {Γ : Cx} (hO : Ok Γ mX3_sortRow) (h : Hp) (x0 : Nat) (x1 : Nat) (x2 : Nat) (x3 : Int32) (x4 : Int32) (x5 : Int32) (x6 : Int32) (hx0 : Is x0 3) (hx1 : Is x1 2) (hx2 : Is x2 14) {K : Hp × Int32 → Prop} (hR : ∀ r, K (r) → emHI r = tgt Γ) : EG Γ mX3_sortRow 100 [(0, rf Γ x0), (1, rf Γ x1), (2, rf Γ x2), (3, .int x3), (4, .int x4), (5, .int x5), (6, .int x6)] [] h (L_X3_sortRow_100 h x0 x1 x2 x3 x4 x5 x6) K := by
  have q := x_loop (Γ := Γ) (M := mX3_sortRow) (pc := 100) (B := fun s : Hp × Int32 => B_X3_sortRow_100 s.1 x0 x1 x2 x3 x4 x5 s.2) (lvf := fun s => [(0, rf Γ x0), (1, rf Γ x1), (2, rf Γ x2), (3, .int x3), (4, .int x4), (5, .int x5), (6, .int s.2)]) (hf := fun s => s.1) (Ky := K) (fun s => go_X3_sortRow_B100 hO s.1 x0 x1 x2 x3 x4 x5 s.2 hx0 hx1 hx2 (fun _ _ => id) hR) (h, x6)
  exact q
noncomputable def F_X3_sortRow (h : Hp) (x0 : Nat) (x1 : Nat) (x2 : Nat) (x3 : Int32) (x4 : Int32) : Option (Hp × Int32) :=
  (F_J7_fill_53178 h (GR x0 1) ((0 : Int32))).bind (fun r1 => (L_X3_sortRow_11 r1 x0 x1 x2 x3 x4 ((0 : Int32))).bind (fun e2 => (L_X3_sortRow_50 e2 x0 x1 x2 x3 x4 ((0 : Int32)) ((0 : Int32))).bind (fun e3 => L_X3_sortRow_100 e3.1 x0 x1 x2 x3 x4 e3.2 ((0 : Int32)))))
set_option maxHeartbeats 4000000 in
set_option maxRecDepth 100000 in
theorem go_X3_sortRow {Γ : Cx} (hO : Ok Γ mX3_sortRow) (h : Hp) (x0 : Nat) (x1 : Nat) (x2 : Nat) (x3 : Int32) (x4 : Int32) (hx0 : Is x0 3) (hx1 : Is x1 2) (hx2 : Is x2 14) {K : Hp × Int32 → Prop} (hR : ∀ r, K r → emHI r = tgt Γ) : EG Γ mX3_sortRow 0 [(0, rf Γ x0), (1, rf Γ x1), (2, rf Γ x2), (3, .int x3), (4, .int x4)] [] h (F_X3_sortRow h x0 x1 x2 x3 x4) K := by
  unfold F_X3_sortRow
  refine x_aload_n hO 0 rfl rfl dX3_sortRow_0 ?_
  refine x_getR hO fl_RX3_15 hx0 dX3_sortRow_1 ?_
  refine x_iconst hO (v := 0) (by decide) dX3_sortRow_4 ?_
  refine y_HV (x_callS hO lt_RX3_67 (As := [rf Γ (GR x0 1), .int ((0 : Int32))]) rfl (Nat.le_of_ble_eq_true rfl) (ok_J7_fill_53178 (cG Γ) h (GR x0 1) ((0 : Int32)) (gr_3_1 hx0)) dX3_sortRow_5 rfl (Nat.le_of_ble_eq_true rfl)) (fun r1 => ?_)
  refine x_iconst hO (v := 0) (by decide) dX3_sortRow_8 ?_
  refine x_istore hO [(5, .int ((0 : Int32))), (0, rf Γ x0), (1, rf Γ x1), (2, rf Γ x2), (3, .int x3), (4, .int x4)] dX3_sortRow_9 (by decide) rfl ?_
  refine x_bind (x_sub [1, 2, 3, 4, 5, 0] rfl (go_X3_sortRow_L11 hO r1 x0 x1 x2 x3 x4 ((0 : Int32)) hx0 hx1 hx2 (fun y2_0 hx => ?_)))
  refine x_run (t := ((L_X3_sortRow_50 y2_0 x0 x1 x2 x3 x4 ((0 : Int32)) ((0 : Int32))).bind (fun e3 => L_X3_sortRow_100 e3.1 x0 x1 x2 x3 x4 e3.2 ((0 : Int32))) : Option (Hp × Int32))) hx ?_
  refine x_iconst hO (v := 0) (by decide) dX3_sortRow_44 ?_
  refine x_istore hO [(5, .int ((0 : Int32))), (0, rf Γ x0), (1, rf Γ x1), (2, rf Γ x2), (3, .int x3), (4, .int x4)] dX3_sortRow_45 (by decide) rfl ?_
  refine x_iconst hO (v := 0) (by decide) dX3_sortRow_47 ?_
  refine x_istore hO [(6, .int ((0 : Int32))), (5, .int ((0 : Int32))), (0, rf Γ x0), (1, rf Γ x1), (2, rf Γ x2), (3, .int x3), (4, .int x4)] dX3_sortRow_48 (by decide) rfl ?_
  refine x_bind (x_sub [2, 3, 4, 5, 6, 1, 0] rfl (go_X3_sortRow_L50 hO y2_0 x0 x1 x2 x3 x4 ((0 : Int32)) ((0 : Int32)) hx0 hx1 hx2 (fun y3_0 y3_1 hx => ?_)))
  refine x_run (t := (L_X3_sortRow_100 y3_0 x0 x1 x2 x3 x4 y3_1 ((0 : Int32)) : Option (Hp × Int32))) hx ?_
  refine x_iconst hO (v := 0) (by decide) dX3_sortRow_97 ?_
  refine x_istore hO [(6, .int ((0 : Int32))), (0, rf Γ x0), (1, rf Γ x1), (2, rf Γ x2), (3, .int x3), (4, .int x4), (5, .int y3_1)] dX3_sortRow_98 (by decide) rfl ?_
  exact x_sub [1, 2, 3, 4, 5, 6, 0] rfl (go_X3_sortRow_L100 hO y3_0 x0 x1 x2 x3 x4 y3_1 ((0 : Int32)) hx0 hx1 hx2 hR)
theorem ok_X3_sortRow (G : Gl) (h : Hp) (x0 : Nat) (x1 : Nat) (x2 : Nat) (x3 : Int32) (x4 : Int32) (hx0 : Is x0 3) (hx1 : Is x1 2) (hx2 : Is x2 14) : CN G mX3_sortRow [.ref (gb G + x0), .ref (gb G + x1), .ref (gb G + x2), .int x3, .int x4] h ((F_X3_sortRow h x0 x1 x2 x3 x4).map (emHI)) := CN.fn pn_RX3 (Nat.le_of_ble_eq_true rfl) (fun Γ hG hO => by subst hG; exact go_X3_sortRow hO h x0 x1 x2 x3 x4 hx0 hx1 hx2 (fun _ q => q))
noncomputable def B_X3_turnDeck_2 (h : Hp) (x0 : Nat) (x1 : Nat) (x2 : Int32) : Option ((Hp × Int32) ⊕ (Hp)) :=
  if (hI h x1 0) ≤ x2 then gd (cpok ((0 : Int32)) ((0 : Int32)) (hI h x1 0) (LEN (GR x0 0)) (LEN (GR x1 7))) (some (.inr (sI h (GR x1 7) (va_cpy (hI h (GR x0 0)) (hI h (GR x1 7)) (nx ((0 : Int32))) (nx ((0 : Int32))) (nx (hI h x1 0)))))) else gd (ib (((hI h x1 0) - ((1 : Int32))) - x2) (LEN (GR x1 7))) (gd (ib x2 (LEN (GR x0 0))) (some (.inl (uI h (GR x0 0) (nx x2) (hI h (GR x1 7) (nx (((hI h x1 0) - ((1 : Int32))) - x2))), x2 + (1 : Int32)))))
noncomputable def L_X3_turnDeck_2 (h : Hp) (x0 : Nat) (x1 : Nat) (x2 : Int32) : Option (Hp) := iterW (fun s : Hp × Int32 => B_X3_turnDeck_2 s.1 x0 x1 s.2) (h, x2)
set_option maxHeartbeats 4000000 in
set_option maxRecDepth 100000 in
theorem go_X3_turnDeck_B2 {Γ : Cx} (hO : Ok Γ mX3_turnDeck) (h : Hp) (x0 : Nat) (x1 : Nat) (x2 : Int32) (hx0 : Is x0 3) (hx1 : Is x1 2) {K : (Hp × Int32) ⊕ (Hp) → Prop} (hC : ∀ (h : Hp) (x2 : Int32), K (.inl (h, x2)) → EW Γ mX3_turnDeck 2 [(0, rf Γ x0), (1, rf Γ x1), (2, .int x2)] [] h) (hR : ∀ r, K (.inr r) → emHV r = tgt Γ) : EG Γ mX3_turnDeck 2 [(0, rf Γ x0), (1, rf Γ x1), (2, .int x2)] [] h (B_X3_turnDeck_2 h x0 x1 x2) K := by
  unfold B_X3_turnDeck_2
  refine x_iload_n hO 2 rfl rfl dX3_turnDeck_2 ?_
  refine x_aload_n hO 1 rfl rfl dX3_turnDeck_3 ?_
  refine x_getI hO fl_RX3_45 hx1 dX3_turnDeck_4 ?_
  refine x_icmp_ge hO (tg := 35) dX3_turnDeck_7 (by decide) ?_ ?_
  · refine x_aload_n hO 0 rfl rfl dX3_turnDeck_35 ?_
    refine x_getR hO fl_RX3_9 hx0 dX3_turnDeck_36 ?_
    refine x_iconst hO (v := 0) (by decide) dX3_turnDeck_39 ?_
    refine x_aload_n hO 1 rfl rfl dX3_turnDeck_40 ?_
    refine x_getR hO fl_RX3_53 hx1 dX3_turnDeck_41 ?_
    refine x_iconst hO (v := 0) (by decide) dX3_turnDeck_44 ?_
    refine x_aload_n hO 1 rfl rfl dX3_turnDeck_45 ?_
    refine x_getI hO fl_RX3_45 hx1 dX3_turnDeck_46 ?_
    refine x_copyI hO lc_RX3_73 (gr_3_0 hx0) (gr_2_7 hx1) (Nat.le_of_ble_eq_true rfl) (Nat.le_of_ble_eq_true rfl) dX3_turnDeck_49 ?_
    exact x_vret hO rfl dX3_turnDeck_52 (hR _)
  · refine x_aload_n hO 0 rfl rfl dX3_turnDeck_10 ?_
    refine x_getR hO fl_RX3_9 hx0 dX3_turnDeck_11 ?_
    refine x_iload_n hO 2 rfl rfl dX3_turnDeck_14 ?_
    refine x_aload_n hO 1 rfl rfl dX3_turnDeck_15 ?_
    refine x_getR hO fl_RX3_53 hx1 dX3_turnDeck_16 ?_
    refine x_aload_n hO 1 rfl rfl dX3_turnDeck_19 ?_
    refine x_getI hO fl_RX3_45 hx1 dX3_turnDeck_20 ?_
    refine x_iconst hO (v := 1) (by decide) dX3_turnDeck_23 ?_
    refine x_isub hO dX3_turnDeck_24 ?_
    refine x_iload_n hO 2 rfl rfl dX3_turnDeck_25 ?_
    refine x_isub hO dX3_turnDeck_26 ?_
    refine x_iald hO (gr_2_7 hx1) dX3_turnDeck_27 ?_
    refine x_iast hO (gr_3_0 hx0) dX3_turnDeck_28 ?_
    refine x_iinc hO 2 (v := 1) [(2, .int (x2 + (1 : Int32))), (0, rf Γ x0), (1, rf Γ x1)] dX3_turnDeck_29 rfl (by decide) (by decide) rfl ?_
    refine x_goto hO (tg := 2) dX3_turnDeck_32 (by decide) ?_
    exact x_leafs [1, 2, 0] rfl (hC (uI h (GR x0 0) (nx x2) (hI h (GR x1 7) (nx (((hI h x1 0) - ((1 : Int32))) - x2)))) (x2 + (1 : Int32)))
set_option maxHeartbeats 4000000 in
set_option maxRecDepth 100000 in
theorem go_X3_turnDeck_L2 {Γ : Cx} (hO : Ok Γ mX3_turnDeck) (h : Hp) (x0 : Nat) (x1 : Nat) (x2 : Int32) (hx0 : Is x0 3) (hx1 : Is x1 2) {K : Hp → Prop} (hR : ∀ r, K (r) → emHV r = tgt Γ) : EG Γ mX3_turnDeck 2 [(0, rf Γ x0), (1, rf Γ x1), (2, .int x2)] [] h (L_X3_turnDeck_2 h x0 x1 x2) K := by
  have q := x_loop (Γ := Γ) (M := mX3_turnDeck) (pc := 2) (B := fun s : Hp × Int32 => B_X3_turnDeck_2 s.1 x0 x1 s.2) (lvf := fun s => [(0, rf Γ x0), (1, rf Γ x1), (2, .int s.2)]) (hf := fun s => s.1) (Ky := K) (fun s => go_X3_turnDeck_B2 hO s.1 x0 x1 s.2 hx0 hx1 (fun _ _ => id) hR) (h, x2)
  exact q
noncomputable def F_X3_turnDeck (h : Hp) (x0 : Nat) (x1 : Nat) : Option (Hp) :=
  L_X3_turnDeck_2 h x0 x1 ((0 : Int32))
set_option maxHeartbeats 4000000 in
set_option maxRecDepth 100000 in
theorem go_X3_turnDeck {Γ : Cx} (hO : Ok Γ mX3_turnDeck) (h : Hp) (x0 : Nat) (x1 : Nat) (hx0 : Is x0 3) (hx1 : Is x1 2) {K : Hp → Prop} (hR : ∀ r, K r → emHV r = tgt Γ) : EG Γ mX3_turnDeck 0 [(0, rf Γ x0), (1, rf Γ x1)] [] h (F_X3_turnDeck h x0 x1) K := by
  unfold F_X3_turnDeck
  refine x_iconst hO (v := 0) (by decide) dX3_turnDeck_0 ?_
  refine x_istore_n hO rfl [(2, .int ((0 : Int32))), (0, rf Γ x0), (1, rf Γ x1)] dX3_turnDeck_1 (by decide) rfl ?_
  exact x_sub [1, 2, 0] rfl (go_X3_turnDeck_L2 hO h x0 x1 ((0 : Int32)) hx0 hx1 hR)
theorem ok_X3_turnDeck (G : Gl) (h : Hp) (x0 : Nat) (x1 : Nat) (hx0 : Is x0 3) (hx1 : Is x1 2) : CN G mX3_turnDeck [.ref (gb G + x0), .ref (gb G + x1)] h ((F_X3_turnDeck h x0 x1).map (emHV)) := CN.fn pn_RX3 (Nat.le_of_ble_eq_true rfl) (fun Γ hG hO => by subst hG; exact go_X3_turnDeck hO h x0 x1 hx0 hx1 (fun _ q => q))
noncomputable def F_X4_change (h : Hp) (x0 : Nat) (x1 : Int32) (x2 : Int32) : Option (Hp) :=
  (F_X4_tally h x0 x1 ((-1 : Int32))).bind (fun r1 => (F_X4_tally r1 x0 x2 ((1 : Int32))).bind (fun r2 => some r2))
set_option maxHeartbeats 4000000 in
set_option maxRecDepth 100000 in
theorem go_X4_change {Γ : Cx} (hO : Ok Γ mX4_change) (h : Hp) (x0 : Nat) (x1 : Int32) (x2 : Int32) (hx0 : Is x0 4) {K : Hp → Prop} (hR : ∀ r, K r → emHV r = tgt Γ) : EG Γ mX4_change 0 [(0, rf Γ x0), (1, .int x1), (2, .int x2)] [] h (F_X4_change h x0 x1 x2) K := by
  unfold F_X4_change
  refine x_aload_n hO 0 rfl rfl dX4_change_0 ?_
  refine x_iload_n hO 1 rfl rfl dX4_change_1 ?_
  refine x_iconst hO (v := -1) (by decide) dX4_change_2 ?_
  refine y_HV (x_callV hO lv_RX4_76 hx0 vc_4 (by decide) (As := [.int x1, .int ((-1 : Int32))]) rfl (Nat.le_of_ble_eq_true rfl) (ok_X4_tally (cG Γ) h x0 x1 ((-1 : Int32)) hx0) dX4_change_3 rfl (Nat.le_of_ble_eq_true rfl)) (fun r1 => ?_)
  refine x_aload_n hO 0 rfl rfl dX4_change_6 ?_
  refine x_iload_n hO 2 rfl rfl dX4_change_7 ?_
  refine x_iconst hO (v := 1) (by decide) dX4_change_8 ?_
  refine y_HV (x_callV hO lv_RX4_76 hx0 vc_4 (by decide) (As := [.int x2, .int ((1 : Int32))]) rfl (Nat.le_of_ble_eq_true rfl) (ok_X4_tally (cG Γ) r1 x0 x2 ((1 : Int32)) hx0) dX4_change_9 rfl (Nat.le_of_ble_eq_true rfl)) (fun r2 => ?_)
  exact x_vret hO rfl dX4_change_12 (hR _)
theorem ok_X4_change (G : Gl) (h : Hp) (x0 : Nat) (x1 : Int32) (x2 : Int32) (hx0 : Is x0 4) : CN G mX4_change [.ref (gb G + x0), .int x1, .int x2] h ((F_X4_change h x0 x1 x2).map (emHV)) := CN.fn pn_RX4 (Nat.le_of_ble_eq_true rfl) (fun Γ hG hO => by subst hG; exact go_X4_change hO h x0 x1 x2 hx0 (fun _ q => q))
noncomputable def B_X4_prepare_44 (h : Hp) (x0 : Nat) (x1 : Nat) (x2 : Int32) (x4 : Int32) : Option ((Hp × Int32) ⊕ (Hp)) :=
  if (hI h x0 8) ≤ x4 then some (.inr h) else (F_X2_reading h x1 x4 x2).bind (fun r1 => gd (ib x4 (LEN (GR x0 6))) (if ((8 : Int32)) ≤ (x2 + ((1 : Int32))) then gd (ib x4 (LEN (GR x0 7))) (gd (ib x4 (LEN (GR x0 6))) ((F_X4_tally (uI (uI h (GR x0 6) (nx x4) r1) (GR x0 7) (nx x4) ((-1 : Int32))) x0 (hI (uI (uI h (GR x0 6) (nx x4) r1) (GR x0 7) (nx x4) ((-1 : Int32))) (GR x0 6) (nx x4)) ((1 : Int32))).bind (fun r2 => some (.inl (r2, x4 + (1 : Int32)))))) else (F_X2_reading (uI h (GR x0 6) (nx x4) r1) x1 x4 (x2 + ((1 : Int32)))).bind (fun r3 => gd (ib x4 (LEN (GR x0 7))) (gd (ib x4 (LEN (GR x0 6))) ((F_X4_tally (uI (uI h (GR x0 6) (nx x4) r1) (GR x0 7) (nx x4) r3) x0 (hI (uI (uI h (GR x0 6) (nx x4) r1) (GR x0 7) (nx x4) r3) (GR x0 6) (nx x4)) ((1 : Int32))).bind (fun r4 => some (.inl (r4, x4 + (1 : Int32)))))))))
noncomputable def L_X4_prepare_44 (h : Hp) (x0 : Nat) (x1 : Nat) (x2 : Int32) (x4 : Int32) : Option (Hp) := iterW (fun s : Hp × Int32 => B_X4_prepare_44 s.1 x0 x1 x2 s.2) (h, x4)
set_option maxHeartbeats 4000000 in
set_option maxRecDepth 100000 in
theorem go_X4_prepare_B44 {Γ : Cx} (hO : Ok Γ mX4_prepare) (h : Hp) (x0 : Nat) (x1 : Nat) (x2 : Int32) (x4 : Int32) (hx0 : Is x0 4) (hx1 : Is x1 2) {K : (Hp × Int32) ⊕ (Hp) → Prop} (hC : ∀ (h : Hp) (x4 : Int32), K (.inl (h, x4)) → EW Γ mX4_prepare 44 [(0, rf Γ x0), (1, rf Γ x1), (2, .int x2), (4, .int x4)] [] h) (hR : ∀ r, K (.inr r) → emHV r = tgt Γ) : EG Γ mX4_prepare 44 [(0, rf Γ x0), (1, rf Γ x1), (2, .int x2), (4, .int x4)] [] h (B_X4_prepare_44 h x0 x1 x2 x4) K := by
  unfold B_X4_prepare_44
  refine x_iload hO 3 rfl dX4_prepare_44 ?_
  refine x_aload_n hO 0 rfl rfl dX4_prepare_46 ?_
  refine x_getI hO fl_RX4_39 hx0 dX4_prepare_47 ?_
  refine x_icmp_ge hO (tg := 113) dX4_prepare_50 (by decide) ?_ ?_
  · exact x_vret hO rfl dX4_prepare_113 (hR _)
  · refine x_aload_n hO 0 rfl rfl dX4_prepare_53 ?_
    refine x_getR hO fl_RX4_33 hx0 dX4_prepare_54 ?_
    refine x_iload hO 3 rfl dX4_prepare_57 ?_
    refine x_aload_n hO 1 rfl rfl dX4_prepare_59 ?_
    refine x_iload hO 3 rfl dX4_prepare_60 ?_
    refine x_iload_n hO 2 rfl rfl dX4_prepare_62 ?_
    refine y_PI (x_callV hO lv_RX4_72 hx1 vc_2 (by decide) (As := [.int x4, .int x2]) rfl (Nat.le_of_ble_eq_true rfl) (ok_X2_reading (cG Γ) h x1 x4 x2 hx1) dX4_prepare_63 rfl (Nat.le_of_ble_eq_true rfl)) (fun r1 => ?_)
    refine x_iast hO (gr_4_6 hx0) dX4_prepare_66 ?_
    refine x_aload_n hO 0 rfl rfl dX4_prepare_67 ?_
    refine x_getR hO fl_RX4_36 hx0 dX4_prepare_68 ?_
    refine x_iload hO 3 rfl dX4_prepare_71 ?_
    refine x_iload_n hO 2 rfl rfl dX4_prepare_73 ?_
    refine x_iconst hO (v := 1) (by decide) dX4_prepare_74 ?_
    refine x_iadd hO dX4_prepare_75 ?_
    refine x_bipush hO (v := 8) (by decide) dX4_prepare_76 ?_
    refine x_icmp_ge hO (tg := 93) dX4_prepare_78 (by decide) ?_ ?_
    · refine x_iconst hO (v := -1) (by decide) dX4_prepare_93 ?_
      refine x_iast hO (gr_4_7 hx0) dX4_prepare_94 ?_
      refine x_aload_n hO 0 rfl rfl dX4_prepare_95 ?_
      refine x_aload_n hO 0 rfl rfl dX4_prepare_96 ?_
      refine x_getR hO fl_RX4_33 hx0 dX4_prepare_97 ?_
      refine x_iload hO 3 rfl dX4_prepare_100 ?_
      refine x_iald hO (gr_4_6 hx0) dX4_prepare_102 ?_
      refine x_iconst hO (v := 1) (by decide) dX4_prepare_103 ?_
      refine y_HV (x_callV hO lv_RX4_76 hx0 vc_4 (by decide) (As := [.int (hI (uI (uI h (GR x0 6) (nx x4) r1) (GR x0 7) (nx x4) ((-1 : Int32))) (GR x0 6) (nx x4)), .int ((1 : Int32))]) rfl (Nat.le_of_ble_eq_true rfl) (ok_X4_tally (cG Γ) (uI (uI h (GR x0 6) (nx x4) r1) (GR x0 7) (nx x4) ((-1 : Int32))) x0 (hI (uI (uI h (GR x0 6) (nx x4) r1) (GR x0 7) (nx x4) ((-1 : Int32))) (GR x0 6) (nx x4)) ((1 : Int32)) hx0) dX4_prepare_104 rfl (Nat.le_of_ble_eq_true rfl)) (fun r2 => ?_)
      refine x_iinc hO 3 (v := 1) [(4, .int (x4 + (1 : Int32))), (0, rf Γ x0), (1, rf Γ x1), (2, .int x2)] dX4_prepare_107 rfl (by decide) (by decide) rfl ?_
      refine x_goto hO (tg := 44) dX4_prepare_110 (by decide) ?_
      exact x_leafs [1, 2, 3, 0] rfl (hC r2 (x4 + (1 : Int32)))
    · refine x_aload_n hO 1 rfl rfl dX4_prepare_81 ?_
      refine x_iload hO 3 rfl dX4_prepare_82 ?_
      refine x_iload_n hO 2 rfl rfl dX4_prepare_84 ?_
      refine x_iconst hO (v := 1) (by decide) dX4_prepare_85 ?_
      refine x_iadd hO dX4_prepare_86 ?_
      refine y_PI (x_callV hO lv_RX4_72 hx1 vc_2 (by decide) (As := [.int x4, .int (x2 + ((1 : Int32)))]) rfl (Nat.le_of_ble_eq_true rfl) (ok_X2_reading (cG Γ) (uI h (GR x0 6) (nx x4) r1) x1 x4 (x2 + ((1 : Int32))) hx1) dX4_prepare_87 rfl (Nat.le_of_ble_eq_true rfl)) (fun r3 => ?_)
      refine x_goto hO (tg := 94) dX4_prepare_90 (by decide) ?_
      refine x_iast hO (gr_4_7 hx0) dX4_prepare_94 ?_
      refine x_aload_n hO 0 rfl rfl dX4_prepare_95 ?_
      refine x_aload_n hO 0 rfl rfl dX4_prepare_96 ?_
      refine x_getR hO fl_RX4_33 hx0 dX4_prepare_97 ?_
      refine x_iload hO 3 rfl dX4_prepare_100 ?_
      refine x_iald hO (gr_4_6 hx0) dX4_prepare_102 ?_
      refine x_iconst hO (v := 1) (by decide) dX4_prepare_103 ?_
      refine y_HV (x_callV hO lv_RX4_76 hx0 vc_4 (by decide) (As := [.int (hI (uI (uI h (GR x0 6) (nx x4) r1) (GR x0 7) (nx x4) r3) (GR x0 6) (nx x4)), .int ((1 : Int32))]) rfl (Nat.le_of_ble_eq_true rfl) (ok_X4_tally (cG Γ) (uI (uI h (GR x0 6) (nx x4) r1) (GR x0 7) (nx x4) r3) x0 (hI (uI (uI h (GR x0 6) (nx x4) r1) (GR x0 7) (nx x4) r3) (GR x0 6) (nx x4)) ((1 : Int32)) hx0) dX4_prepare_104 rfl (Nat.le_of_ble_eq_true rfl)) (fun r4 => ?_)
      refine x_iinc hO 3 (v := 1) [(4, .int (x4 + (1 : Int32))), (0, rf Γ x0), (1, rf Γ x1), (2, .int x2)] dX4_prepare_107 rfl (by decide) (by decide) rfl ?_
      refine x_goto hO (tg := 44) dX4_prepare_110 (by decide) ?_
      exact x_leafs [1, 2, 3, 0] rfl (hC r4 (x4 + (1 : Int32)))
set_option maxHeartbeats 4000000 in
set_option maxRecDepth 100000 in
theorem go_X4_prepare_L44 {Γ : Cx} (hO : Ok Γ mX4_prepare) (h : Hp) (x0 : Nat) (x1 : Nat) (x2 : Int32) (x4 : Int32) (hx0 : Is x0 4) (hx1 : Is x1 2) {K : Hp → Prop} (hR : ∀ r, K (r) → emHV r = tgt Γ) : EG Γ mX4_prepare 44 [(0, rf Γ x0), (1, rf Γ x1), (2, .int x2), (4, .int x4)] [] h (L_X4_prepare_44 h x0 x1 x2 x4) K := by
  have q := x_loop (Γ := Γ) (M := mX4_prepare) (pc := 44) (B := fun s : Hp × Int32 => B_X4_prepare_44 s.1 x0 x1 x2 s.2) (lvf := fun s => [(0, rf Γ x0), (1, rf Γ x1), (2, .int x2), (4, .int s.2)]) (hf := fun s => s.1) (Ky := K) (fun s => go_X4_prepare_B44 hO s.1 x0 x1 x2 s.2 hx0 hx1 (fun _ _ => id) hR) (h, x4)
  exact q
noncomputable def F_X4_prepare (h : Hp) (x0 : Nat) (x1 : Nat) (x2 : Int32) (x3 : Nat) : Option (Hp) :=
  if (hI (uI h x0 8 (hI h x1 0)) x0 8) ≤ 0 then gd (cpok ((0 : Int32)) ((0 : Int32)) ((13 : Int32)) (LEN x3) (LEN (GR x0 5))) (bnd (sL (uI (uI h x0 8 (hI h x1 0)) x0 9 ((-1 : Int32))) (GR x0 5) (va_cpy (hL (uI (uI h x0 8 (hI h x1 0)) x0 9 ((-1 : Int32))) x3) (hL (uI (uI h x0 8 (hI h x1 0)) x0 9 ((-1 : Int32))) (GR x0 5)) (nx ((0 : Int32))) (nx ((0 : Int32))) (nx ((13 : Int32))))) (fun h1 => L_X4_prepare_44 h1 x0 x1 x2 ((0 : Int32)))) else gd (ib ((0 : Int32)) (LEN (GR x1 7))) (gd (cpok ((0 : Int32)) ((0 : Int32)) ((13 : Int32)) (LEN x3) (LEN (GR x0 5))) (bnd (sL (uI (uI h x0 8 (hI h x1 0)) x0 9 (hI (uI h x0 8 (hI h x1 0)) (GR x1 7) (nx ((0 : Int32))))) (GR x0 5) (va_cpy (hL (uI (uI h x0 8 (hI h x1 0)) x0 9 (hI (uI h x0 8 (hI h x1 0)) (GR x1 7) (nx ((0 : Int32))))) x3) (hL (uI (uI h x0 8 (hI h x1 0)) x0 9 (hI (uI h x0 8 (hI h x1 0)) (GR x1 7) (nx ((0 : Int32))))) (GR x0 5)) (nx ((0 : Int32))) (nx ((0 : Int32))) (nx ((13 : Int32))))) (fun h2 => L_X4_prepare_44 h2 x0 x1 x2 ((0 : Int32)))))
set_option maxHeartbeats 4000000 in
set_option maxRecDepth 100000 in
theorem go_X4_prepare {Γ : Cx} (hO : Ok Γ mX4_prepare) (h : Hp) (x0 : Nat) (x1 : Nat) (x2 : Int32) (x3 : Nat) (hx0 : Is x0 4) (hx1 : Is x1 2) (hx3 : Is x3 15) {K : Hp → Prop} (hR : ∀ r, K r → emHV r = tgt Γ) : EG Γ mX4_prepare 0 [(0, rf Γ x0), (1, rf Γ x1), (2, .int x2), (3, rf Γ x3)] [] h (F_X4_prepare h x0 x1 x2 x3) K := by
  unfold F_X4_prepare
  refine x_aload_n hO 0 rfl rfl dX4_prepare_0 ?_
  refine x_aload_n hO 1 rfl rfl dX4_prepare_1 ?_
  refine x_getI hO fl_RX4_66 hx1 dX4_prepare_2 ?_
  refine x_putI hO fl_RX4_39 hx0 dX4_prepare_5 ?_
  refine x_aload_n hO 0 rfl rfl dX4_prepare_8 ?_
  refine x_aload_n hO 0 rfl rfl dX4_prepare_9 ?_
  refine x_getI hO fl_RX4_39 hx0 dX4_prepare_10 ?_
  refine x_if_le hO (tg := 25) dX4_prepare_13 (by decide) ?_ ?_
  · refine x_iconst hO (v := -1) (by decide) dX4_prepare_25 ?_
    refine x_putI hO fl_RX4_42 hx0 dX4_prepare_26 ?_
    refine x_aload_n hO 3 rfl rfl dX4_prepare_29 ?_
    refine x_iconst hO (v := 0) (by decide) dX4_prepare_30 ?_
    refine x_aload_n hO 0 rfl rfl dX4_prepare_31 ?_
    refine x_getR hO fl_RX4_29 hx0 dX4_prepare_32 ?_
    refine x_iconst hO (v := 0) (by decide) dX4_prepare_35 ?_
    refine x_bipush hO (v := 13) (by decide) dX4_prepare_36 ?_
    refine x_copyL hO lc_RX4_60 hx3 (gr_4_5 hx0) (Nat.le_of_ble_eq_true rfl) (Nat.le_of_ble_eq_true rfl) dX4_prepare_38 ?_
    refine x_bnd ?_
    generalize sL (uI (uI h x0 8 (hI h x1 0)) x0 9 ((-1 : Int32))) (GR x0 5) (va_cpy (hL (uI (uI h x0 8 (hI h x1 0)) x0 9 ((-1 : Int32))) x3) (hL (uI (uI h x0 8 (hI h x1 0)) x0 9 ((-1 : Int32))) (GR x0 5)) (nx ((0 : Int32))) (nx ((0 : Int32))) (nx ((13 : Int32)))) = h1
    refine x_iconst hO (v := 0) (by decide) dX4_prepare_41 ?_
    refine x_istore hO [(4, .int ((0 : Int32))), (0, rf Γ x0), (1, rf Γ x1), (2, .int x2), (3, rf Γ x3)] dX4_prepare_42 (by decide) rfl ?_
    exact x_sub [1, 2, 3, 0] rfl (go_X4_prepare_L44 hO h1 x0 x1 x2 ((0 : Int32)) hx0 hx1 hR)
  · refine x_aload_n hO 1 rfl rfl dX4_prepare_16 ?_
    refine x_getR hO fl_RX4_69 hx1 dX4_prepare_17 ?_
    refine x_iconst hO (v := 0) (by decide) dX4_prepare_20 ?_
    refine x_iald hO (gr_2_7 hx1) dX4_prepare_21 ?_
    refine x_goto hO (tg := 26) dX4_prepare_22 (by decide) ?_
    refine x_putI hO fl_RX4_42 hx0 dX4_prepare_26 ?_
    refine x_aload_n hO 3 rfl rfl dX4_prepare_29 ?_
    refine x_iconst hO (v := 0) (by decide) dX4_prepare_30 ?_
    refine x_aload_n hO 0 rfl rfl dX4_prepare_31 ?_
    refine x_getR hO fl_RX4_29 hx0 dX4_prepare_32 ?_
    refine x_iconst hO (v := 0) (by decide) dX4_prepare_35 ?_
    refine x_bipush hO (v := 13) (by decide) dX4_prepare_36 ?_
    refine x_copyL hO lc_RX4_60 hx3 (gr_4_5 hx0) (Nat.le_of_ble_eq_true rfl) (Nat.le_of_ble_eq_true rfl) dX4_prepare_38 ?_
    refine x_bnd ?_
    generalize sL (uI (uI h x0 8 (hI h x1 0)) x0 9 (hI (uI h x0 8 (hI h x1 0)) (GR x1 7) (nx ((0 : Int32))))) (GR x0 5) (va_cpy (hL (uI (uI h x0 8 (hI h x1 0)) x0 9 (hI (uI h x0 8 (hI h x1 0)) (GR x1 7) (nx ((0 : Int32))))) x3) (hL (uI (uI h x0 8 (hI h x1 0)) x0 9 (hI (uI h x0 8 (hI h x1 0)) (GR x1 7) (nx ((0 : Int32))))) (GR x0 5)) (nx ((0 : Int32))) (nx ((0 : Int32))) (nx ((13 : Int32)))) = h2
    refine x_iconst hO (v := 0) (by decide) dX4_prepare_41 ?_
    refine x_istore hO [(4, .int ((0 : Int32))), (0, rf Γ x0), (1, rf Γ x1), (2, .int x2), (3, rf Γ x3)] dX4_prepare_42 (by decide) rfl ?_
    exact x_sub [1, 2, 3, 0] rfl (go_X4_prepare_L44 hO h2 x0 x1 x2 ((0 : Int32)) hx0 hx1 hR)
theorem ok_X4_prepare (G : Gl) (h : Hp) (x0 : Nat) (x1 : Nat) (x2 : Int32) (x3 : Nat) (hx0 : Is x0 4) (hx1 : Is x1 2) (hx3 : Is x3 15) : CN G mX4_prepare [.ref (gb G + x0), .ref (gb G + x1), .int x2, .ref (gb G + x3)] h ((F_X4_prepare h x0 x1 x2 x3).map (emHV)) := CN.fn pn_RX4 (Nat.le_of_ble_eq_true rfl) (fun Γ hG hO => by subst hG; exact go_X4_prepare hO h x0 x1 x2 x3 hx0 hx1 hx3 (fun _ q => q))
noncomputable def B_X5_countWays_52 (h : Hp) (x0 : Nat) (x1 : Int32) : Option ((Hp × Int32) ⊕ (Hp)) :=
  if (hI h x0 1) < x1 then some (.inr h) else (F_X5_addCard h x0 x1).bind (fun r1 => some (.inl (r1, x1 + (1 : Int32))))
noncomputable def L_X5_countWays_52 (h : Hp) (x0 : Nat) (x1 : Int32) : Option (Hp) := iterW (fun s : Hp × Int32 => B_X5_countWays_52 s.1 x0 s.2) (h, x1)
set_option maxHeartbeats 4000000 in
set_option maxRecDepth 100000 in
theorem go_X5_countWays_B52 {Γ : Cx} (hO : Ok Γ mX5_countWays) (h : Hp) (x0 : Nat) (x1 : Int32) (hx0 : Is x0 5) {K : (Hp × Int32) ⊕ (Hp) → Prop} (hC : ∀ (h : Hp) (x1 : Int32), K (.inl (h, x1)) → EW Γ mX5_countWays 52 [(0, rf Γ x0), (1, .int x1)] [] h) (hE71 : ∀ (h : Hp), K (.inr h) → EW Γ mX5_countWays 71 [(0, rf Γ x0)] [] h) : EG Γ mX5_countWays 52 [(0, rf Γ x0), (1, .int x1)] [] h (B_X5_countWays_52 h x0 x1) K := by
  unfold B_X5_countWays_52
  refine x_iload_n hO 1 rfl rfl dX5_countWays_52 ?_
  refine x_aload_n hO 0 rfl rfl dX5_countWays_53 ?_
  refine x_getI hO fl_RX5_15 hx0 dX5_countWays_54 ?_
  refine x_icmp_gt hO (tg := 71) dX5_countWays_57 (by decide) ?_ ?_
  · exact x_leafs [0] rfl (hE71 h)
  · refine x_aload_n hO 0 rfl rfl dX5_countWays_60 ?_
    refine x_iload_n hO 1 rfl rfl dX5_countWays_61 ?_
    refine y_HV (x_callV hO lv_RX5_61 hx0 vc_5 (by decide) (As := [.int x1]) rfl (Nat.le_of_ble_eq_true rfl) (ok_X5_addCard (cG Γ) h x0 x1 hx0) dX5_countWays_62 rfl (Nat.le_of_ble_eq_true rfl)) (fun r1 => ?_)
    refine x_iinc hO 1 (v := 1) [(1, .int (x1 + (1 : Int32))), (0, rf Γ x0)] dX5_countWays_65 rfl (by decide) (by decide) rfl ?_
    refine x_goto hO (tg := 52) dX5_countWays_68 (by decide) ?_
    exact x_leafs [1, 0] rfl (hC r1 (x1 + (1 : Int32)))
set_option maxHeartbeats 4000000 in
set_option maxRecDepth 100000 in
theorem go_X5_countWays_L52 {Γ : Cx} (hO : Ok Γ mX5_countWays) (h : Hp) (x0 : Nat) (x1 : Int32) (hx0 : Is x0 5) {K : Hp → Prop} (hE71 : ∀ (h : Hp), K (h) → EW Γ mX5_countWays 71 [(0, rf Γ x0)] [] h) : EG Γ mX5_countWays 52 [(0, rf Γ x0), (1, .int x1)] [] h (L_X5_countWays_52 h x0 x1) K := by
  have q := x_loop (Γ := Γ) (M := mX5_countWays) (pc := 52) (B := fun s : Hp × Int32 => B_X5_countWays_52 s.1 x0 s.2) (lvf := fun s => [(0, rf Γ x0), (1, .int s.2)]) (hf := fun s => s.1) (Ky := K) (fun s => go_X5_countWays_B52 hO s.1 x0 s.2 hx0 (fun _ _ => id) hE71) (h, x1)
  exact q
noncomputable def B_X5_countWays_75 (h : Hp) (x0 : Nat) (x1 : Int32) (x2 : Int32) : Option ((Int32 × Int32) ⊕ (Hp × Int32)) :=
  if (hI h x0 1) ≤ x2 then some (.inr ((h, x1))) else gd (ib x2 (LEN (GR x0 6))) (gd (ib x2 (LEN (GR x0 7))) (bnd (x1 + ((hI h (GR x0 6) (nx x2)) + (hI h (GR x0 7) (nx x2)))) (fun v1 => some (.inl (v1, x2 + (1 : Int32))))))
noncomputable def L_X5_countWays_75 (h : Hp) (x0 : Nat) (x1 : Int32) (x2 : Int32) : Option (Hp × Int32) := iterW (fun s : Int32 × Int32 => B_X5_countWays_75 h x0 s.1 s.2) (x1, x2)
set_option maxHeartbeats 4000000 in
set_option maxRecDepth 100000 in
theorem go_X5_countWays_B75 {Γ : Cx} (hO : Ok Γ mX5_countWays) (h : Hp) (x0 : Nat) (x1 : Int32) (x2 : Int32) (hx0 : Is x0 5) {K : (Int32 × Int32) ⊕ (Hp × Int32) → Prop} (hC : ∀ (x1 : Int32) (x2 : Int32), K (.inl (x1, x2)) → EW Γ mX5_countWays 75 [(0, rf Γ x0), (1, .int x1), (2, .int x2)] [] h) (hR : ∀ r, K (.inr r) → emHI r = tgt Γ) : EG Γ mX5_countWays 75 [(0, rf Γ x0), (1, .int x1), (2, .int x2)] [] h (B_X5_countWays_75 h x0 x1 x2) K := by
  unfold B_X5_countWays_75
  refine x_iload_n hO 2 rfl rfl dX5_countWays_75 ?_
  refine x_aload_n hO 0 rfl rfl dX5_countWays_76 ?_
  refine x_getI hO fl_RX5_15 hx0 dX5_countWays_77 ?_
  refine x_icmp_ge hO (tg := 105) dX5_countWays_80 (by decide) ?_ ?_
  · refine x_iload_n hO 1 rfl rfl dX5_countWays_105 ?_
    exact x_iret hO rfl dX5_countWays_106 (hR _)
  · refine x_iload_n hO 1 rfl rfl dX5_countWays_83 ?_
    refine x_aload_n hO 0 rfl rfl dX5_countWays_84 ?_
    refine x_getR hO fl_RX5_32 hx0 dX5_countWays_85 ?_
    refine x_iload_n hO 2 rfl rfl dX5_countWays_88 ?_
    refine x_iald hO (gr_5_6 hx0) dX5_countWays_89 ?_
    refine x_aload_n hO 0 rfl rfl dX5_countWays_90 ?_
    refine x_getR hO fl_RX5_35 hx0 dX5_countWays_91 ?_
    refine x_iload_n hO 2 rfl rfl dX5_countWays_94 ?_
    refine x_iald hO (gr_5_7 hx0) dX5_countWays_95 ?_
    refine x_iadd hO dX5_countWays_96 ?_
    refine x_iadd hO dX5_countWays_97 ?_
    refine x_bnd ?_
    generalize x1 + ((hI h (GR x0 6) (nx x2)) + (hI h (GR x0 7) (nx x2))) = v1
    refine x_istore_n hO rfl [(1, .int v1), (0, rf Γ x0), (2, .int x2)] dX5_countWays_98 (by decide) rfl ?_
    refine x_iinc hO 2 (v := 1) [(2, .int (x2 + (1 : Int32))), (1, .int v1), (0, rf Γ x0)] dX5_countWays_99 rfl (by decide) (by decide) rfl ?_
    refine x_goto hO (tg := 75) dX5_countWays_102 (by decide) ?_
    exact x_leafs [2, 1, 0] rfl (hC v1 (x2 + (1 : Int32)))
set_option maxHeartbeats 4000000 in
set_option maxRecDepth 100000 in
theorem go_X5_countWays_L75 {Γ : Cx} (hO : Ok Γ mX5_countWays) (h : Hp) (x0 : Nat) (x1 : Int32) (x2 : Int32) (hx0 : Is x0 5) {K : Hp × Int32 → Prop} (hR : ∀ r, K (r) → emHI r = tgt Γ) : EG Γ mX5_countWays 75 [(0, rf Γ x0), (1, .int x1), (2, .int x2)] [] h (L_X5_countWays_75 h x0 x1 x2) K := by
  have q := x_loop (Γ := Γ) (M := mX5_countWays) (pc := 75) (B := fun s : Int32 × Int32 => B_X5_countWays_75 h x0 s.1 s.2) (lvf := fun s => [(0, rf Γ x0), (1, .int s.1), (2, .int s.2)]) (hf := fun s => h) (Ky := K) (fun s => go_X5_countWays_B75 hO h x0 s.1 s.2 hx0 (fun _ _ => id) hR) (x1, x2)
  exact q
noncomputable def J_X5_countWays_29 (h : Hp) (x0 : Nat) (s0 : Nat) (s1 : Int32) (s2 : Int32) : Option (Hp × Int32) :=
  gd (ib s1 (LEN s0)) (gd (ib ((1 : Int32)) (LEN (GR x0 5))) (if (hI (uI h s0 (nx s1) s2) (GR x0 5) (nx ((1 : Int32)))) = 0 then gd (ib ((0 : Int32)) (LEN (GR x0 7))) ((L_X5_countWays_52 (uI (uI h s0 (nx s1) s2) (GR x0 7) (nx ((0 : Int32))) ((0 : Int32))) x0 ((2 : Int32))).bind (fun e2 => L_X5_countWays_75 e2 x0 ((0 : Int32)) ((0 : Int32)))) else gd (ib ((0 : Int32)) (LEN (GR x0 7))) ((L_X5_countWays_52 (uI (uI h s0 (nx s1) s2) (GR x0 7) (nx ((0 : Int32))) ((1 : Int32))) x0 ((2 : Int32))).bind (fun e1 => L_X5_countWays_75 e1 x0 ((0 : Int32)) ((0 : Int32))))))
set_option maxHeartbeats 4000000 in
set_option maxRecDepth 100000 in
theorem go_X5_countWays_J29 {Γ : Cx} (hO : Ok Γ mX5_countWays) (h : Hp) (x0 : Nat) (s0 : Nat) (s1 : Int32) (s2 : Int32) (hx0 : Is x0 5) (hs0 : Is s0 14) {K : Hp × Int32 → Prop} (hR : ∀ r, K r → emHI r = tgt Γ) : EG Γ mX5_countWays 29 [(0, rf Γ x0)] [.int s2, .int s1, rf Γ s0] h (J_X5_countWays_29 h x0 s0 s1 s2) K := by
  unfold J_X5_countWays_29
  refine x_iast hO hs0 dX5_countWays_29 ?_
  refine x_aload_n hO 0 rfl rfl dX5_countWays_30 ?_
  refine x_getR hO fl_RX5_35 hx0 dX5_countWays_31 ?_
  refine x_iconst hO (v := 0) (by decide) dX5_countWays_34 ?_
  refine x_aload_n hO 0 rfl rfl dX5_countWays_35 ?_
  refine x_getR hO fl_RX5_29 hx0 dX5_countWays_36 ?_
  refine x_iconst hO (v := 1) (by decide) dX5_countWays_39 ?_
  refine x_iald hO (gr_5_5 hx0) dX5_countWays_40 ?_
  refine x_if_ne hO (tg := 48) dX5_countWays_41 (by decide) ?_ ?_
  · refine x_iconst hO (v := 1) (by decide) dX5_countWays_48 ?_
    refine x_iast hO (gr_5_7 hx0) dX5_countWays_49 ?_
    refine x_iconst hO (v := 2) (by decide) dX5_countWays_50 ?_
    refine x_istore_n hO rfl [(1, .int ((2 : Int32))), (0, rf Γ x0)] dX5_countWays_51 (by decide) rfl ?_
    refine x_bind (x_sub [1, 0] rfl (go_X5_countWays_L52 hO (uI (uI h s0 (nx s1) s2) (GR x0 7) (nx ((0 : Int32))) ((1 : Int32))) x0 ((2 : Int32)) hx0 (fun y1_0 hx => ?_)))
    refine x_run (t := (L_X5_countWays_75 y1_0 x0 ((0 : Int32)) ((0 : Int32)) : Option (Hp × Int32))) hx ?_
    refine x_iconst hO (v := 0) (by decide) dX5_countWays_71 ?_
    refine x_istore_n hO rfl [(1, .int ((0 : Int32))), (0, rf Γ x0)] dX5_countWays_72 (by decide) rfl ?_
    refine x_iconst hO (v := 0) (by decide) dX5_countWays_73 ?_
    refine x_istore_n hO rfl [(2, .int ((0 : Int32))), (1, .int ((0 : Int32))), (0, rf Γ x0)] dX5_countWays_74 (by decide) rfl ?_
    exact x_sub [2, 1, 0] rfl (go_X5_countWays_L75 hO y1_0 x0 ((0 : Int32)) ((0 : Int32)) hx0 hR)
  · refine x_iconst hO (v := 0) (by decide) dX5_countWays_44 ?_
    refine x_goto hO (tg := 49) dX5_countWays_45 (by decide) ?_
    refine x_iast hO (gr_5_7 hx0) dX5_countWays_49 ?_
    refine x_iconst hO (v := 2) (by decide) dX5_countWays_50 ?_
    refine x_istore_n hO rfl [(1, .int ((2 : Int32))), (0, rf Γ x0)] dX5_countWays_51 (by decide) rfl ?_
    refine x_bind (x_sub [1, 0] rfl (go_X5_countWays_L52 hO (uI (uI h s0 (nx s1) s2) (GR x0 7) (nx ((0 : Int32))) ((0 : Int32))) x0 ((2 : Int32)) hx0 (fun y2_0 hx => ?_)))
    refine x_run (t := (L_X5_countWays_75 y2_0 x0 ((0 : Int32)) ((0 : Int32)) : Option (Hp × Int32))) hx ?_
    refine x_iconst hO (v := 0) (by decide) dX5_countWays_71 ?_
    refine x_istore_n hO rfl [(1, .int ((0 : Int32))), (0, rf Γ x0)] dX5_countWays_72 (by decide) rfl ?_
    refine x_iconst hO (v := 0) (by decide) dX5_countWays_73 ?_
    refine x_istore_n hO rfl [(2, .int ((0 : Int32))), (1, .int ((0 : Int32))), (0, rf Γ x0)] dX5_countWays_74 (by decide) rfl ?_
    exact x_sub [2, 1, 0] rfl (go_X5_countWays_L75 hO y2_0 x0 ((0 : Int32)) ((0 : Int32)) hx0 hR)
noncomputable def F_X5_countWays (h : Hp) (x0 : Nat) : Option (Hp × Int32) :=
  if (hI h x0 1) = 0 then some ((h, (1 : Int32))) else gd (ib ((1 : Int32)) (LEN (GR x0 5))) (if (hI h (GR x0 5) (nx ((1 : Int32)))) = ((1 : Int32)) then J_X5_countWays_29 h x0 (GR x0 6) ((0 : Int32)) ((0 : Int32)) else J_X5_countWays_29 h x0 (GR x0 6) ((0 : Int32)) ((1 : Int32)))
set_option maxHeartbeats 4000000 in
set_option maxRecDepth 100000 in
theorem go_X5_countWays {Γ : Cx} (hO : Ok Γ mX5_countWays) (h : Hp) (x0 : Nat) (hx0 : Is x0 5) {K : Hp × Int32 → Prop} (hR : ∀ r, K r → emHI r = tgt Γ) : EG Γ mX5_countWays 0 [(0, rf Γ x0)] [] h (F_X5_countWays h x0) K := by
  unfold F_X5_countWays
  refine x_aload_n hO 0 rfl rfl dX5_countWays_0 ?_
  refine x_getI hO fl_RX5_15 hx0 dX5_countWays_1 ?_
  refine x_if_ne hO (tg := 9) dX5_countWays_4 (by decide) ?_ ?_
  · refine x_aload_n hO 0 rfl rfl dX5_countWays_9 ?_
    refine x_getR hO fl_RX5_32 hx0 dX5_countWays_10 ?_
    refine x_iconst hO (v := 0) (by decide) dX5_countWays_13 ?_
    refine x_aload_n hO 0 rfl rfl dX5_countWays_14 ?_
    refine x_getR hO fl_RX5_29 hx0 dX5_countWays_15 ?_
    refine x_iconst hO (v := 1) (by decide) dX5_countWays_18 ?_
    refine x_iald hO (gr_5_5 hx0) dX5_countWays_19 ?_
    refine x_iconst hO (v := 1) (by decide) dX5_countWays_20 ?_
    refine x_icmp_ne hO (tg := 28) dX5_countWays_21 (by decide) ?_ ?_
    · refine x_iconst hO (v := 1) (by decide) dX5_countWays_28 ?_
      exact x_sub [0] rfl (go_X5_countWays_J29 hO h x0 (GR x0 6) ((0 : Int32)) ((1 : Int32)) hx0 (gr_5_6 hx0) hR)
    · refine x_iconst hO (v := 0) (by decide) dX5_countWays_24 ?_
      refine x_goto hO (tg := 29) dX5_countWays_25 (by decide) ?_
      exact x_sub [0] rfl (go_X5_countWays_J29 hO h x0 (GR x0 6) ((0 : Int32)) ((0 : Int32)) hx0 (gr_5_6 hx0) hR)
  · refine x_iconst hO (v := 1) (by decide) dX5_countWays_7 ?_
    exact x_iret hO rfl dX5_countWays_8 (hR _)
theorem ok_X5_countWays (G : Gl) (h : Hp) (x0 : Nat) (hx0 : Is x0 5) : CN G mX5_countWays [.ref (gb G + x0)] h ((F_X5_countWays h x0).map (emHI)) := CN.fn pn_RX5 (Nat.le_of_ble_eq_true rfl) (fun Γ hG hO => by subst hG; exact go_X5_countWays hO h x0 hx0 (fun _ q => q))
noncomputable def B_X6_gatherColumns_7 (h : Hp) (x0 : Nat) (x1 : Int32) : Option ((Hp × Int32) ⊕ (Hp)) :=
  if ((8 : Int32)) ≤ x1 then some (.inr h) else (F_X6_inKey h x0 x1).bind (fun r1 => if r1 = 0 then some (.inl (h, x1 + (1 : Int32))) else if ((4 : Int32)) ≤ (hI h x0 4) then some (.inl (h, x1 + (1 : Int32))) else gd (ib (hI h x0 4) (LEN (GR x0 3))) (some (.inl (uI (uI h (GR x0 3) (nx (hI h x0 4)) x1) x0 4 ((hI (uI h (GR x0 3) (nx (hI h x0 4)) x1) x0 4) + ((1 : Int32))), x1 + (1 : Int32)))))
noncomputable def L_X6_gatherColumns_7 (h : Hp) (x0 : Nat) (x1 : Int32) : Option (Hp) := iterW (fun s : Hp × Int32 => B_X6_gatherColumns_7 s.1 x0 s.2) (h, x1)
set_option maxHeartbeats 4000000 in
set_option maxRecDepth 100000 in
theorem go_X6_gatherColumns_B7 {Γ : Cx} (hO : Ok Γ mX6_gatherColumns) (h : Hp) (x0 : Nat) (x1 : Int32) (hx0 : Is x0 6) {K : (Hp × Int32) ⊕ (Hp) → Prop} (hC : ∀ (h : Hp) (x1 : Int32), K (.inl (h, x1)) → EW Γ mX6_gatherColumns 7 [(0, rf Γ x0), (1, .int x1)] [] h) (hR : ∀ r, K (.inr r) → emHV r = tgt Γ) : EG Γ mX6_gatherColumns 7 [(0, rf Γ x0), (1, .int x1)] [] h (B_X6_gatherColumns_7 h x0 x1) K := by
  unfold B_X6_gatherColumns_7
  refine x_iload_n hO 1 rfl rfl dX6_gatherColumns_7 ?_
  refine x_bipush hO (v := 8) (by decide) dX6_gatherColumns_8 ?_
  refine x_icmp_ge hO (tg := 55) dX6_gatherColumns_10 (by decide) ?_ ?_
  · exact x_vret hO rfl dX6_gatherColumns_55 (hR _)
  · refine x_aload_n hO 0 rfl rfl dX6_gatherColumns_13 ?_
    refine x_iload_n hO 1 rfl rfl dX6_gatherColumns_14 ?_
    refine y_PI (x_callV hO lv_RX6_72 hx0 vc_6 (by decide) (As := [.int x1]) rfl (Nat.le_of_ble_eq_true rfl) (ok_X6_inKey (cG Γ) h x0 x1 hx0) dX6_gatherColumns_15 rfl (Nat.le_of_ble_eq_true rfl)) (fun r1 => ?_)
    refine x_if_eq hO (tg := 49) dX6_gatherColumns_18 (by decide) ?_ ?_
    · refine x_iinc hO 1 (v := 1) [(1, .int (x1 + (1 : Int32))), (0, rf Γ x0)] dX6_gatherColumns_49 rfl (by decide) (by decide) rfl ?_
      refine x_goto hO (tg := 7) dX6_gatherColumns_52 (by decide) ?_
      exact x_leafs [1, 0] rfl (hC h (x1 + (1 : Int32)))
    · refine x_aload_n hO 0 rfl rfl dX6_gatherColumns_21 ?_
      refine x_getI hO fl_RX6_25 hx0 dX6_gatherColumns_22 ?_
      refine x_iconst hO (v := 4) (by decide) dX6_gatherColumns_25 ?_
      refine x_icmp_ge hO (tg := 49) dX6_gatherColumns_26 (by decide) ?_ ?_
      · refine x_iinc hO 1 (v := 1) [(1, .int (x1 + (1 : Int32))), (0, rf Γ x0)] dX6_gatherColumns_49 rfl (by decide) (by decide) rfl ?_
        refine x_goto hO (tg := 7) dX6_gatherColumns_52 (by decide) ?_
        exact x_leafs [1, 0] rfl (hC h (x1 + (1 : Int32)))
      · refine x_aload_n hO 0 rfl rfl dX6_gatherColumns_29 ?_
        refine x_getR hO fl_RX6_22 hx0 dX6_gatherColumns_30 ?_
        refine x_aload_n hO 0 rfl rfl dX6_gatherColumns_33 ?_
        refine x_getI hO fl_RX6_25 hx0 dX6_gatherColumns_34 ?_
        refine x_iload_n hO 1 rfl rfl dX6_gatherColumns_37 ?_
        refine x_iast hO (gr_6_3 hx0) dX6_gatherColumns_38 ?_
        refine x_aload_n hO 0 rfl rfl dX6_gatherColumns_39 ?_
        refine x_dup_r hO dX6_gatherColumns_40 ?_
        refine x_getI hO fl_RX6_25 hx0 dX6_gatherColumns_41 ?_
        refine x_iconst hO (v := 1) (by decide) dX6_gatherColumns_44 ?_
        refine x_iadd hO dX6_gatherColumns_45 ?_
        refine x_putI hO fl_RX6_25 hx0 dX6_gatherColumns_46 ?_
        refine x_iinc hO 1 (v := 1) [(1, .int (x1 + (1 : Int32))), (0, rf Γ x0)] dX6_gatherColumns_49 rfl (by decide) (by decide) rfl ?_
        refine x_goto hO (tg := 7) dX6_gatherColumns_52 (by decide) ?_
        exact x_leafs [1, 0] rfl (hC (uI (uI h (GR x0 3) (nx (hI h x0 4)) x1) x0 4 ((hI (uI h (GR x0 3) (nx (hI h x0 4)) x1) x0 4) + ((1 : Int32)))) (x1 + (1 : Int32)))
set_option maxHeartbeats 4000000 in
set_option maxRecDepth 100000 in
theorem go_X6_gatherColumns_L7 {Γ : Cx} (hO : Ok Γ mX6_gatherColumns) (h : Hp) (x0 : Nat) (x1 : Int32) (hx0 : Is x0 6) {K : Hp → Prop} (hR : ∀ r, K (r) → emHV r = tgt Γ) : EG Γ mX6_gatherColumns 7 [(0, rf Γ x0), (1, .int x1)] [] h (L_X6_gatherColumns_7 h x0 x1) K := by
  have q := x_loop (Γ := Γ) (M := mX6_gatherColumns) (pc := 7) (B := fun s : Hp × Int32 => B_X6_gatherColumns_7 s.1 x0 s.2) (lvf := fun s => [(0, rf Γ x0), (1, .int s.2)]) (hf := fun s => s.1) (Ky := K) (fun s => go_X6_gatherColumns_B7 hO s.1 x0 s.2 hx0 (fun _ _ => id) hR) (h, x1)
  exact q
noncomputable def F_X6_gatherColumns (h : Hp) (x0 : Nat) : Option (Hp) :=
  L_X6_gatherColumns_7 (uI h x0 4 ((0 : Int32))) x0 ((0 : Int32))
set_option maxHeartbeats 4000000 in
set_option maxRecDepth 100000 in
theorem go_X6_gatherColumns {Γ : Cx} (hO : Ok Γ mX6_gatherColumns) (h : Hp) (x0 : Nat) (hx0 : Is x0 6) {K : Hp → Prop} (hR : ∀ r, K r → emHV r = tgt Γ) : EG Γ mX6_gatherColumns 0 [(0, rf Γ x0)] [] h (F_X6_gatherColumns h x0) K := by
  unfold F_X6_gatherColumns
  refine x_aload_n hO 0 rfl rfl dX6_gatherColumns_0 ?_
  refine x_iconst hO (v := 0) (by decide) dX6_gatherColumns_1 ?_
  refine x_putI hO fl_RX6_25 hx0 dX6_gatherColumns_2 ?_
  refine x_iconst hO (v := 0) (by decide) dX6_gatherColumns_5 ?_
  refine x_istore_n hO rfl [(1, .int ((0 : Int32))), (0, rf Γ x0)] dX6_gatherColumns_6 (by decide) rfl ?_
  exact x_sub [1, 0] rfl (go_X6_gatherColumns_L7 hO (uI h x0 4 ((0 : Int32))) x0 ((0 : Int32)) hx0 hR)
theorem ok_X6_gatherColumns (G : Gl) (h : Hp) (x0 : Nat) (hx0 : Is x0 6) : CN G mX6_gatherColumns [.ref (gb G + x0)] h ((F_X6_gatherColumns h x0).map (emHV)) := CN.fn pn_RX6 (Nat.le_of_ble_eq_true rfl) (fun Γ hG hO => by subst hG; exact go_X6_gatherColumns hO h x0 hx0 (fun _ q => q))
noncomputable def F_X6_taken (h : Hp) (x0 : Nat) (x1 : Int32) (x2 : Int32) : Option (Int32) :=
  (F_X2_reading h x0 x1 (x2 - x2 / ((8 : Int32)) * ((8 : Int32)))).bind (fun r1 => if (x2 / ((8 : Int32))) = 0 then some r1 else if r1 < ((10 : Int32)) then if (x2 / ((8 : Int32))) = ((1 : Int32)) then some (r1 / ((5 : Int32))) else some (r1 - r1 / ((2 : Int32)) * ((2 : Int32))) else some ((2 : Int32)))
set_option maxHeartbeats 4000000 in
set_option maxRecDepth 100000 in
theorem go_X6_taken {Γ : Cx} (hO : Ok Γ mX6_taken) (h : Hp) (x0 : Nat) (x1 : Int32) (x2 : Int32) (hx0 : Is x0 2) {K : Int32 → Prop} (hR : ∀ r, K r → emPI h r = tgt Γ) : EG Γ mX6_taken 0 [(0, rf Γ x0), (1, .int x1), (2, .int x2)] [] h (F_X6_taken h x0 x1 x2) K := by
  unfold F_X6_taken
  refine x_aload_n hO 0 rfl rfl dX6_taken_0 ?_
  refine x_iload_n hO 1 rfl rfl dX6_taken_1 ?_
  refine x_iload_n hO 2 rfl rfl dX6_taken_2 ?_
  refine x_bipush hO (v := 8) (by decide) dX6_taken_3 ?_
  refine x_iremc hO (by decide) dX6_taken_5 ?_
  refine y_PI (x_callV hO lv_RX6_62 hx0 vc_2 (by decide) (As := [.int x1, .int (x2 - x2 / ((8 : Int32)) * ((8 : Int32)))]) rfl (Nat.le_of_ble_eq_true rfl) (ok_X2_reading (cG Γ) h x0 x1 (x2 - x2 / ((8 : Int32)) * ((8 : Int32))) hx0) dX6_taken_6 rfl (Nat.le_of_ble_eq_true rfl)) (fun r1 => ?_)
  refine x_istore_n hO rfl [(3, .int r1), (0, rf Γ x0), (1, .int x1), (2, .int x2)] dX6_taken_9 (by decide) rfl ?_
  refine x_iload_n hO 3 rfl rfl dX6_taken_10 ?_
  refine x_bipush hO (v := 8) (by decide) dX6_taken_11 ?_
  refine x_idivc hO (by decide) dX6_taken_13 ?_
  refine x_istore hO [(4, .int (x2 / ((8 : Int32)))), (3, .int r1), (0, rf Γ x0), (1, .int x1), (2, .int x2)] dX6_taken_14 (by decide) rfl ?_
  refine x_iload hO 0 rfl dX6_taken_16 ?_
  refine x_if_ne hO (tg := 23) dX6_taken_18 (by decide) ?_ ?_
  · refine x_iload_n hO 1 rfl rfl dX6_taken_23 ?_
    refine x_bipush hO (v := 10) (by decide) dX6_taken_24 ?_
    refine x_icmp_lt hO (tg := 31) dX6_taken_26 (by decide) ?_ ?_
    · refine x_iload hO 0 rfl dX6_taken_31 ?_
      refine x_iconst hO (v := 1) (by decide) dX6_taken_33 ?_
      refine x_icmp_ne hO (tg := 43) dX6_taken_34 (by decide) ?_ ?_
      · refine x_iload_n hO 1 rfl rfl dX6_taken_43 ?_
        refine x_iconst hO (v := 2) (by decide) dX6_taken_44 ?_
        refine x_iremc hO (by decide) dX6_taken_45 ?_
        exact x_iret hO rfl dX6_taken_46 (hR _)
      · refine x_iload_n hO 1 rfl rfl dX6_taken_37 ?_
        refine x_iconst hO (v := 5) (by decide) dX6_taken_38 ?_
        refine x_idivc hO (by decide) dX6_taken_39 ?_
        refine x_goto hO (tg := 46) dX6_taken_40 (by decide) ?_
        exact x_iret hO rfl dX6_taken_46 (hR _)
    · refine x_iconst hO (v := 2) (by decide) dX6_taken_29 ?_
      exact x_iret hO rfl dX6_taken_30 (hR _)
  · refine x_iload_n hO 1 rfl rfl dX6_taken_21 ?_
    exact x_iret hO rfl dX6_taken_22 (hR _)
theorem ok_X6_taken (G : Gl) (h : Hp) (x0 : Nat) (x1 : Int32) (x2 : Int32) (hx0 : Is x0 2) : CN G mX6_taken [.ref (gb G + x0), .int x1, .int x2] h ((F_X6_taken h x0 x1 x2).map (emPI h)) := CN.fn pn_RX6 (Nat.le_of_ble_eq_true rfl) (fun Γ hG hO => by subst hG; exact go_X6_taken hO h x0 x1 x2 hx0 (fun _ q => q))
noncomputable def B_X7_advance_8 (h : Hp) (x0 : Nat) : Option ((Hp) ⊕ (Hp)) :=
  if (hI h x0 1) ≤ (hI h x0 2) then some (.inr h) else gd (ib (hI h x0 2) (LEN (hT h x0))) (if (hI h (hT h x0) (nx (hI h x0 2))) = ((32 : Int32)) then some (.inl (uI h x0 2 ((hI h x0 2) + ((1 : Int32))))) else gd (ib (hI h x0 2) (LEN (hT h x0))) (if (hI h (hT h x0) (nx (hI h x0 2))) = ((10 : Int32)) then some (.inl (uI h x0 2 ((hI h x0 2) + ((1 : Int32))))) else some (.inr h)))
noncomputable def L_X7_advance_8 (h : Hp) (x0 : Nat) : Option (Hp) := iterW (fun s : Hp => B_X7_advance_8 s x0) h
set_option maxHeartbeats 4000000 in
set_option maxRecDepth 100000 in
theorem go_X7_advance_B8 {Γ : Cx} (hO : Ok Γ mX7_advance) (h : Hp) (x0 : Nat) (hx0 : Is x0 7) {K : (Hp) ⊕ (Hp) → Prop} (hC : ∀ (h : Hp), K (.inl h) → EW Γ mX7_advance 8 [(0, rf Γ x0)] [] h) (hE60 : ∀ (h : Hp), K (.inr h) → EW Γ mX7_advance 60 [(0, rf Γ x0)] [] h) : EG Γ mX7_advance 8 [(0, rf Γ x0)] [] h (B_X7_advance_8 h x0) K := by
  unfold B_X7_advance_8
  refine x_aload_n hO 0 rfl rfl dX7_advance_8 ?_
  refine x_getI hO fl_RX7_19 hx0 dX7_advance_9 ?_
  refine x_aload_n hO 0 rfl rfl dX7_advance_12 ?_
  refine x_getI hO fl_RX7_15 hx0 dX7_advance_13 ?_
  refine x_icmp_ge hO (tg := 60) dX7_advance_16 (by decide) ?_ ?_
  · exact x_leafs [0] rfl (hE60 h)
  · refine x_aload_n hO 0 rfl rfl dX7_advance_19 ?_
    refine x_getT hO fl_RX7_9 rfl hx0 dX7_advance_20 (fun q1 => ?_)
    refine x_aload_n hO 0 rfl rfl dX7_advance_23 ?_
    refine x_getI hO fl_RX7_19 hx0 dX7_advance_24 ?_
    refine x_iald hO q1 dX7_advance_27 ?_
    refine x_bipush hO (v := 32) (by decide) dX7_advance_28 ?_
    refine x_icmp_eq hO (tg := 47) dX7_advance_30 (by decide) ?_ ?_
    · refine x_aload_n hO 0 rfl rfl dX7_advance_47 ?_
      refine x_dup_r hO dX7_advance_48 ?_
      refine x_getI hO fl_RX7_19 hx0 dX7_advance_49 ?_
      refine x_iconst hO (v := 1) (by decide) dX7_advance_52 ?_
      refine x_iadd hO dX7_advance_53 ?_
      refine x_putI hO fl_RX7_19 hx0 dX7_advance_54 ?_
      refine x_goto hO (tg := 8) dX7_advance_57 (by decide) ?_
      exact x_leafs [0] rfl (hC (uI h x0 2 ((hI h x0 2) + ((1 : Int32)))))
    · refine x_aload_n hO 0 rfl rfl dX7_advance_33 ?_
      refine x_getT hO fl_RX7_9 rfl hx0 dX7_advance_34 (fun q2 => ?_)
      refine x_aload_n hO 0 rfl rfl dX7_advance_37 ?_
      refine x_getI hO fl_RX7_19 hx0 dX7_advance_38 ?_
      refine x_iald hO q2 dX7_advance_41 ?_
      refine x_bipush hO (v := 10) (by decide) dX7_advance_42 ?_
      refine x_icmp_ne hO (tg := 60) dX7_advance_44 (by decide) ?_ ?_
      · exact x_leafs [0] rfl (hE60 h)
      · refine x_aload_n hO 0 rfl rfl dX7_advance_47 ?_
        refine x_dup_r hO dX7_advance_48 ?_
        refine x_getI hO fl_RX7_19 hx0 dX7_advance_49 ?_
        refine x_iconst hO (v := 1) (by decide) dX7_advance_52 ?_
        refine x_iadd hO dX7_advance_53 ?_
        refine x_putI hO fl_RX7_19 hx0 dX7_advance_54 ?_
        refine x_goto hO (tg := 8) dX7_advance_57 (by decide) ?_
        exact x_leafs [0] rfl (hC (uI h x0 2 ((hI h x0 2) + ((1 : Int32)))))
set_option maxHeartbeats 4000000 in
set_option maxRecDepth 100000 in
theorem go_X7_advance_L8 {Γ : Cx} (hO : Ok Γ mX7_advance) (h : Hp) (x0 : Nat) (hx0 : Is x0 7) {K : Hp → Prop} (hE60 : ∀ (h : Hp), K (h) → EW Γ mX7_advance 60 [(0, rf Γ x0)] [] h) : EG Γ mX7_advance 8 [(0, rf Γ x0)] [] h (L_X7_advance_8 h x0) K := by
  have q := x_loop (Γ := Γ) (M := mX7_advance) (pc := 8) (B := fun s : Hp => B_X7_advance_8 s x0) (lvf := fun s => [(0, rf Γ x0)]) (hf := fun s => s) (Ky := K) (fun s => go_X7_advance_B8 hO s x0 hx0 (fun _ => id) hE60) h
  exact q
noncomputable def B_X7_advance_161 (h : Hp) (x0 : Nat) : Option ((Hp) ⊕ (Hp)) :=
  if (hI h x0 1) ≤ (hI h x0 3) then some (.inr h) else gd (ib (hI h x0 3) (LEN (hT h x0))) ((F_X7_isDigit h (hI h (hT h x0) (nx (hI h x0 3)))).bind (fun r2 => if r2 = 0 then some (.inr h) else some (.inl (uI h x0 3 ((hI h x0 3) + ((1 : Int32)))))))
noncomputable def L_X7_advance_161 (h : Hp) (x0 : Nat) : Option (Hp) := iterW (fun s : Hp => B_X7_advance_161 s x0) h
set_option maxHeartbeats 4000000 in
set_option maxRecDepth 100000 in
theorem go_X7_advance_B161 {Γ : Cx} (hO : Ok Γ mX7_advance) (h : Hp) (x0 : Nat) (hx0 : Is x0 7) {K : (Hp) ⊕ (Hp) → Prop} (hC : ∀ (h : Hp), K (.inl h) → EW Γ mX7_advance 161 [(0, rf Γ x0)] [] h) (hE200 : ∀ (h : Hp), K (.inr h) → EW Γ mX7_advance 200 [(0, rf Γ x0)] [] h) : EG Γ mX7_advance 161 [(0, rf Γ x0)] [] h (B_X7_advance_161 h x0) K := by
  unfold B_X7_advance_161
  refine x_aload_n hO 0 rfl rfl dX7_advance_161 ?_
  refine x_getI hO fl_RX7_22 hx0 dX7_advance_162 ?_
  refine x_aload_n hO 0 rfl rfl dX7_advance_165 ?_
  refine x_getI hO fl_RX7_15 hx0 dX7_advance_166 ?_
  refine x_icmp_ge hO (tg := 200) dX7_advance_169 (by decide) ?_ ?_
  · exact x_leafs [0] rfl (hE200 h)
  · refine x_aload_n hO 0 rfl rfl dX7_advance_172 ?_
    refine x_getT hO fl_RX7_9 rfl hx0 dX7_advance_173 (fun q1 => ?_)
    refine x_aload_n hO 0 rfl rfl dX7_advance_176 ?_
    refine x_getI hO fl_RX7_22 hx0 dX7_advance_177 ?_
    refine x_iald hO q1 dX7_advance_180 ?_
    refine y_PI (x_callS hO lt_RX7_47 (As := [.int (hI h (hT h x0) (nx (hI h x0 3)))]) rfl (Nat.le_of_ble_eq_true rfl) (ok_X7_isDigit (cG Γ) h (hI h (hT h x0) (nx (hI h x0 3)))) dX7_advance_181 rfl (Nat.le_of_ble_eq_true rfl)) (fun r2 => ?_)
    refine x_if_eq hO (tg := 200) dX7_advance_184 (by decide) ?_ ?_
    · exact x_leafs [0] rfl (hE200 h)
    · refine x_aload_n hO 0 rfl rfl dX7_advance_187 ?_
      refine x_dup_r hO dX7_advance_188 ?_
      refine x_getI hO fl_RX7_22 hx0 dX7_advance_189 ?_
      refine x_iconst hO (v := 1) (by decide) dX7_advance_192 ?_
      refine x_iadd hO dX7_advance_193 ?_
      refine x_putI hO fl_RX7_22 hx0 dX7_advance_194 ?_
      refine x_goto hO (tg := 161) dX7_advance_197 (by decide) ?_
      exact x_leafs [0] rfl (hC (uI h x0 3 ((hI h x0 3) + ((1 : Int32)))))
set_option maxHeartbeats 4000000 in
set_option maxRecDepth 100000 in
theorem go_X7_advance_L161 {Γ : Cx} (hO : Ok Γ mX7_advance) (h : Hp) (x0 : Nat) (hx0 : Is x0 7) {K : Hp → Prop} (hE200 : ∀ (h : Hp), K (h) → EW Γ mX7_advance 200 [(0, rf Γ x0)] [] h) : EG Γ mX7_advance 161 [(0, rf Γ x0)] [] h (L_X7_advance_161 h x0) K := by
  have q := x_loop (Γ := Γ) (M := mX7_advance) (pc := 161) (B := fun s : Hp => B_X7_advance_161 s x0) (lvf := fun s => [(0, rf Γ x0)]) (hf := fun s => s) (Ky := K) (fun s => go_X7_advance_B161 hO s x0 hx0 (fun _ => id) hE200) h
  exact q
noncomputable def J_X7_advance_200 (h : Hp) (x0 : Nat) : Option (Hp) :=
  if ((hI h x0 3) - (hI h x0 2)) ≤ ((3 : Int32)) then some (uI h x0 4 ((2 : Int32))) else some (uI h x0 4 ((4 : Int32)))
set_option maxHeartbeats 4000000 in
set_option maxRecDepth 100000 in
theorem go_X7_advance_J200 {Γ : Cx} (hO : Ok Γ mX7_advance) (h : Hp) (x0 : Nat) (hx0 : Is x0 7) {K : Hp → Prop} (hR : ∀ r, K r → emHV r = tgt Γ) : EG Γ mX7_advance 200 [(0, rf Γ x0)] [] h (J_X7_advance_200 h x0) K := by
  unfold J_X7_advance_200
  refine x_aload_n hO 0 rfl rfl dX7_advance_200 ?_
  refine x_aload_n hO 0 rfl rfl dX7_advance_201 ?_
  refine x_getI hO fl_RX7_22 hx0 dX7_advance_202 ?_
  refine x_aload_n hO 0 rfl rfl dX7_advance_205 ?_
  refine x_getI hO fl_RX7_19 hx0 dX7_advance_206 ?_
  refine x_isub hO dX7_advance_209 ?_
  refine x_iconst hO (v := 3) (by decide) dX7_advance_210 ?_
  refine x_icmp_le hO (tg := 218) dX7_advance_211 (by decide) ?_ ?_
  · refine x_iconst hO (v := 2) (by decide) dX7_advance_218 ?_
    refine x_putI hO fl_RX7_25 hx0 dX7_advance_219 ?_
    refine x_goto hO (tg := 258) dX7_advance_222 (by decide) ?_
    exact x_vret hO rfl dX7_advance_258 (hR _)
  · refine x_iconst hO (v := 4) (by decide) dX7_advance_214 ?_
    refine x_goto hO (tg := 219) dX7_advance_215 (by decide) ?_
    refine x_putI hO fl_RX7_25 hx0 dX7_advance_219 ?_
    refine x_goto hO (tg := 258) dX7_advance_222 (by decide) ?_
    exact x_vret hO rfl dX7_advance_258 (hR _)
noncomputable def B_X7_advance_107 (h : Hp) (x0 : Nat) : Option ((Hp) ⊕ (Hp)) :=
  if (hI h x0 1) ≤ (hI h x0 3) then some (.inr h) else gd (ib (hI h x0 3) (LEN (hT h x0))) ((F_X7_isLetter h (hI h (hT h x0) (nx (hI h x0 3)))).bind (fun r2 => if r2 = 0 then some (.inr h) else some (.inl (uI h x0 3 ((hI h x0 3) + ((1 : Int32)))))))
noncomputable def L_X7_advance_107 (h : Hp) (x0 : Nat) : Option (Hp) := iterW (fun s : Hp => B_X7_advance_107 s x0) h
set_option maxHeartbeats 4000000 in
set_option maxRecDepth 100000 in
theorem go_X7_advance_B107 {Γ : Cx} (hO : Ok Γ mX7_advance) (h : Hp) (x0 : Nat) (hx0 : Is x0 7) {K : (Hp) ⊕ (Hp) → Prop} (hC : ∀ (h : Hp), K (.inl h) → EW Γ mX7_advance 107 [(0, rf Γ x0)] [] h) (hR : ∀ r, K (.inr r) → emHV r = tgt Γ) : EG Γ mX7_advance 107 [(0, rf Γ x0)] [] h (B_X7_advance_107 h x0) K := by
  unfold B_X7_advance_107
  refine x_aload_n hO 0 rfl rfl dX7_advance_107 ?_
  refine x_getI hO fl_RX7_22 hx0 dX7_advance_108 ?_
  refine x_aload_n hO 0 rfl rfl dX7_advance_111 ?_
  refine x_getI hO fl_RX7_15 hx0 dX7_advance_112 ?_
  refine x_icmp_ge hO (tg := 258) dX7_advance_115 (by decide) ?_ ?_
  · exact x_vret hO rfl dX7_advance_258 (hR _)
  · refine x_aload_n hO 0 rfl rfl dX7_advance_118 ?_
    refine x_getT hO fl_RX7_9 rfl hx0 dX7_advance_119 (fun q1 => ?_)
    refine x_aload_n hO 0 rfl rfl dX7_advance_122 ?_
    refine x_getI hO fl_RX7_22 hx0 dX7_advance_123 ?_
    refine x_iald hO q1 dX7_advance_126 ?_
    refine y_PI (x_callS hO lt_RX7_43 (As := [.int (hI h (hT h x0) (nx (hI h x0 3)))]) rfl (Nat.le_of_ble_eq_true rfl) (ok_X7_isLetter (cG Γ) h (hI h (hT h x0) (nx (hI h x0 3)))) dX7_advance_127 rfl (Nat.le_of_ble_eq_true rfl)) (fun r2 => ?_)
    refine x_if_eq hO (tg := 258) dX7_advance_130 (by decide) ?_ ?_
    · exact x_vret hO rfl dX7_advance_258 (hR _)
    · refine x_aload_n hO 0 rfl rfl dX7_advance_133 ?_
      refine x_dup_r hO dX7_advance_134 ?_
      refine x_getI hO fl_RX7_22 hx0 dX7_advance_135 ?_
      refine x_iconst hO (v := 1) (by decide) dX7_advance_138 ?_
      refine x_iadd hO dX7_advance_139 ?_
      refine x_putI hO fl_RX7_22 hx0 dX7_advance_140 ?_
      refine x_goto hO (tg := 107) dX7_advance_143 (by decide) ?_
      exact x_leafs [0] rfl (hC (uI h x0 3 ((hI h x0 3) + ((1 : Int32)))))
set_option maxHeartbeats 4000000 in
set_option maxRecDepth 100000 in
theorem go_X7_advance_L107 {Γ : Cx} (hO : Ok Γ mX7_advance) (h : Hp) (x0 : Nat) (hx0 : Is x0 7) {K : Hp → Prop} (hR : ∀ r, K (r) → emHV r = tgt Γ) : EG Γ mX7_advance 107 [(0, rf Γ x0)] [] h (L_X7_advance_107 h x0) K := by
  have q := x_loop (Γ := Γ) (M := mX7_advance) (pc := 107) (B := fun s : Hp => B_X7_advance_107 s x0) (lvf := fun s => [(0, rf Γ x0)]) (hf := fun s => s) (Ky := K) (fun s => go_X7_advance_B107 hO s x0 hx0 (fun _ => id) hR) h
  exact q
noncomputable def J_X7_advance_60 (h : Hp) (x0 : Nat) : Option (Hp) :=
  if (hI (uI h x0 3 (hI h x0 2)) x0 2) < (hI (uI h x0 3 (hI h x0 2)) x0 1) then gd (ib (hI (uI h x0 3 (hI h x0 2)) x0 2) (LEN (hT (uI h x0 3 (hI h x0 2)) x0))) ((F_X7_isLetter (uI h x0 3 (hI h x0 2)) (hI (uI h x0 3 (hI h x0 2)) (hT (uI h x0 3 (hI h x0 2)) x0) (nx (hI (uI h x0 3 (hI h x0 2)) x0 2)))).bind (fun r2 => if r2 = 0 then gd (ib (hI (uI h x0 3 (hI h x0 2)) x0 2) (LEN (hT (uI h x0 3 (hI h x0 2)) x0))) ((F_X7_isDigit (uI h x0 3 (hI h x0 2)) (hI (uI h x0 3 (hI h x0 2)) (hT (uI h x0 3 (hI h x0 2)) x0) (nx (hI (uI h x0 3 (hI h x0 2)) x0 2)))).bind (fun r4 => if r4 = 0 then gd (ib (hI (uI h x0 3 (hI h x0 2)) x0 2) (LEN (hT (uI h x0 3 (hI h x0 2)) x0))) (if (hI (uI h x0 3 (hI h x0 2)) (hT (uI h x0 3 (hI h x0 2)) x0) (nx (hI (uI h x0 3 (hI h x0 2)) x0 2))) = ((59 : Int32)) then some (uI (uI (uI h x0 3 (hI h x0 2)) x0 4 ((3 : Int32))) x0 3 ((hI (uI (uI h x0 3 (hI h x0 2)) x0 4 ((3 : Int32))) x0 3) + ((1 : Int32)))) else some (uI (uI (uI h x0 3 (hI h x0 2)) x0 4 ((4 : Int32))) x0 3 ((hI (uI (uI h x0 3 (hI h x0 2)) x0 4 ((4 : Int32))) x0 3) + ((1 : Int32))))) else (L_X7_advance_161 (uI h x0 3 (hI h x0 2)) x0).bind (fun e6 => J_X7_advance_200 e6 x0))) else L_X7_advance_107 (uI (uI h x0 3 (hI h x0 2)) x0 4 ((1 : Int32))) x0)) else some (uI (uI h x0 3 (hI h x0 2)) x0 4 ((0 : Int32)))
set_option maxHeartbeats 4000000 in
set_option maxRecDepth 100000 in
theorem go_X7_advance_J60 {Γ : Cx} (hO : Ok Γ mX7_advance) (h : Hp) (x0 : Nat) (hx0 : Is x0 7) {K : Hp → Prop} (hR : ∀ r, K r → emHV r = tgt Γ) : EG Γ mX7_advance 60 [(0, rf Γ x0)] [] h (J_X7_advance_60 h x0) K := by
  unfold J_X7_advance_60
  refine x_aload_n hO 0 rfl rfl dX7_advance_60 ?_
  refine x_aload_n hO 0 rfl rfl dX7_advance_61 ?_
  refine x_getI hO fl_RX7_19 hx0 dX7_advance_62 ?_
  refine x_putI hO fl_RX7_22 hx0 dX7_advance_65 ?_
  refine x_aload_n hO 0 rfl rfl dX7_advance_68 ?_
  refine x_getI hO fl_RX7_19 hx0 dX7_advance_69 ?_
  refine x_aload_n hO 0 rfl rfl dX7_advance_72 ?_
  refine x_getI hO fl_RX7_15 hx0 dX7_advance_73 ?_
  refine x_icmp_lt hO (tg := 87) dX7_advance_76 (by decide) ?_ ?_
  · refine x_aload_n hO 0 rfl rfl dX7_advance_87 ?_
    refine x_getT hO fl_RX7_9 rfl hx0 dX7_advance_88 (fun q1 => ?_)
    refine x_aload_n hO 0 rfl rfl dX7_advance_91 ?_
    refine x_getI hO fl_RX7_19 hx0 dX7_advance_92 ?_
    refine x_iald hO q1 dX7_advance_95 ?_
    refine y_PI (x_callS hO lt_RX7_43 (As := [.int (hI (uI h x0 3 (hI h x0 2)) (hT (uI h x0 3 (hI h x0 2)) x0) (nx (hI (uI h x0 3 (hI h x0 2)) x0 2)))]) rfl (Nat.le_of_ble_eq_true rfl) (ok_X7_isLetter (cG Γ) (uI h x0 3 (hI h x0 2)) (hI (uI h x0 3 (hI h x0 2)) (hT (uI h x0 3 (hI h x0 2)) x0) (nx (hI (uI h x0 3 (hI h x0 2)) x0 2)))) dX7_advance_96 rfl (Nat.le_of_ble_eq_true rfl)) (fun r2 => ?_)
    refine x_if_eq hO (tg := 146) dX7_advance_99 (by decide) ?_ ?_
    · refine x_aload_n hO 0 rfl rfl dX7_advance_146 ?_
      refine x_getT hO fl_RX7_9 rfl hx0 dX7_advance_147 (fun q3 => ?_)
      refine x_aload_n hO 0 rfl rfl dX7_advance_150 ?_
      refine x_getI hO fl_RX7_19 hx0 dX7_advance_151 ?_
      refine x_iald hO q3 dX7_advance_154 ?_
      refine y_PI (x_callS hO lt_RX7_47 (As := [.int (hI (uI h x0 3 (hI h x0 2)) (hT (uI h x0 3 (hI h x0 2)) x0) (nx (hI (uI h x0 3 (hI h x0 2)) x0 2)))]) rfl (Nat.le_of_ble_eq_true rfl) (ok_X7_isDigit (cG Γ) (uI h x0 3 (hI h x0 2)) (hI (uI h x0 3 (hI h x0 2)) (hT (uI h x0 3 (hI h x0 2)) x0) (nx (hI (uI h x0 3 (hI h x0 2)) x0 2)))) dX7_advance_155 rfl (Nat.le_of_ble_eq_true rfl)) (fun r4 => ?_)
      refine x_if_eq hO (tg := 225) dX7_advance_158 (by decide) ?_ ?_
      · refine x_aload_n hO 0 rfl rfl dX7_advance_225 ?_
        refine x_aload_n hO 0 rfl rfl dX7_advance_226 ?_
        refine x_getT hO fl_RX7_9 rfl hx0 dX7_advance_227 (fun q5 => ?_)
        refine x_aload_n hO 0 rfl rfl dX7_advance_230 ?_
        refine x_getI hO fl_RX7_19 hx0 dX7_advance_231 ?_
        refine x_iald hO q5 dX7_advance_234 ?_
        refine x_bipush hO (v := 59) (by decide) dX7_advance_235 ?_
        refine x_icmp_ne hO (tg := 244) dX7_advance_237 (by decide) ?_ ?_
        · refine x_iconst hO (v := 4) (by decide) dX7_advance_244 ?_
          refine x_putI hO fl_RX7_25 hx0 dX7_advance_245 ?_
          refine x_aload_n hO 0 rfl rfl dX7_advance_248 ?_
          refine x_dup_r hO dX7_advance_249 ?_
          refine x_getI hO fl_RX7_22 hx0 dX7_advance_250 ?_
          refine x_iconst hO (v := 1) (by decide) dX7_advance_253 ?_
          refine x_iadd hO dX7_advance_254 ?_
          refine x_putI hO fl_RX7_22 hx0 dX7_advance_255 ?_
          exact x_vret hO rfl dX7_advance_258 (hR _)
        · refine x_iconst hO (v := 3) (by decide) dX7_advance_240 ?_
          refine x_goto hO (tg := 245) dX7_advance_241 (by decide) ?_
          refine x_putI hO fl_RX7_25 hx0 dX7_advance_245 ?_
          refine x_aload_n hO 0 rfl rfl dX7_advance_248 ?_
          refine x_dup_r hO dX7_advance_249 ?_
          refine x_getI hO fl_RX7_22 hx0 dX7_advance_250 ?_
          refine x_iconst hO (v := 1) (by decide) dX7_advance_253 ?_
          refine x_iadd hO dX7_advance_254 ?_
          refine x_putI hO fl_RX7_22 hx0 dX7_advance_255 ?_
          exact x_vret hO rfl dX7_advance_258 (hR _)
      · refine x_bind (x_sub [0] rfl (go_X7_advance_L161 hO (uI h x0 3 (hI h x0 2)) x0 hx0 (fun y6_0 hx => ?_)))
        refine x_run (t := (J_X7_advance_200 y6_0 x0 : Option (Hp))) hx ?_
        exact x_sub [0] rfl (go_X7_advance_J200 hO y6_0 x0 hx0 hR)
    · refine x_aload_n hO 0 rfl rfl dX7_advance_102 ?_
      refine x_iconst hO (v := 1) (by decide) dX7_advance_103 ?_
      refine x_putI hO fl_RX7_25 hx0 dX7_advance_104 ?_
      exact x_sub [0] rfl (go_X7_advance_L107 hO (uI (uI h x0 3 (hI h x0 2)) x0 4 ((1 : Int32))) x0 hx0 hR)
  · refine x_aload_n hO 0 rfl rfl dX7_advance_79 ?_
    refine x_iconst hO (v := 0) (by decide) dX7_advance_80 ?_
    refine x_putI hO fl_RX7_25 hx0 dX7_advance_81 ?_
    refine x_goto hO (tg := 258) dX7_advance_84 (by decide) ?_
    exact x_vret hO rfl dX7_advance_258 (hR _)
noncomputable def F_X7_advance (h : Hp) (x0 : Nat) : Option (Hp) :=
  (L_X7_advance_8 (uI h x0 2 (hI h x0 3)) x0).bind (fun e1 => J_X7_advance_60 e1 x0)
set_option maxHeartbeats 4000000 in
set_option maxRecDepth 100000 in
theorem go_X7_advance {Γ : Cx} (hO : Ok Γ mX7_advance) (h : Hp) (x0 : Nat) (hx0 : Is x0 7) {K : Hp → Prop} (hR : ∀ r, K r → emHV r = tgt Γ) : EG Γ mX7_advance 0 [(0, rf Γ x0)] [] h (F_X7_advance h x0) K := by
  unfold F_X7_advance
  refine x_aload_n hO 0 rfl rfl dX7_advance_0 ?_
  refine x_aload_n hO 0 rfl rfl dX7_advance_1 ?_
  refine x_getI hO fl_RX7_22 hx0 dX7_advance_2 ?_
  refine x_putI hO fl_RX7_19 hx0 dX7_advance_5 ?_
  refine x_bind (x_sub [0] rfl (go_X7_advance_L8 hO (uI h x0 2 (hI h x0 3)) x0 hx0 (fun y1_0 hx => ?_)))
  refine x_run (t := (J_X7_advance_60 y1_0 x0 : Option (Hp))) hx ?_
  exact x_sub [0] rfl (go_X7_advance_J60 hO y1_0 x0 hx0 hR)
theorem ok_X7_advance (G : Gl) (h : Hp) (x0 : Nat) (hx0 : Is x0 7) : CN G mX7_advance [.ref (gb G + x0)] h ((F_X7_advance h x0).map (emHV)) := CN.fn pn_RX7 (Nat.le_of_ble_eq_true rfl) (fun Γ hG hO => by subst hG; exact go_X7_advance hO h x0 hx0 (fun _ q => q))
noncomputable def F_X7_numberStands (h : Hp) (x0 : Nat) (x1 : Int32) (x2 : Int32) : Option (Hp × Int32) :=
  if (hI h x0 4) = ((2 : Int32)) then (F_X7_numberHere h x0).bind (fun r1 => if r1 < x1 then (F_X7_tell h x0 ((4 : Int32))).bind (fun r2 => if r2.2 = 0 then some ((r2.1, (0 : Int32))) else some ((r2.1, (1 : Int32)))) else if r1 ≤ x2 then some ((h, (1 : Int32))) else (F_X7_tell h x0 ((4 : Int32))).bind (fun r3 => if r3.2 = 0 then some ((r3.1, (0 : Int32))) else some ((r3.1, (1 : Int32))))) else (F_X7_misplaced h x0).bind (fun r4 => (F_X7_tell h x0 r4).bind (fun r5 => some ((r5.1, r5.2 &&& 1))))
set_option maxHeartbeats 4000000 in
set_option maxRecDepth 100000 in
theorem go_X7_numberStands {Γ : Cx} (hO : Ok Γ mX7_numberStands) (h : Hp) (x0 : Nat) (x1 : Int32) (x2 : Int32) (hx0 : Is x0 7) {K : Hp × Int32 → Prop} (hR : ∀ r, K r → emHI r = tgt Γ) : EG Γ mX7_numberStands 0 [(0, rf Γ x0), (1, .int x1), (2, .int x2)] [] h (F_X7_numberStands h x0 x1 x2) K := by
  unfold F_X7_numberStands
  refine x_aload_n hO 0 rfl rfl dX7_numberStands_0 ?_
  refine x_getI hO fl_RX7_25 hx0 dX7_numberStands_1 ?_
  refine x_iconst hO (v := 2) (by decide) dX7_numberStands_4 ?_
  refine x_icmp_eq hO (tg := 17) dX7_numberStands_5 (by decide) ?_ ?_
  · refine x_aload_n hO 0 rfl rfl dX7_numberStands_17 ?_
    refine y_PI (x_callV hO lv_RX7_81 hx0 vc_7 (by decide) (As := []) rfl (Nat.le_of_ble_eq_true rfl) (ok_X7_numberHere (cG Γ) h x0 hx0) dX7_numberStands_18 rfl (Nat.le_of_ble_eq_true rfl)) (fun r1 => ?_)
    refine x_istore_n hO rfl [(3, .int r1), (0, rf Γ x0), (1, .int x1), (2, .int x2)] dX7_numberStands_21 (by decide) rfl ?_
    refine x_iload_n hO 0 rfl rfl dX7_numberStands_22 ?_
    refine x_iload_n hO 2 rfl rfl dX7_numberStands_23 ?_
    refine x_icmp_lt hO (tg := 32) dX7_numberStands_24 (by decide) ?_ ?_
    · refine x_aload_n hO 1 rfl rfl dX7_numberStands_32 ?_
      refine x_iconst hO (v := 4) (by decide) dX7_numberStands_33 ?_
      refine y_HI (x_callV hO lv_RX7_78 hx0 vc_7 (by decide) (As := [.int ((4 : Int32))]) rfl (Nat.le_of_ble_eq_true rfl) (ok_X7_tell (cG Γ) h x0 ((4 : Int32)) hx0) dX7_numberStands_34 rfl (Nat.le_of_ble_eq_true rfl)) (fun r2 => ?_)
      refine x_if_eq hO (tg := 44) dX7_numberStands_37 (by decide) ?_ ?_
      · refine x_iconst hO (v := 0) (by decide) dX7_numberStands_44 ?_
        exact x_zretv hO rfl (by decide) dX7_numberStands_45 (hR _)
      · refine x_iconst hO (v := 1) (by decide) dX7_numberStands_40 ?_
        refine x_goto hO (tg := 45) dX7_numberStands_41 (by decide) ?_
        exact x_zretv hO rfl (by decide) dX7_numberStands_45 (hR _)
    · refine x_iload_n hO 0 rfl rfl dX7_numberStands_27 ?_
      refine x_iload_n hO 3 rfl rfl dX7_numberStands_28 ?_
      refine x_icmp_le hO (tg := 40) dX7_numberStands_29 (by decide) ?_ ?_
      · refine x_iconst hO (v := 1) (by decide) dX7_numberStands_40 ?_
        refine x_goto hO (tg := 45) dX7_numberStands_41 (by decide) ?_
        exact x_zretv hO rfl (by decide) dX7_numberStands_45 (hR _)
      · refine x_aload_n hO 1 rfl rfl dX7_numberStands_32 ?_
        refine x_iconst hO (v := 4) (by decide) dX7_numberStands_33 ?_
        refine y_HI (x_callV hO lv_RX7_78 hx0 vc_7 (by decide) (As := [.int ((4 : Int32))]) rfl (Nat.le_of_ble_eq_true rfl) (ok_X7_tell (cG Γ) h x0 ((4 : Int32)) hx0) dX7_numberStands_34 rfl (Nat.le_of_ble_eq_true rfl)) (fun r3 => ?_)
        refine x_if_eq hO (tg := 44) dX7_numberStands_37 (by decide) ?_ ?_
        · refine x_iconst hO (v := 0) (by decide) dX7_numberStands_44 ?_
          exact x_zretv hO rfl (by decide) dX7_numberStands_45 (hR _)
        · refine x_iconst hO (v := 1) (by decide) dX7_numberStands_40 ?_
          refine x_goto hO (tg := 45) dX7_numberStands_41 (by decide) ?_
          exact x_zretv hO rfl (by decide) dX7_numberStands_45 (hR _)
  · refine x_aload_n hO 0 rfl rfl dX7_numberStands_8 ?_
    refine x_aload_n hO 0 rfl rfl dX7_numberStands_9 ?_
    refine y_PI (x_callV hO lv_RX7_75 hx0 vc_7 (by decide) (As := []) rfl (Nat.le_of_ble_eq_true rfl) (ok_X7_misplaced (cG Γ) h x0 hx0) dX7_numberStands_10 rfl (Nat.le_of_ble_eq_true rfl)) (fun r4 => ?_)
    refine y_HI (x_callV hO lv_RX7_78 hx0 vc_7 (by decide) (As := [.int r4]) rfl (Nat.le_of_ble_eq_true rfl) (ok_X7_tell (cG Γ) h x0 r4 hx0) dX7_numberStands_13 rfl (Nat.le_of_ble_eq_true rfl)) (fun r5 => ?_)
    exact x_zret hO rfl dX7_numberStands_16 (hR _)
theorem ok_X7_numberStands (G : Gl) (h : Hp) (x0 : Nat) (x1 : Int32) (x2 : Int32) (hx0 : Is x0 7) : CN G mX7_numberStands [.ref (gb G + x0), .int x1, .int x2] h ((F_X7_numberStands h x0 x1 x2).map (emHI)) := CN.fn pn_RX7 (Nat.le_of_ble_eq_true rfl) (fun Γ hG hO => by subst hG; exact go_X7_numberStands hO h x0 x1 x2 hx0 (fun _ q => q))
noncomputable def F_X9_copyFrom (h : Hp) (x0 : Nat) (x1 : Nat) : Option (Hp) :=
  gd (cpok ((0 : Int32)) ((0 : Int32)) ((80 : Int32)) (LEN (GR x1 2)) (LEN (GR x0 2))) (bnd (sI (uI (uI h x0 0 (hI h x1 0)) x0 1 (hI (uI h x0 0 (hI h x1 0)) x1 1)) (GR x0 2) (va_cpy (hI (uI (uI h x0 0 (hI h x1 0)) x0 1 (hI (uI h x0 0 (hI h x1 0)) x1 1)) (GR x1 2)) (hI (uI (uI h x0 0 (hI h x1 0)) x0 1 (hI (uI h x0 0 (hI h x1 0)) x1 1)) (GR x0 2)) (nx ((0 : Int32))) (nx ((0 : Int32))) (nx ((80 : Int32))))) (fun h1 => gd (cpok ((0 : Int32)) ((0 : Int32)) ((80 : Int32)) (LEN (GR x1 3)) (LEN (GR x0 3))) (gd (cpok ((0 : Int32)) ((0 : Int32)) ((80 : Int32)) (LEN (GR x1 4)) (LEN (GR x0 4))) (bnd (sI (sI h1 (GR x0 3) (va_cpy (hI h1 (GR x1 3)) (hI h1 (GR x0 3)) (nx ((0 : Int32))) (nx ((0 : Int32))) (nx ((80 : Int32))))) (GR x0 4) (va_cpy (hI (sI h1 (GR x0 3) (va_cpy (hI h1 (GR x1 3)) (hI h1 (GR x0 3)) (nx ((0 : Int32))) (nx ((0 : Int32))) (nx ((80 : Int32))))) (GR x1 4)) (hI (sI h1 (GR x0 3) (va_cpy (hI h1 (GR x1 3)) (hI h1 (GR x0 3)) (nx ((0 : Int32))) (nx ((0 : Int32))) (nx ((80 : Int32))))) (GR x0 4)) (nx ((0 : Int32))) (nx ((0 : Int32))) (nx ((80 : Int32))))) (fun h2 => gd (cpok ((0 : Int32)) ((0 : Int32)) ((80 : Int32)) (LEN (GR x1 5)) (LEN (GR x0 5))) (some (sI h2 (GR x0 5) (va_cpy (hI h2 (GR x1 5)) (hI h2 (GR x0 5)) (nx ((0 : Int32))) (nx ((0 : Int32))) (nx ((80 : Int32)))))))))))
set_option maxHeartbeats 4000000 in
set_option maxRecDepth 100000 in
theorem go_X9_copyFrom {Γ : Cx} (hO : Ok Γ mX9_copyFrom) (h : Hp) (x0 : Nat) (x1 : Nat) (hx0 : Is x0 9) (hx1 : Is x1 9) {K : Hp → Prop} (hR : ∀ r, K r → emHV r = tgt Γ) : EG Γ mX9_copyFrom 0 [(0, rf Γ x0), (1, rf Γ x1)] [] h (F_X9_copyFrom h x0 x1) K := by
  unfold F_X9_copyFrom
  refine x_aload_n hO 0 rfl rfl dX9_copyFrom_0 ?_
  refine x_aload_n hO 1 rfl rfl dX9_copyFrom_1 ?_
  refine x_getI hO fl_RX9_9 hx1 dX9_copyFrom_2 ?_
  refine x_putI hO fl_RX9_9 hx0 dX9_copyFrom_5 ?_
  refine x_aload_n hO 0 rfl rfl dX9_copyFrom_8 ?_
  refine x_aload_n hO 1 rfl rfl dX9_copyFrom_9 ?_
  refine x_getI hO fl_RX9_15 hx1 dX9_copyFrom_10 ?_
  refine x_putI hO fl_RX9_15 hx0 dX9_copyFrom_13 ?_
  refine x_aload_n hO 1 rfl rfl dX9_copyFrom_16 ?_
  refine x_getR hO fl_RX9_18 hx1 dX9_copyFrom_17 ?_
  refine x_iconst hO (v := 0) (by decide) dX9_copyFrom_20 ?_
  refine x_aload_n hO 0 rfl rfl dX9_copyFrom_21 ?_
  refine x_getR hO fl_RX9_18 hx0 dX9_copyFrom_22 ?_
  refine x_iconst hO (v := 0) (by decide) dX9_copyFrom_25 ?_
  refine x_bipush hO (v := 80) (by decide) dX9_copyFrom_26 ?_
  refine x_copyI hO lc_RX9_31 (gr_9_2 hx1) (gr_9_2 hx0) (Nat.le_of_ble_eq_true rfl) (Nat.le_of_ble_eq_true rfl) dX9_copyFrom_28 ?_
  refine x_bnd ?_
  generalize sI (uI (uI h x0 0 (hI h x1 0)) x0 1 (hI (uI h x0 0 (hI h x1 0)) x1 1)) (GR x0 2) (va_cpy (hI (uI (uI h x0 0 (hI h x1 0)) x0 1 (hI (uI h x0 0 (hI h x1 0)) x1 1)) (GR x1 2)) (hI (uI (uI h x0 0 (hI h x1 0)) x0 1 (hI (uI h x0 0 (hI h x1 0)) x1 1)) (GR x0 2)) (nx ((0 : Int32))) (nx ((0 : Int32))) (nx ((80 : Int32)))) = h1
  refine x_aload_n hO 1 rfl rfl dX9_copyFrom_31 ?_
  refine x_getR hO fl_RX9_22 hx1 dX9_copyFrom_32 ?_
  refine x_iconst hO (v := 0) (by decide) dX9_copyFrom_35 ?_
  refine x_aload_n hO 0 rfl rfl dX9_copyFrom_36 ?_
  refine x_getR hO fl_RX9_22 hx0 dX9_copyFrom_37 ?_
  refine x_iconst hO (v := 0) (by decide) dX9_copyFrom_40 ?_
  refine x_bipush hO (v := 80) (by decide) dX9_copyFrom_41 ?_
  refine x_copyI hO lc_RX9_31 (gr_9_3 hx1) (gr_9_3 hx0) (Nat.le_of_ble_eq_true rfl) (Nat.le_of_ble_eq_true rfl) dX9_copyFrom_43 ?_
  refine x_aload_n hO 1 rfl rfl dX9_copyFrom_46 ?_
  refine x_getR hO fl_RX9_25 hx1 dX9_copyFrom_47 ?_
  refine x_iconst hO (v := 0) (by decide) dX9_copyFrom_50 ?_
  refine x_aload_n hO 0 rfl rfl dX9_copyFrom_51 ?_
  refine x_getR hO fl_RX9_25 hx0 dX9_copyFrom_52 ?_
  refine x_iconst hO (v := 0) (by decide) dX9_copyFrom_55 ?_
  refine x_bipush hO (v := 80) (by decide) dX9_copyFrom_56 ?_
  refine x_copyI hO lc_RX9_31 (gr_9_4 hx1) (gr_9_4 hx0) (Nat.le_of_ble_eq_true rfl) (Nat.le_of_ble_eq_true rfl) dX9_copyFrom_58 ?_
  refine x_bnd ?_
  generalize sI (sI h1 (GR x0 3) (va_cpy (hI h1 (GR x1 3)) (hI h1 (GR x0 3)) (nx ((0 : Int32))) (nx ((0 : Int32))) (nx ((80 : Int32))))) (GR x0 4) (va_cpy (hI (sI h1 (GR x0 3) (va_cpy (hI h1 (GR x1 3)) (hI h1 (GR x0 3)) (nx ((0 : Int32))) (nx ((0 : Int32))) (nx ((80 : Int32))))) (GR x1 4)) (hI (sI h1 (GR x0 3) (va_cpy (hI h1 (GR x1 3)) (hI h1 (GR x0 3)) (nx ((0 : Int32))) (nx ((0 : Int32))) (nx ((80 : Int32))))) (GR x0 4)) (nx ((0 : Int32))) (nx ((0 : Int32))) (nx ((80 : Int32)))) = h2
  refine x_aload_n hO 1 rfl rfl dX9_copyFrom_61 ?_
  refine x_getR hO fl_RX9_28 hx1 dX9_copyFrom_62 ?_
  refine x_iconst hO (v := 0) (by decide) dX9_copyFrom_65 ?_
  refine x_aload_n hO 0 rfl rfl dX9_copyFrom_66 ?_
  refine x_getR hO fl_RX9_28 hx0 dX9_copyFrom_67 ?_
  refine x_iconst hO (v := 0) (by decide) dX9_copyFrom_70 ?_
  refine x_bipush hO (v := 80) (by decide) dX9_copyFrom_71 ?_
  refine x_copyI hO lc_RX9_31 (gr_9_5 hx1) (gr_9_5 hx0) (Nat.le_of_ble_eq_true rfl) (Nat.le_of_ble_eq_true rfl) dX9_copyFrom_73 ?_
  exact x_vret hO rfl dX9_copyFrom_76 (hR _)
theorem ok_X9_copyFrom (G : Gl) (h : Hp) (x0 : Nat) (x1 : Nat) (hx0 : Is x0 9) (hx1 : Is x1 9) : CN G mX9_copyFrom [.ref (gb G + x0), .ref (gb G + x1)] h ((F_X9_copyFrom h x0 x1).map (emHV)) := CN.fn pn_RX9 (Nat.le_of_ble_eq_true rfl) (fun Γ hG hO => by subst hG; exact go_X9_copyFrom hO h x0 x1 hx0 hx1 (fun _ q => q))
noncomputable def F_X0_addMean (h : Hp) (x0 : Nat) (x1 : Int32) : Option (Hp) :=
  if ((20 : Int32)) ≤ (hI h x0 1) then some h else if (hI h x0 0) ≤ 0 then some h else gd (ib (hI h x0 1) (LEN (GR x0 3))) (gd (ib (hI (uI h (GR x0 3) (nx (hI h x0 1)) ((hI h x0 0) - ((1 : Int32)))) x0 1) (LEN (GR x0 4))) (bnd (uI (uI h (GR x0 3) (nx (hI h x0 1)) ((hI h x0 0) - ((1 : Int32)))) (GR x0 4) (nx (hI (uI h (GR x0 3) (nx (hI h x0 1)) ((hI h x0 0) - ((1 : Int32)))) x0 1)) x1) (fun h1 => (F_J7_fill_fda19 h1 (GR x0 5) ((hI h1 x0 1) * ((4 : Int32))) (((hI h1 x0 1) + ((1 : Int32))) * ((4 : Int32))) ((-1 : Int32))).bind (fun r2 => gd (ib ((((hI r2 x0 1) * ((4 : Int32))) + (hI r2 x0 0)) - ((1 : Int32))) (LEN (GR x0 5))) (bnd (uI (uI r2 (GR x0 5) (nx ((((hI r2 x0 1) * ((4 : Int32))) + (hI r2 x0 0)) - ((1 : Int32)))) (hI r2 x0 1)) x0 1 ((hI (uI r2 (GR x0 5) (nx ((((hI r2 x0 1) * ((4 : Int32))) + (hI r2 x0 0)) - ((1 : Int32)))) (hI r2 x0 1)) x0 1) + ((1 : Int32)))) (fun h3 => some h3))))))
set_option maxHeartbeats 4000000 in
set_option maxRecDepth 100000 in
theorem go_X0_addMean {Γ : Cx} (hO : Ok Γ mX0_addMean) (h : Hp) (x0 : Nat) (x1 : Int32) (hx0 : Is x0 0) {K : Hp → Prop} (hR : ∀ r, K r → emHV r = tgt Γ) : EG Γ mX0_addMean 0 [(0, rf Γ x0), (1, .int x1)] [] h (F_X0_addMean h x0 x1) K := by
  unfold F_X0_addMean
  refine x_aload_n hO 0 rfl rfl dX0_addMean_0 ?_
  refine x_getI hO fl_RX0_15 hx0 dX0_addMean_1 ?_
  refine x_bipush hO (v := 20) (by decide) dX0_addMean_4 ?_
  refine x_icmp_ge hO (tg := 95) dX0_addMean_6 (by decide) ?_ ?_
  · exact x_vret hO rfl dX0_addMean_95 (hR _)
  · refine x_aload_n hO 0 rfl rfl dX0_addMean_9 ?_
    refine x_getI hO fl_RX0_9 hx0 dX0_addMean_10 ?_
    refine x_if_le hO (tg := 95) dX0_addMean_13 (by decide) ?_ ?_
    · exact x_vret hO rfl dX0_addMean_95 (hR _)
    · refine x_aload_n hO 0 rfl rfl dX0_addMean_16 ?_
      refine x_getR hO fl_RX0_22 hx0 dX0_addMean_17 ?_
      refine x_aload_n hO 0 rfl rfl dX0_addMean_20 ?_
      refine x_getI hO fl_RX0_15 hx0 dX0_addMean_21 ?_
      refine x_aload_n hO 0 rfl rfl dX0_addMean_24 ?_
      refine x_getI hO fl_RX0_9 hx0 dX0_addMean_25 ?_
      refine x_iconst hO (v := 1) (by decide) dX0_addMean_28 ?_
      refine x_isub hO dX0_addMean_29 ?_
      refine x_iast hO (gr_0_3 hx0) dX0_addMean_30 ?_
      refine x_aload_n hO 0 rfl rfl dX0_addMean_31 ?_
      refine x_getR hO fl_RX0_25 hx0 dX0_addMean_32 ?_
      refine x_aload_n hO 0 rfl rfl dX0_addMean_35 ?_
      refine x_getI hO fl_RX0_15 hx0 dX0_addMean_36 ?_
      refine x_iload_n hO 1 rfl rfl dX0_addMean_39 ?_
      refine x_iast hO (gr_0_4 hx0) dX0_addMean_40 ?_
      refine x_bnd ?_
      generalize uI (uI h (GR x0 3) (nx (hI h x0 1)) ((hI h x0 0) - ((1 : Int32)))) (GR x0 4) (nx (hI (uI h (GR x0 3) (nx (hI h x0 1)) ((hI h x0 0) - ((1 : Int32)))) x0 1)) x1 = h1
      refine x_aload_n hO 0 rfl rfl dX0_addMean_41 ?_
      refine x_getR hO fl_RX0_28 hx0 dX0_addMean_42 ?_
      refine x_aload_n hO 0 rfl rfl dX0_addMean_45 ?_
      refine x_getI hO fl_RX0_15 hx0 dX0_addMean_46 ?_
      refine x_iconst hO (v := 4) (by decide) dX0_addMean_49 ?_
      refine x_imul hO dX0_addMean_50 ?_
      refine x_aload_n hO 0 rfl rfl dX0_addMean_51 ?_
      refine x_getI hO fl_RX0_15 hx0 dX0_addMean_52 ?_
      refine x_iconst hO (v := 1) (by decide) dX0_addMean_55 ?_
      refine x_iadd hO dX0_addMean_56 ?_
      refine x_iconst hO (v := 4) (by decide) dX0_addMean_57 ?_
      refine x_imul hO dX0_addMean_58 ?_
      refine x_iconst hO (v := -1) (by decide) dX0_addMean_59 ?_
      refine y_HV (x_callS hO lt_RX0_37 (As := [rf Γ (GR x0 5), .int ((hI h1 x0 1) * ((4 : Int32))), .int (((hI h1 x0 1) + ((1 : Int32))) * ((4 : Int32))), .int ((-1 : Int32))]) rfl (Nat.le_of_ble_eq_true rfl) (ok_J7_fill_fda19 (cG Γ) h1 (GR x0 5) ((hI h1 x0 1) * ((4 : Int32))) (((hI h1 x0 1) + ((1 : Int32))) * ((4 : Int32))) ((-1 : Int32)) (gr_0_5 hx0)) dX0_addMean_60 rfl (Nat.le_of_ble_eq_true rfl)) (fun r2 => ?_)
      refine x_aload_n hO 0 rfl rfl dX0_addMean_63 ?_
      refine x_getR hO fl_RX0_28 hx0 dX0_addMean_64 ?_
      refine x_aload_n hO 0 rfl rfl dX0_addMean_67 ?_
      refine x_getI hO fl_RX0_15 hx0 dX0_addMean_68 ?_
      refine x_iconst hO (v := 4) (by decide) dX0_addMean_71 ?_
      refine x_imul hO dX0_addMean_72 ?_
      refine x_aload_n hO 0 rfl rfl dX0_addMean_73 ?_
      refine x_getI hO fl_RX0_9 hx0 dX0_addMean_74 ?_
      refine x_iadd hO dX0_addMean_77 ?_
      refine x_iconst hO (v := 1) (by decide) dX0_addMean_78 ?_
      refine x_isub hO dX0_addMean_79 ?_
      refine x_aload_n hO 0 rfl rfl dX0_addMean_80 ?_
      refine x_getI hO fl_RX0_15 hx0 dX0_addMean_81 ?_
      refine x_iast hO (gr_0_5 hx0) dX0_addMean_84 ?_
      refine x_aload_n hO 0 rfl rfl dX0_addMean_85 ?_
      refine x_dup_r hO dX0_addMean_86 ?_
      refine x_getI hO fl_RX0_15 hx0 dX0_addMean_87 ?_
      refine x_iconst hO (v := 1) (by decide) dX0_addMean_90 ?_
      refine x_iadd hO dX0_addMean_91 ?_
      refine x_putI hO fl_RX0_15 hx0 dX0_addMean_92 ?_
      refine x_bnd ?_
      generalize uI (uI r2 (GR x0 5) (nx ((((hI r2 x0 1) * ((4 : Int32))) + (hI r2 x0 0)) - ((1 : Int32)))) (hI r2 x0 1)) x0 1 ((hI (uI r2 (GR x0 5) (nx ((((hI r2 x0 1) * ((4 : Int32))) + (hI r2 x0 0)) - ((1 : Int32)))) (hI r2 x0 1)) x0 1) + ((1 : Int32))) = h3
      exact x_vret hO rfl dX0_addMean_95 (hR _)
theorem ok_X0_addMean (G : Gl) (h : Hp) (x0 : Nat) (x1 : Int32) (hx0 : Is x0 0) : CN G mX0_addMean [.ref (gb G + x0), .int x1] h ((F_X0_addMean h x0 x1).map (emHV)) := CN.fn pn_RX0 (Nat.le_of_ble_eq_true rfl) (fun Γ hG hO => by subst hG; exact go_X0_addMean hO h x0 x1 hx0 (fun _ q => q))
noncomputable def F_X11_count (h : Hp) (x0 : Nat) (x1 : Int32) (x2 : Int32) : Option (Hp × Int32) :=
  (F_X0_isMean h (GR (GR x0 2) 8) x1).bind (fun r1 => if r1 = 0 then (F_X11_refuse h x0 ((1 : Int32))).bind (fun r2 => some ((r2.1, r2.2))) else (F_X11_isColumn h x2).bind (fun r3 => if r3 = 0 then (F_X11_refuse h x0 ((1 : Int32))).bind (fun r6 => some ((r6.1, r6.2))) else (F_X2_howManyMean h (GR x0 2) x1 x2).bind (fun r4 => (F_X11_answer h x0 r4).bind (fun r5 => some ((r5.1, r5.2))))))
set_option maxHeartbeats 4000000 in
set_option maxRecDepth 100000 in
theorem go_X11_count {Γ : Cx} (hO : Ok Γ mX11_count) (h : Hp) (x0 : Nat) (x1 : Int32) (x2 : Int32) (hx0 : Is x0 11) {K : Hp × Int32 → Prop} (hR : ∀ r, K r → emHI r = tgt Γ) : EG Γ mX11_count 0 [(0, rf Γ x0), (1, .int x1), (2, .int x2)] [] h (F_X11_count h x0 x1 x2) K := by
  unfold F_X11_count
  refine x_aload_n hO 0 rfl rfl dX11_count_0 ?_
  refine x_getR hO fl_RX11_22 hx0 dX11_count_1 ?_
  refine x_getR hO fl_RX11_207 (gr_11_2 hx0) dX11_count_4 ?_
  refine x_iload_n hO 1 rfl rfl dX11_count_7 ?_
  refine y_PI (x_callV hO lv_RX11_239 (gr_2_8 (gr_11_2 hx0)) vc_0 (by decide) (As := [.int x1]) rfl (Nat.le_of_ble_eq_true rfl) (ok_X0_isMean (cG Γ) h (GR (GR x0 2) 8) x1 (gr_2_8 (gr_11_2 hx0))) dX11_count_8 rfl (Nat.le_of_ble_eq_true rfl)) (fun r1 => ?_)
  refine x_if_eq hO (tg := 21) dX11_count_11 (by decide) ?_ ?_
  · refine x_aload_n hO 0 rfl rfl dX11_count_21 ?_
    refine x_iconst hO (v := 1) (by decide) dX11_count_22 ?_
    refine y_HI (x_callV hO lv_RX11_119 hx0 vc_11 (by decide) (As := [.int ((1 : Int32))]) rfl (Nat.le_of_ble_eq_true rfl) (ok_X11_refuse (cG Γ) h x0 ((1 : Int32)) hx0) dX11_count_23 rfl (Nat.le_of_ble_eq_true rfl)) (fun r2 => ?_)
    exact x_iret hO rfl dX11_count_26 (hR _)
  · refine x_iload_n hO 2 rfl rfl dX11_count_14 ?_
    refine y_PI (x_callS hO lt_RX11_163 (As := [.int x2]) rfl (Nat.le_of_ble_eq_true rfl) (ok_X11_isColumn (cG Γ) h x2) dX11_count_15 rfl (Nat.le_of_ble_eq_true rfl)) (fun r3 => ?_)
    refine x_if_ne hO (tg := 27) dX11_count_18 (by decide) ?_ ?_
    · refine x_aload_n hO 0 rfl rfl dX11_count_27 ?_
      refine x_aload_n hO 0 rfl rfl dX11_count_28 ?_
      refine x_getR hO fl_RX11_22 hx0 dX11_count_29 ?_
      refine x_iload_n hO 1 rfl rfl dX11_count_32 ?_
      refine x_iload_n hO 2 rfl rfl dX11_count_33 ?_
      refine y_PI (x_callV hO lv_RX11_372 (gr_11_2 hx0) vc_2 (by decide) (As := [.int x1, .int x2]) rfl (Nat.le_of_ble_eq_true rfl) (ok_X2_howManyMean (cG Γ) h (GR x0 2) x1 x2 (gr_11_2 hx0)) dX11_count_34 rfl (Nat.le_of_ble_eq_true rfl)) (fun r4 => ?_)
      refine y_HI (x_callV hO lv_RX11_157 hx0 vc_11 (by decide) (As := [.int r4]) rfl (Nat.le_of_ble_eq_true rfl) (ok_X11_answer (cG Γ) h x0 r4 hx0) dX11_count_37 rfl (Nat.le_of_ble_eq_true rfl)) (fun r5 => ?_)
      exact x_iret hO rfl dX11_count_40 (hR _)
    · refine x_aload_n hO 0 rfl rfl dX11_count_21 ?_
      refine x_iconst hO (v := 1) (by decide) dX11_count_22 ?_
      refine y_HI (x_callV hO lv_RX11_119 hx0 vc_11 (by decide) (As := [.int ((1 : Int32))]) rfl (Nat.le_of_ble_eq_true rfl) (ok_X11_refuse (cG Γ) h x0 ((1 : Int32)) hx0) dX11_count_23 rfl (Nat.le_of_ble_eq_true rfl)) (fun r6 => ?_)
      exact x_iret hO rfl dX11_count_26 (hR _)
theorem ok_X11_count (G : Gl) (h : Hp) (x0 : Nat) (x1 : Int32) (x2 : Int32) (hx0 : Is x0 11) : CN G mX11_count [.ref (gb G + x0), .int x1, .int x2] h ((F_X11_count h x0 x1 x2).map (emHI)) := CN.fn pn_RX11 (Nat.le_of_ble_eq_true rfl) (fun Γ hG hO => by subst hG; exact go_X11_count hO h x0 x1 x2 hx0 (fun _ q => q))
noncomputable def F_X11_field (h : Hp) (x0 : Nat) (x1 : Int32) (x2 : Int32) (x3 : Int32) : Option (Hp × Int32) :=
  (F_X2_isCard h (GR x0 2) x1).bind (fun r1 => if r1 = 0 then (F_X11_refuse h x0 ((1 : Int32))).bind (fun r2 => some ((r2.1, r2.2))) else (F_X11_isField h x2 x3).bind (fun r3 => if r3 = 0 then (F_X11_refuse h x0 ((1 : Int32))).bind (fun r7 => some ((r7.1, r7.2))) else (F_X2_fieldOf h (GR x0 2) x1 x2 x3).bind (fun r4 => if r4 = ((-1 : Int32)) then (F_X11_refuse h x0 ((6 : Int32))).bind (fun r6 => some ((r6.1, r6.2))) else (F_X11_answer h x0 r4).bind (fun r5 => some ((r5.1, r5.2))))))
set_option maxHeartbeats 4000000 in
set_option maxRecDepth 100000 in
theorem go_X11_field {Γ : Cx} (hO : Ok Γ mX11_field) (h : Hp) (x0 : Nat) (x1 : Int32) (x2 : Int32) (x3 : Int32) (hx0 : Is x0 11) {K : Hp × Int32 → Prop} (hR : ∀ r, K r → emHI r = tgt Γ) : EG Γ mX11_field 0 [(0, rf Γ x0), (1, .int x1), (2, .int x2), (3, .int x3)] [] h (F_X11_field h x0 x1 x2 x3) K := by
  unfold F_X11_field
  refine x_aload_n hO 0 rfl rfl dX11_field_0 ?_
  refine x_getR hO fl_RX11_22 hx0 dX11_field_1 ?_
  refine x_iload_n hO 1 rfl rfl dX11_field_4 ?_
  refine y_PI (x_callV hO lv_RX11_160 (gr_11_2 hx0) vc_2 (by decide) (As := [.int x1]) rfl (Nat.le_of_ble_eq_true rfl) (ok_X2_isCard (cG Γ) h (GR x0 2) x1 (gr_11_2 hx0)) dX11_field_5 rfl (Nat.le_of_ble_eq_true rfl)) (fun r1 => ?_)
  refine x_if_eq hO (tg := 19) dX11_field_8 (by decide) ?_ ?_
  · refine x_aload_n hO 0 rfl rfl dX11_field_19 ?_
    refine x_iconst hO (v := 1) (by decide) dX11_field_20 ?_
    refine y_HI (x_callV hO lv_RX11_119 hx0 vc_11 (by decide) (As := [.int ((1 : Int32))]) rfl (Nat.le_of_ble_eq_true rfl) (ok_X11_refuse (cG Γ) h x0 ((1 : Int32)) hx0) dX11_field_21 rfl (Nat.le_of_ble_eq_true rfl)) (fun r2 => ?_)
    exact x_iret hO rfl dX11_field_24 (hR _)
  · refine x_iload_n hO 2 rfl rfl dX11_field_11 ?_
    refine x_iload_n hO 3 rfl rfl dX11_field_12 ?_
    refine y_PI (x_callS hO lt_RX11_277 (As := [.int x2, .int x3]) rfl (Nat.le_of_ble_eq_true rfl) (ok_X11_isField (cG Γ) h x2 x3) dX11_field_13 rfl (Nat.le_of_ble_eq_true rfl)) (fun r3 => ?_)
    refine x_if_ne hO (tg := 25) dX11_field_16 (by decide) ?_ ?_
    · refine x_aload_n hO 0 rfl rfl dX11_field_25 ?_
      refine x_getR hO fl_RX11_22 hx0 dX11_field_26 ?_
      refine x_iload_n hO 1 rfl rfl dX11_field_29 ?_
      refine x_iload_n hO 2 rfl rfl dX11_field_30 ?_
      refine x_iload_n hO 3 rfl rfl dX11_field_31 ?_
      refine y_PI (x_callV hO lv_RX11_280 (gr_11_2 hx0) vc_2 (by decide) (As := [.int x1, .int x2, .int x3]) rfl (Nat.le_of_ble_eq_true rfl) (ok_X2_fieldOf (cG Γ) h (GR x0 2) x1 x2 x3 (gr_11_2 hx0)) dX11_field_32 rfl (Nat.le_of_ble_eq_true rfl)) (fun r4 => ?_)
      refine x_istore hO [(4, .int r4), (0, rf Γ x0), (1, .int x1), (2, .int x2), (3, .int x3)] dX11_field_35 (by decide) rfl ?_
      refine x_iload hO 0 rfl dX11_field_37 ?_
      refine x_iconst hO (v := -1) (by decide) dX11_field_39 ?_
      refine x_icmp_ne hO (tg := 52) dX11_field_40 (by decide) ?_ ?_
      · refine x_aload_n hO 1 rfl rfl dX11_field_52 ?_
        refine x_iload hO 0 rfl dX11_field_53 ?_
        refine y_HI (x_callV hO lv_RX11_157 hx0 vc_11 (by decide) (As := [.int r4]) rfl (Nat.le_of_ble_eq_true rfl) (ok_X11_answer (cG Γ) h x0 r4 hx0) dX11_field_55 rfl (Nat.le_of_ble_eq_true rfl)) (fun r5 => ?_)
        exact x_iret hO rfl dX11_field_58 (hR _)
      · refine x_aload_n hO 1 rfl rfl dX11_field_43 ?_
        refine x_bipush hO (v := 6) (by decide) dX11_field_44 ?_
        refine y_HI (x_callV hO lv_RX11_119 hx0 vc_11 (by decide) (As := [.int ((6 : Int32))]) rfl (Nat.le_of_ble_eq_true rfl) (ok_X11_refuse (cG Γ) h x0 ((6 : Int32)) hx0) dX11_field_46 rfl (Nat.le_of_ble_eq_true rfl)) (fun r6 => ?_)
        refine x_goto hO (tg := 58) dX11_field_49 (by decide) ?_
        exact x_iret hO rfl dX11_field_58 (hR _)
    · refine x_aload_n hO 0 rfl rfl dX11_field_19 ?_
      refine x_iconst hO (v := 1) (by decide) dX11_field_20 ?_
      refine y_HI (x_callV hO lv_RX11_119 hx0 vc_11 (by decide) (As := [.int ((1 : Int32))]) rfl (Nat.le_of_ble_eq_true rfl) (ok_X11_refuse (cG Γ) h x0 ((1 : Int32)) hx0) dX11_field_21 rfl (Nat.le_of_ble_eq_true rfl)) (fun r7 => ?_)
      exact x_iret hO rfl dX11_field_24 (hR _)
theorem ok_X11_field (G : Gl) (h : Hp) (x0 : Nat) (x1 : Int32) (x2 : Int32) (x3 : Int32) (hx0 : Is x0 11) : CN G mX11_field [.ref (gb G + x0), .int x1, .int x2, .int x3] h ((F_X11_field h x0 x1 x2 x3).map (emHI)) := CN.fn pn_RX11 (Nat.le_of_ble_eq_true rfl) (fun Γ hG hO => by subst hG; exact go_X11_field hO h x0 x1 x2 x3 hx0 (fun _ q => q))
noncomputable def F_X11_holes (h : Hp) (x0 : Nat) (x1 : Int32) (x2 : Int32) (x3 : Int32) : Option (Hp × Int32) :=
  (F_X2_isCard h (GR x0 2) x1).bind (fun r1 => if r1 = 0 then (F_X11_deny h x0 ((1 : Int32))).bind (fun r2 => some ((r2.1, r2.2 &&& 1))) else (F_X11_isColumn h x2).bind (fun r3 => if r3 = 0 then (F_X11_deny h x0 ((1 : Int32))).bind (fun r4 => some ((r4.1, r4.2 &&& 1))) else if x3 < 0 then (F_X11_deny h x0 ((1 : Int32))).bind (fun r5 => some ((r5.1, r5.2 &&& 1))) else if x3 ≤ ((4095 : Int32)) then (F_X2_setHoles h (GR x0 2) x1 x2 x3).bind (fun r6 => (F_X11_agree r6 x0).bind (fun r7 => some ((r7.1, r7.2 &&& 1)))) else (F_X11_deny h x0 ((1 : Int32))).bind (fun r8 => some ((r8.1, r8.2 &&& 1)))))
set_option maxHeartbeats 4000000 in
set_option maxRecDepth 100000 in
theorem go_X11_holes {Γ : Cx} (hO : Ok Γ mX11_holes) (h : Hp) (x0 : Nat) (x1 : Int32) (x2 : Int32) (x3 : Int32) (hx0 : Is x0 11) {K : Hp × Int32 → Prop} (hR : ∀ r, K r → emHI r = tgt Γ) : EG Γ mX11_holes 0 [(0, rf Γ x0), (1, .int x1), (2, .int x2), (3, .int x3)] [] h (F_X11_holes h x0 x1 x2 x3) K := by
  unfold F_X11_holes
  refine x_aload_n hO 0 rfl rfl dX11_holes_0 ?_
  refine x_getR hO fl_RX11_22 hx0 dX11_holes_1 ?_
  refine x_iload_n hO 1 rfl rfl dX11_holes_4 ?_
  refine y_PI (x_callV hO lv_RX11_160 (gr_11_2 hx0) vc_2 (by decide) (As := [.int x1]) rfl (Nat.le_of_ble_eq_true rfl) (ok_X2_isCard (cG Γ) h (GR x0 2) x1 (gr_11_2 hx0)) dX11_holes_5 rfl (Nat.le_of_ble_eq_true rfl)) (fun r1 => ?_)
  refine x_if_eq hO (tg := 29) dX11_holes_8 (by decide) ?_ ?_
  · refine x_aload_n hO 0 rfl rfl dX11_holes_29 ?_
    refine x_iconst hO (v := 1) (by decide) dX11_holes_30 ?_
    refine y_HI (x_callV hO lv_RX11_100 hx0 vc_11 (by decide) (As := [.int ((1 : Int32))]) rfl (Nat.le_of_ble_eq_true rfl) (ok_X11_deny (cG Γ) h x0 ((1 : Int32)) hx0) dX11_holes_31 rfl (Nat.le_of_ble_eq_true rfl)) (fun r2 => ?_)
    exact x_zret hO rfl dX11_holes_34 (hR _)
  · refine x_iload_n hO 2 rfl rfl dX11_holes_11 ?_
    refine y_PI (x_callS hO lt_RX11_163 (As := [.int x2]) rfl (Nat.le_of_ble_eq_true rfl) (ok_X11_isColumn (cG Γ) h x2) dX11_holes_12 rfl (Nat.le_of_ble_eq_true rfl)) (fun r3 => ?_)
    refine x_if_eq hO (tg := 29) dX11_holes_15 (by decide) ?_ ?_
    · refine x_aload_n hO 0 rfl rfl dX11_holes_29 ?_
      refine x_iconst hO (v := 1) (by decide) dX11_holes_30 ?_
      refine y_HI (x_callV hO lv_RX11_100 hx0 vc_11 (by decide) (As := [.int ((1 : Int32))]) rfl (Nat.le_of_ble_eq_true rfl) (ok_X11_deny (cG Γ) h x0 ((1 : Int32)) hx0) dX11_holes_31 rfl (Nat.le_of_ble_eq_true rfl)) (fun r4 => ?_)
      exact x_zret hO rfl dX11_holes_34 (hR _)
    · refine x_iload_n hO 3 rfl rfl dX11_holes_18 ?_
      refine x_if_lt hO (tg := 29) dX11_holes_19 (by decide) ?_ ?_
      · refine x_aload_n hO 0 rfl rfl dX11_holes_29 ?_
        refine x_iconst hO (v := 1) (by decide) dX11_holes_30 ?_
        refine y_HI (x_callV hO lv_RX11_100 hx0 vc_11 (by decide) (As := [.int ((1 : Int32))]) rfl (Nat.le_of_ble_eq_true rfl) (ok_X11_deny (cG Γ) h x0 ((1 : Int32)) hx0) dX11_holes_31 rfl (Nat.le_of_ble_eq_true rfl)) (fun r5 => ?_)
        exact x_zret hO rfl dX11_holes_34 (hR _)
      · refine x_iload_n hO 3 rfl rfl dX11_holes_22 ?_
        refine x_sipush hO (v := 4095) (by decide) dX11_holes_23 ?_
        refine x_icmp_le hO (tg := 35) dX11_holes_26 (by decide) ?_ ?_
        · refine x_aload_n hO 0 rfl rfl dX11_holes_35 ?_
          refine x_getR hO fl_RX11_22 hx0 dX11_holes_36 ?_
          refine x_iload_n hO 1 rfl rfl dX11_holes_39 ?_
          refine x_iload_n hO 2 rfl rfl dX11_holes_40 ?_
          refine x_iload_n hO 3 rfl rfl dX11_holes_41 ?_
          refine y_HV (x_callV hO lv_RX11_166 (gr_11_2 hx0) vc_2 (by decide) (As := [.int x1, .int x2, .int x3]) rfl (Nat.le_of_ble_eq_true rfl) (ok_X2_setHoles (cG Γ) h (GR x0 2) x1 x2 x3 (gr_11_2 hx0)) dX11_holes_42 rfl (Nat.le_of_ble_eq_true rfl)) (fun r6 => ?_)
          refine x_aload_n hO 0 rfl rfl dX11_holes_45 ?_
          refine y_HI (x_callV hO lv_RX11_107 hx0 vc_11 (by decide) (As := []) rfl (Nat.le_of_ble_eq_true rfl) (ok_X11_agree (cG Γ) r6 x0 hx0) dX11_holes_46 rfl (Nat.le_of_ble_eq_true rfl)) (fun r7 => ?_)
          exact x_zret hO rfl dX11_holes_49 (hR _)
        · refine x_aload_n hO 0 rfl rfl dX11_holes_29 ?_
          refine x_iconst hO (v := 1) (by decide) dX11_holes_30 ?_
          refine y_HI (x_callV hO lv_RX11_100 hx0 vc_11 (by decide) (As := [.int ((1 : Int32))]) rfl (Nat.le_of_ble_eq_true rfl) (ok_X11_deny (cG Γ) h x0 ((1 : Int32)) hx0) dX11_holes_31 rfl (Nat.le_of_ble_eq_true rfl)) (fun r8 => ?_)
          exact x_zret hO rfl dX11_holes_34 (hR _)
theorem ok_X11_holes (G : Gl) (h : Hp) (x0 : Nat) (x1 : Int32) (x2 : Int32) (x3 : Int32) (hx0 : Is x0 11) : CN G mX11_holes [.ref (gb G + x0), .int x1, .int x2, .int x3] h ((F_X11_holes h x0 x1 x2 x3).map (emHI)) := CN.fn pn_RX11 (Nat.le_of_ble_eq_true rfl) (fun Γ hG hO => by subst hG; exact go_X11_holes hO h x0 x1 x2 x3 hx0 (fun _ q => q))
