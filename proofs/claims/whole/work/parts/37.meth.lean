noncomputable def F_X11_sum (h : Hp) (x0 : Nat) (x1 : Int32) (x2 : Int32) (x3 : Int32) (x4 : Int32) : Option (Hp × Int32) :=
  (F_X11_isField h x1 x2).bind (fun r1 => if r1 = 0 then (F_X11_refuse h x0 ((1 : Int32))).bind (fun r2 => some ((r2.1, r2.2))) else (F_X11_isWheel h x3).bind (fun r3 => if r3 = 0 then (F_X11_refuse h x0 ((1 : Int32))).bind (fun r4 => some ((r4.1, r4.2))) else if x4 < 0 then (F_X11_refuse h x0 ((1 : Int32))).bind (fun r5 => some ((r5.1, r5.2))) else if x4 ≤ ((1 : Int32)) then (F_X2_wholeSum h (GR x0 2) x1 x2).bind (fun r6 => (F_X11_tenTo h x3).bind (fun r7 => if x4 = 0 then gd (!decide (r7 = 0)) ((F_X11_answer h x0 (r6 - r6 / r7 * r7)).bind (fun r9 => some ((r9.1, r9.2)))) else gd (!decide (r7 = 0)) ((F_X11_answer h x0 (r6 / r7)).bind (fun r8 => some ((r8.1, r8.2)))))) else (F_X11_refuse h x0 ((1 : Int32))).bind (fun r10 => some ((r10.1, r10.2)))))
set_option maxHeartbeats 4000000 in
set_option maxRecDepth 100000 in
theorem go_X11_sum {Γ : Cx} (hO : Ok Γ mX11_sum) (h : Hp) (x0 : Nat) (x1 : Int32) (x2 : Int32) (x3 : Int32) (x4 : Int32) (hx0 : Is x0 11) {K : Hp × Int32 → Prop} (hR : ∀ r, K r → emHI r = tgt Γ) : EG Γ mX11_sum 0 [(0, rf Γ x0), (1, .int x1), (2, .int x2), (3, .int x3), (4, .int x4)] [] h (F_X11_sum h x0 x1 x2 x3 x4) K := by
  unfold F_X11_sum
  refine x_iload_n hO 1 rfl rfl dX11_sum_0 ?_
  refine x_iload_n hO 2 rfl rfl dX11_sum_1 ?_
  refine y_PI (x_callS hO lt_RX11_277 (As := [.int x1, .int x2]) rfl (Nat.le_of_ble_eq_true rfl) (ok_X11_isField (cG Γ) h x1 x2) dX11_sum_2 rfl (Nat.le_of_ble_eq_true rfl)) (fun r1 => ?_)
  refine x_if_eq hO (tg := 26) dX11_sum_5 (by decide) ?_ ?_
  · refine x_aload_n hO 0 rfl rfl dX11_sum_26 ?_
    refine x_iconst hO (v := 1) (by decide) dX11_sum_27 ?_
    refine y_HI (x_callV hO lv_RX11_119 hx0 vc_11 (by decide) (As := [.int ((1 : Int32))]) rfl (Nat.le_of_ble_eq_true rfl) (ok_X11_refuse (cG Γ) h x0 ((1 : Int32)) hx0) dX11_sum_28 rfl (Nat.le_of_ble_eq_true rfl)) (fun r2 => ?_)
    exact x_iret hO rfl dX11_sum_31 (hR _)
  · refine x_iload_n hO 3 rfl rfl dX11_sum_8 ?_
    refine y_PI (x_callS hO lt_RX11_284 (As := [.int x3]) rfl (Nat.le_of_ble_eq_true rfl) (ok_X11_isWheel (cG Γ) h x3) dX11_sum_9 rfl (Nat.le_of_ble_eq_true rfl)) (fun r3 => ?_)
    refine x_if_eq hO (tg := 26) dX11_sum_12 (by decide) ?_ ?_
    · refine x_aload_n hO 0 rfl rfl dX11_sum_26 ?_
      refine x_iconst hO (v := 1) (by decide) dX11_sum_27 ?_
      refine y_HI (x_callV hO lv_RX11_119 hx0 vc_11 (by decide) (As := [.int ((1 : Int32))]) rfl (Nat.le_of_ble_eq_true rfl) (ok_X11_refuse (cG Γ) h x0 ((1 : Int32)) hx0) dX11_sum_28 rfl (Nat.le_of_ble_eq_true rfl)) (fun r4 => ?_)
      exact x_iret hO rfl dX11_sum_31 (hR _)
    · refine x_iload hO 4 rfl dX11_sum_15 ?_
      refine x_if_lt hO (tg := 26) dX11_sum_17 (by decide) ?_ ?_
      · refine x_aload_n hO 0 rfl rfl dX11_sum_26 ?_
        refine x_iconst hO (v := 1) (by decide) dX11_sum_27 ?_
        refine y_HI (x_callV hO lv_RX11_119 hx0 vc_11 (by decide) (As := [.int ((1 : Int32))]) rfl (Nat.le_of_ble_eq_true rfl) (ok_X11_refuse (cG Γ) h x0 ((1 : Int32)) hx0) dX11_sum_28 rfl (Nat.le_of_ble_eq_true rfl)) (fun r5 => ?_)
        exact x_iret hO rfl dX11_sum_31 (hR _)
      · refine x_iload hO 4 rfl dX11_sum_20 ?_
        refine x_iconst hO (v := 1) (by decide) dX11_sum_22 ?_
        refine x_icmp_le hO (tg := 32) dX11_sum_23 (by decide) ?_ ?_
        · refine x_aload_n hO 0 rfl rfl dX11_sum_32 ?_
          refine x_getR hO fl_RX11_22 hx0 dX11_sum_33 ?_
          refine x_iload_n hO 1 rfl rfl dX11_sum_36 ?_
          refine x_iload_n hO 2 rfl rfl dX11_sum_37 ?_
          refine y_PI (x_callV hO lv_RX11_287 (gr_11_2 hx0) vc_2 (by decide) (As := [.int x1, .int x2]) rfl (Nat.le_of_ble_eq_true rfl) (ok_X2_wholeSum (cG Γ) h (GR x0 2) x1 x2 (gr_11_2 hx0)) dX11_sum_38 rfl (Nat.le_of_ble_eq_true rfl)) (fun r6 => ?_)
          refine x_istore hO [(5, .int r6), (0, rf Γ x0), (1, .int x1), (2, .int x2), (3, .int x3), (4, .int x4)] dX11_sum_41 (by decide) rfl ?_
          refine x_iload_n hO 4 rfl rfl dX11_sum_43 ?_
          refine y_PI (x_callS hO lt_RX11_290 (As := [.int x3]) rfl (Nat.le_of_ble_eq_true rfl) (ok_X11_tenTo (cG Γ) h x3) dX11_sum_44 rfl (Nat.le_of_ble_eq_true rfl)) (fun r7 => ?_)
          refine x_istore hO [(6, .int r7), (5, .int r6), (0, rf Γ x0), (1, .int x1), (2, .int x2), (3, .int x3), (4, .int x4)] dX11_sum_47 (by decide) rfl ?_
          refine x_aload_n hO 2 rfl rfl dX11_sum_49 ?_
          refine x_iload hO 6 rfl dX11_sum_50 ?_
          refine x_if_ne hO (tg := 63) dX11_sum_52 (by decide) ?_ ?_
          · refine x_iload hO 1 rfl dX11_sum_63 ?_
            refine x_iload hO 0 rfl dX11_sum_65 ?_
            refine x_idiv hO dX11_sum_67 ?_
            refine y_HI (x_callV hO lv_RX11_157 hx0 vc_11 (by decide) (As := [.int (r6 / r7)]) rfl (Nat.le_of_ble_eq_true rfl) (ok_X11_answer (cG Γ) h x0 (r6 / r7) hx0) dX11_sum_68 rfl (Nat.le_of_ble_eq_true rfl)) (fun r8 => ?_)
            exact x_iret hO rfl dX11_sum_71 (hR _)
          · refine x_iload hO 1 rfl dX11_sum_55 ?_
            refine x_iload hO 0 rfl dX11_sum_57 ?_
            refine x_irem hO dX11_sum_59 ?_
            refine x_goto hO (tg := 68) dX11_sum_60 (by decide) ?_
            refine y_HI (x_callV hO lv_RX11_157 hx0 vc_11 (by decide) (As := [.int (r6 - r6 / r7 * r7)]) rfl (Nat.le_of_ble_eq_true rfl) (ok_X11_answer (cG Γ) h x0 (r6 - r6 / r7 * r7) hx0) dX11_sum_68 rfl (Nat.le_of_ble_eq_true rfl)) (fun r9 => ?_)
            exact x_iret hO rfl dX11_sum_71 (hR _)
        · refine x_aload_n hO 0 rfl rfl dX11_sum_26 ?_
          refine x_iconst hO (v := 1) (by decide) dX11_sum_27 ?_
          refine y_HI (x_callV hO lv_RX11_119 hx0 vc_11 (by decide) (As := [.int ((1 : Int32))]) rfl (Nat.le_of_ble_eq_true rfl) (ok_X11_refuse (cG Γ) h x0 ((1 : Int32)) hx0) dX11_sum_28 rfl (Nat.le_of_ble_eq_true rfl)) (fun r10 => ?_)
          exact x_iret hO rfl dX11_sum_31 (hR _)
theorem ok_X11_sum (G : Gl) (h : Hp) (x0 : Nat) (x1 : Int32) (x2 : Int32) (x3 : Int32) (x4 : Int32) (hx0 : Is x0 11) : CN G mX11_sum [.ref (gb G + x0), .int x1, .int x2, .int x3, .int x4] h ((F_X11_sum h x0 x1 x2 x3 x4).map (emHI)) := CN.fn pn_RX11 (Nat.le_of_ble_eq_true rfl) (fun Γ hG hO => by subst hG; exact go_X11_sum hO h x0 x1 x2 x3 x4 hx0 (fun _ q => q))
noncomputable def F_X12_field (h : Hp) (x0 : Nat) (x1 : Int32) (x2 : Int32) (x3 : Int32) : Option (Hp × Int32) :=
  (F_X12_isCard h x0 x1).bind (fun r1 => if r1 = 0 then (F_X12_refuse h x0 ((1 : Int32))).bind (fun r2 => some ((r2.1, r2.2))) else (F_X12_isField h x2 x3).bind (fun r3 => if r3 = 0 then (F_X12_refuse h x0 ((1 : Int32))).bind (fun r7 => some ((r7.1, r7.2))) else (F_X12_numberOf h x0 x1 x2 x3).bind (fun r4 => if r4 = ((-1 : Int32)) then (F_X12_refuse h x0 ((6 : Int32))).bind (fun r6 => some ((r6.1, r6.2))) else (F_X12_gives h x0 r4).bind (fun r5 => some ((r5.1, r5.2))))))
set_option maxHeartbeats 4000000 in
set_option maxRecDepth 100000 in
theorem go_X12_field {Γ : Cx} (hO : Ok Γ mX12_field) (h : Hp) (x0 : Nat) (x1 : Int32) (x2 : Int32) (x3 : Int32) (hx0 : Is x0 12) {K : Hp × Int32 → Prop} (hR : ∀ r, K r → emHI r = tgt Γ) : EG Γ mX12_field 0 [(0, rf Γ x0), (1, .int x1), (2, .int x2), (3, .int x3)] [] h (F_X12_field h x0 x1 x2 x3) K := by
  unfold F_X12_field
  refine x_aload_n hO 0 rfl rfl dX12_field_0 ?_
  refine x_iload_n hO 1 rfl rfl dX12_field_1 ?_
  refine y_PI (x_callV hO lv_RX12_149 hx0 vc_12 (by decide) (As := [.int x1]) rfl (Nat.le_of_ble_eq_true rfl) (ok_X12_isCard (cG Γ) h x0 x1 hx0) dX12_field_2 rfl (Nat.le_of_ble_eq_true rfl)) (fun r1 => ?_)
  refine x_if_eq hO (tg := 16) dX12_field_5 (by decide) ?_ ?_
  · refine x_aload_n hO 0 rfl rfl dX12_field_16 ?_
    refine x_iconst hO (v := 1) (by decide) dX12_field_17 ?_
    refine y_HI (x_callV hO lv_RX12_137 hx0 vc_12 (by decide) (As := [.int ((1 : Int32))]) rfl (Nat.le_of_ble_eq_true rfl) (ok_X12_refuse (cG Γ) h x0 ((1 : Int32)) hx0) dX12_field_18 rfl (Nat.le_of_ble_eq_true rfl)) (fun r2 => ?_)
    exact x_iret hO rfl dX12_field_21 (hR _)
  · refine x_iload_n hO 2 rfl rfl dX12_field_8 ?_
    refine x_iload_n hO 3 rfl rfl dX12_field_9 ?_
    refine y_PI (x_callS hO lt_RX12_317 (As := [.int x2, .int x3]) rfl (Nat.le_of_ble_eq_true rfl) (ok_X12_isField (cG Γ) h x2 x3) dX12_field_10 rfl (Nat.le_of_ble_eq_true rfl)) (fun r3 => ?_)
    refine x_if_ne hO (tg := 22) dX12_field_13 (by decide) ?_ ?_
    · refine x_aload_n hO 0 rfl rfl dX12_field_22 ?_
      refine x_iload_n hO 1 rfl rfl dX12_field_23 ?_
      refine x_iload_n hO 2 rfl rfl dX12_field_24 ?_
      refine x_iload_n hO 3 rfl rfl dX12_field_25 ?_
      refine y_PI (x_callV hO lv_RX12_321 hx0 vc_12 (by decide) (As := [.int x1, .int x2, .int x3]) rfl (Nat.le_of_ble_eq_true rfl) (ok_X12_numberOf (cG Γ) h x0 x1 x2 x3 hx0) dX12_field_26 rfl (Nat.le_of_ble_eq_true rfl)) (fun r4 => ?_)
      refine x_istore hO [(4, .int r4), (0, rf Γ x0), (1, .int x1), (2, .int x2), (3, .int x3)] dX12_field_29 (by decide) rfl ?_
      refine x_iload hO 0 rfl dX12_field_31 ?_
      refine x_iconst hO (v := -1) (by decide) dX12_field_33 ?_
      refine x_icmp_ne hO (tg := 46) dX12_field_34 (by decide) ?_ ?_
      · refine x_aload_n hO 1 rfl rfl dX12_field_46 ?_
        refine x_iload hO 0 rfl dX12_field_47 ?_
        refine y_HI (x_callV hO lv_RX12_146 hx0 vc_12 (by decide) (As := [.int r4]) rfl (Nat.le_of_ble_eq_true rfl) (ok_X12_gives (cG Γ) h x0 r4 hx0) dX12_field_49 rfl (Nat.le_of_ble_eq_true rfl)) (fun r5 => ?_)
        exact x_iret hO rfl dX12_field_52 (hR _)
      · refine x_aload_n hO 1 rfl rfl dX12_field_37 ?_
        refine x_bipush hO (v := 6) (by decide) dX12_field_38 ?_
        refine y_HI (x_callV hO lv_RX12_137 hx0 vc_12 (by decide) (As := [.int ((6 : Int32))]) rfl (Nat.le_of_ble_eq_true rfl) (ok_X12_refuse (cG Γ) h x0 ((6 : Int32)) hx0) dX12_field_40 rfl (Nat.le_of_ble_eq_true rfl)) (fun r6 => ?_)
        refine x_goto hO (tg := 52) dX12_field_43 (by decide) ?_
        exact x_iret hO rfl dX12_field_52 (hR _)
    · refine x_aload_n hO 0 rfl rfl dX12_field_16 ?_
      refine x_iconst hO (v := 1) (by decide) dX12_field_17 ?_
      refine y_HI (x_callV hO lv_RX12_137 hx0 vc_12 (by decide) (As := [.int ((1 : Int32))]) rfl (Nat.le_of_ble_eq_true rfl) (ok_X12_refuse (cG Γ) h x0 ((1 : Int32)) hx0) dX12_field_18 rfl (Nat.le_of_ble_eq_true rfl)) (fun r7 => ?_)
      exact x_iret hO rfl dX12_field_21 (hR _)
theorem ok_X12_field (G : Gl) (h : Hp) (x0 : Nat) (x1 : Int32) (x2 : Int32) (x3 : Int32) (hx0 : Is x0 12) : CN G mX12_field [.ref (gb G + x0), .int x1, .int x2, .int x3] h ((F_X12_field h x0 x1 x2 x3).map (emHI)) := CN.fn pn_RX12 (Nat.le_of_ble_eq_true rfl) (fun Γ hG hO => by subst hG; exact go_X12_field hO h x0 x1 x2 x3 hx0 (fun _ q => q))
noncomputable def B_X12_inksOf_6 (h : Hp) (x0 : Nat) (x1 : Int32) (x2 : Int32) (x3 : Int32) (x4 : Int32) (x5 : Int32) : Option ((Int32 × Int32) ⊕ (Int32)) :=
  gd (ib ((0 : Int32)) (LEN (GR x0 0))) (if (hI h (GR x0 0) (nx ((0 : Int32)))) ≤ x5 then some (.inr x4) else (F_X12_ofCard h x0 x5 ((9 : Int32))).bind (fun r1 => if r1 = ((-1 : Int32)) then some (.inl (x4, x5 + (1 : Int32))) else (F_X12_numberOf h x0 x5 x2 x3).bind (fun r2 => if r2 = x1 then (F_X12_ofCard h x0 x5 ((9 : Int32))).bind (fun r3 => some (.inl (x4 ||| (((1 : Int32)) <<< (r3 &&& 31)), x5 + (1 : Int32)))) else some (.inl (x4, x5 + (1 : Int32))))))
noncomputable def L_X12_inksOf_6 (h : Hp) (x0 : Nat) (x1 : Int32) (x2 : Int32) (x3 : Int32) (x4 : Int32) (x5 : Int32) : Option (Int32) := iterW (fun s : Int32 × Int32 => B_X12_inksOf_6 h x0 x1 x2 x3 s.1 s.2) (x4, x5)
set_option maxHeartbeats 4000000 in
set_option maxRecDepth 100000 in
theorem go_X12_inksOf_B6 {Γ : Cx} (hO : Ok Γ mX12_inksOf) (h : Hp) (x0 : Nat) (x1 : Int32) (x2 : Int32) (x3 : Int32) (x4 : Int32) (x5 : Int32) (hx0 : Is x0 12) {K : (Int32 × Int32) ⊕ (Int32) → Prop} (hC : ∀ (x4 : Int32) (x5 : Int32), K (.inl (x4, x5)) → EW Γ mX12_inksOf 6 [(0, rf Γ x0), (1, .int x1), (2, .int x2), (3, .int x3), (4, .int x4), (5, .int x5)] [] h) (hR : ∀ r, K (.inr r) → emPI h r = tgt Γ) : EG Γ mX12_inksOf 6 [(0, rf Γ x0), (1, .int x1), (2, .int x2), (3, .int x3), (4, .int x4), (5, .int x5)] [] h (B_X12_inksOf_6 h x0 x1 x2 x3 x4 x5) K := by
  unfold B_X12_inksOf_6
  refine x_iload hO 5 rfl dX12_inksOf_6 ?_
  refine x_aload_n hO 0 rfl rfl dX12_inksOf_8 ?_
  refine x_getR hO fl_RX12_7 hx0 dX12_inksOf_9 ?_
  refine x_iconst hO (v := 0) (by decide) dX12_inksOf_12 ?_
  refine x_iald hO (gr_12_0 hx0) dX12_inksOf_13 ?_
  refine x_icmp_ge hO (tg := 62) dX12_inksOf_14 (by decide) ?_ ?_
  · refine x_iload hO 4 rfl dX12_inksOf_62 ?_
    exact x_iret hO rfl dX12_inksOf_64 (hR _)
  · refine x_aload_n hO 0 rfl rfl dX12_inksOf_17 ?_
    refine x_iload hO 5 rfl dX12_inksOf_18 ?_
    refine x_bipush hO (v := 9) (by decide) dX12_inksOf_20 ?_
    refine y_PI (x_callV hO lv_RX12_130 hx0 vc_12 (by decide) (As := [.int x5, .int ((9 : Int32))]) rfl (Nat.le_of_ble_eq_true rfl) (ok_X12_ofCard (cG Γ) h x0 x5 ((9 : Int32)) hx0) dX12_inksOf_22 rfl (Nat.le_of_ble_eq_true rfl)) (fun r1 => ?_)
    refine x_iconst hO (v := -1) (by decide) dX12_inksOf_25 ?_
    refine x_icmp_eq hO (tg := 56) dX12_inksOf_26 (by decide) ?_ ?_
    · refine x_iinc hO 5 (v := 1) [(5, .int (x5 + (1 : Int32))), (0, rf Γ x0), (1, .int x1), (2, .int x2), (3, .int x3), (4, .int x4)] dX12_inksOf_56 rfl (by decide) (by decide) rfl ?_
      refine x_goto hO (tg := 6) dX12_inksOf_59 (by decide) ?_
      exact x_leafs [1, 2, 3, 4, 5, 0] rfl (hC x4 (x5 + (1 : Int32)))
    · refine x_aload_n hO 0 rfl rfl dX12_inksOf_29 ?_
      refine x_iload hO 5 rfl dX12_inksOf_30 ?_
      refine x_iload_n hO 2 rfl rfl dX12_inksOf_32 ?_
      refine x_iload_n hO 3 rfl rfl dX12_inksOf_33 ?_
      refine y_PI (x_callV hO lv_RX12_321 hx0 vc_12 (by decide) (As := [.int x5, .int x2, .int x3]) rfl (Nat.le_of_ble_eq_true rfl) (ok_X12_numberOf (cG Γ) h x0 x5 x2 x3 hx0) dX12_inksOf_34 rfl (Nat.le_of_ble_eq_true rfl)) (fun r2 => ?_)
      refine x_iload_n hO 1 rfl rfl dX12_inksOf_37 ?_
      refine x_icmp_ne hO (tg := 56) dX12_inksOf_38 (by decide) ?_ ?_
      · refine x_iinc hO 5 (v := 1) [(5, .int (x5 + (1 : Int32))), (0, rf Γ x0), (1, .int x1), (2, .int x2), (3, .int x3), (4, .int x4)] dX12_inksOf_56 rfl (by decide) (by decide) rfl ?_
        refine x_goto hO (tg := 6) dX12_inksOf_59 (by decide) ?_
        exact x_leafs [1, 2, 3, 4, 5, 0] rfl (hC x4 (x5 + (1 : Int32)))
      · refine x_iload hO 4 rfl dX12_inksOf_41 ?_
        refine x_iconst hO (v := 1) (by decide) dX12_inksOf_43 ?_
        refine x_aload_n hO 0 rfl rfl dX12_inksOf_44 ?_
        refine x_iload hO 5 rfl dX12_inksOf_45 ?_
        refine x_bipush hO (v := 9) (by decide) dX12_inksOf_47 ?_
        refine y_PI (x_callV hO lv_RX12_130 hx0 vc_12 (by decide) (As := [.int x5, .int ((9 : Int32))]) rfl (Nat.le_of_ble_eq_true rfl) (ok_X12_ofCard (cG Γ) h x0 x5 ((9 : Int32)) hx0) dX12_inksOf_49 rfl (Nat.le_of_ble_eq_true rfl)) (fun r3 => ?_)
        refine x_ishl hO dX12_inksOf_52 ?_
        refine x_ior hO dX12_inksOf_53 ?_
        refine x_istore hO [(4, .int (x4 ||| (((1 : Int32)) <<< (r3 &&& 31)))), (0, rf Γ x0), (1, .int x1), (2, .int x2), (3, .int x3), (5, .int x5)] dX12_inksOf_54 (by decide) rfl ?_
        refine x_iinc hO 5 (v := 1) [(5, .int (x5 + (1 : Int32))), (4, .int (x4 ||| (((1 : Int32)) <<< (r3 &&& 31)))), (0, rf Γ x0), (1, .int x1), (2, .int x2), (3, .int x3)] dX12_inksOf_56 rfl (by decide) (by decide) rfl ?_
        refine x_goto hO (tg := 6) dX12_inksOf_59 (by decide) ?_
        exact x_leafs [2, 3, 4, 5, 1, 0] rfl (hC (x4 ||| (((1 : Int32)) <<< (r3 &&& 31))) (x5 + (1 : Int32)))
set_option maxHeartbeats 4000000 in
set_option maxRecDepth 100000 in
theorem go_X12_inksOf_L6 {Γ : Cx} (hO : Ok Γ mX12_inksOf) (h : Hp) (x0 : Nat) (x1 : Int32) (x2 : Int32) (x3 : Int32) (x4 : Int32) (x5 : Int32) (hx0 : Is x0 12) {K : Int32 → Prop} (hR : ∀ r, K (r) → emPI h r = tgt Γ) : EG Γ mX12_inksOf 6 [(0, rf Γ x0), (1, .int x1), (2, .int x2), (3, .int x3), (4, .int x4), (5, .int x5)] [] h (L_X12_inksOf_6 h x0 x1 x2 x3 x4 x5) K := by
  have q := x_loop (Γ := Γ) (M := mX12_inksOf) (pc := 6) (B := fun s : Int32 × Int32 => B_X12_inksOf_6 h x0 x1 x2 x3 s.1 s.2) (lvf := fun s => [(0, rf Γ x0), (1, .int x1), (2, .int x2), (3, .int x3), (4, .int s.1), (5, .int s.2)]) (hf := fun s => h) (Ky := K) (fun s => go_X12_inksOf_B6 hO h x0 x1 x2 x3 s.1 s.2 hx0 (fun _ _ => id) hR) (x4, x5)
  exact q
noncomputable def F_X12_inksOf (h : Hp) (x0 : Nat) (x1 : Int32) (x2 : Int32) (x3 : Int32) : Option (Int32) :=
  L_X12_inksOf_6 h x0 x1 x2 x3 ((0 : Int32)) ((0 : Int32))
set_option maxHeartbeats 4000000 in
set_option maxRecDepth 100000 in
theorem go_X12_inksOf {Γ : Cx} (hO : Ok Γ mX12_inksOf) (h : Hp) (x0 : Nat) (x1 : Int32) (x2 : Int32) (x3 : Int32) (hx0 : Is x0 12) {K : Int32 → Prop} (hR : ∀ r, K r → emPI h r = tgt Γ) : EG Γ mX12_inksOf 0 [(0, rf Γ x0), (1, .int x1), (2, .int x2), (3, .int x3)] [] h (F_X12_inksOf h x0 x1 x2 x3) K := by
  unfold F_X12_inksOf
  refine x_iconst hO (v := 0) (by decide) dX12_inksOf_0 ?_
  refine x_istore hO [(4, .int ((0 : Int32))), (0, rf Γ x0), (1, .int x1), (2, .int x2), (3, .int x3)] dX12_inksOf_1 (by decide) rfl ?_
  refine x_iconst hO (v := 0) (by decide) dX12_inksOf_3 ?_
  refine x_istore hO [(5, .int ((0 : Int32))), (4, .int ((0 : Int32))), (0, rf Γ x0), (1, .int x1), (2, .int x2), (3, .int x3)] dX12_inksOf_4 (by decide) rfl ?_
  exact x_sub [2, 3, 4, 5, 1, 0] rfl (go_X12_inksOf_L6 hO h x0 x1 x2 x3 ((0 : Int32)) ((0 : Int32)) hx0 hR)
theorem ok_X12_inksOf (G : Gl) (h : Hp) (x0 : Nat) (x1 : Int32) (x2 : Int32) (x3 : Int32) (hx0 : Is x0 12) : CN G mX12_inksOf [.ref (gb G + x0), .int x1, .int x2, .int x3] h ((F_X12_inksOf h x0 x1 x2 x3).map (emPI h)) := CN.fn pn_RX12 (Nat.le_of_ble_eq_true rfl) (fun Γ hG hO => by subst hG; exact go_X12_inksOf hO h x0 x1 x2 x3 hx0 (fun _ q => q))
noncomputable def B_X12_isOrdered_14 (h : Hp) (x0 : Nat) (x1 : Int32) (x2 : Int32) : Option ((Int32) ⊕ (Int32)) :=
  if (hI h x0 30) ≤ x2 then some (.inr x2) else gd (ib x1 (LEN (GR x0 25))) ((F_X12_itemOf h x0 (hI h (GR x0 25) (nx x1)) x2).bind (fun r1 => gd (ib (x1 - ((1 : Int32))) (LEN (GR x0 25))) ((F_X12_itemOf h x0 (hI h (GR x0 25) (nx (x1 - ((1 : Int32))))) x2).bind (fun r2 => if r1 = r2 then some (.inl (x2 + (1 : Int32))) else some (.inr x2)))))
noncomputable def L_X12_isOrdered_14 (h : Hp) (x0 : Nat) (x1 : Int32) (x2 : Int32) : Option (Int32) := iterW (fun s : Int32 => B_X12_isOrdered_14 h x0 x1 s) x2
set_option maxHeartbeats 4000000 in
set_option maxRecDepth 100000 in
theorem go_X12_isOrdered_B14 {Γ : Cx} (hO : Ok Γ mX12_isOrdered) (h : Hp) (x0 : Nat) (x1 : Int32) (x2 : Int32) (hx0 : Is x0 12) {K : (Int32) ⊕ (Int32) → Prop} (hC : ∀ (x2 : Int32), K (.inl x2) → EW Γ mX12_isOrdered 14 [(0, rf Γ x0), (1, .int x1), (2, .int x2)] [] h) (hE55 : ∀ (x2 : Int32), K (.inr x2) → EW Γ mX12_isOrdered 55 [(0, rf Γ x0), (1, .int x1), (2, .int x2)] [] h) : EG Γ mX12_isOrdered 14 [(0, rf Γ x0), (1, .int x1), (2, .int x2)] [] h (B_X12_isOrdered_14 h x0 x1 x2) K := by
  unfold B_X12_isOrdered_14
  refine x_iload_n hO 2 rfl rfl dX12_isOrdered_14 ?_
  refine x_aload_n hO 0 rfl rfl dX12_isOrdered_15 ?_
  refine x_getI hO fl_RX12_299 hx0 dX12_isOrdered_16 ?_
  refine x_icmp_ge hO (tg := 55) dX12_isOrdered_19 (by decide) ?_ ?_
  · exact x_leafs [0, 1, 2] rfl (hE55 x2)
  · refine x_aload_n hO 0 rfl rfl dX12_isOrdered_22 ?_
    refine x_aload_n hO 0 rfl rfl dX12_isOrdered_23 ?_
    refine x_getR hO fl_RX12_56 hx0 dX12_isOrdered_24 ?_
    refine x_iload_n hO 1 rfl rfl dX12_isOrdered_27 ?_
    refine x_iald hO (gr_12_25 hx0) dX12_isOrdered_28 ?_
    refine x_iload_n hO 2 rfl rfl dX12_isOrdered_29 ?_
    refine y_PI (x_callV hO lv_RX12_302 hx0 vc_12 (by decide) (As := [.int (hI h (GR x0 25) (nx x1)), .int x2]) rfl (Nat.le_of_ble_eq_true rfl) (ok_X12_itemOf (cG Γ) h x0 (hI h (GR x0 25) (nx x1)) x2 hx0) dX12_isOrdered_30 rfl (Nat.le_of_ble_eq_true rfl)) (fun r1 => ?_)
    refine x_aload_n hO 0 rfl rfl dX12_isOrdered_33 ?_
    refine x_aload_n hO 0 rfl rfl dX12_isOrdered_34 ?_
    refine x_getR hO fl_RX12_56 hx0 dX12_isOrdered_35 ?_
    refine x_iload_n hO 1 rfl rfl dX12_isOrdered_38 ?_
    refine x_iconst hO (v := 1) (by decide) dX12_isOrdered_39 ?_
    refine x_isub hO dX12_isOrdered_40 ?_
    refine x_iald hO (gr_12_25 hx0) dX12_isOrdered_41 ?_
    refine x_iload_n hO 2 rfl rfl dX12_isOrdered_42 ?_
    refine y_PI (x_callV hO lv_RX12_302 hx0 vc_12 (by decide) (As := [.int (hI h (GR x0 25) (nx (x1 - ((1 : Int32))))), .int x2]) rfl (Nat.le_of_ble_eq_true rfl) (ok_X12_itemOf (cG Γ) h x0 (hI h (GR x0 25) (nx (x1 - ((1 : Int32))))) x2 hx0) dX12_isOrdered_43 rfl (Nat.le_of_ble_eq_true rfl)) (fun r2 => ?_)
    refine x_icmp_ne hO (tg := 55) dX12_isOrdered_46 (by decide) ?_ ?_
    · exact x_leafs [0, 1, 2] rfl (hE55 x2)
    · refine x_iinc hO 2 (v := 1) [(2, .int (x2 + (1 : Int32))), (0, rf Γ x0), (1, .int x1)] dX12_isOrdered_49 rfl (by decide) (by decide) rfl ?_
      refine x_goto hO (tg := 14) dX12_isOrdered_52 (by decide) ?_
      exact x_leafs [1, 2, 0] rfl (hC (x2 + (1 : Int32)))
set_option maxHeartbeats 4000000 in
set_option maxRecDepth 100000 in
theorem go_X12_isOrdered_L14 {Γ : Cx} (hO : Ok Γ mX12_isOrdered) (h : Hp) (x0 : Nat) (x1 : Int32) (x2 : Int32) (hx0 : Is x0 12) {K : Int32 → Prop} (hE55 : ∀ (x2 : Int32), K (x2) → EW Γ mX12_isOrdered 55 [(0, rf Γ x0), (1, .int x1), (2, .int x2)] [] h) : EG Γ mX12_isOrdered 14 [(0, rf Γ x0), (1, .int x1), (2, .int x2)] [] h (L_X12_isOrdered_14 h x0 x1 x2) K := by
  have q := x_loop (Γ := Γ) (M := mX12_isOrdered) (pc := 14) (B := fun s : Int32 => B_X12_isOrdered_14 h x0 x1 s) (lvf := fun s => [(0, rf Γ x0), (1, .int x1), (2, .int s)]) (hf := fun s => h) (Ky := K) (fun s => go_X12_isOrdered_B14 hO h x0 x1 s hx0 (fun _ => id) hE55) x2
  exact q
noncomputable def J_X12_isOrdered_55 (h : Hp) (x0 : Nat) (x1 : Int32) (x2 : Int32) : Option ((Int32) ⊕ (Int32)) :=
  if (hI h x0 30) ≤ x2 then some (.inl (x1 + (1 : Int32))) else gd (ib x1 (LEN (GR x0 25))) ((F_X12_itemOf h x0 (hI h (GR x0 25) (nx x1)) x2).bind (fun r1 => gd (ib (x1 - ((1 : Int32))) (LEN (GR x0 25))) ((F_X12_itemOf h x0 (hI h (GR x0 25) (nx (x1 - ((1 : Int32))))) x2).bind (fun r2 => if r2 ≤ r1 then some (.inl (x1 + (1 : Int32))) else some (.inr ((0 : Int32)))))))
set_option maxHeartbeats 4000000 in
set_option maxRecDepth 100000 in
theorem go_X12_isOrdered_J55 {Γ : Cx} (hO : Ok Γ mX12_isOrdered) (h : Hp) (x0 : Nat) (x1 : Int32) (x2 : Int32) (hx0 : Is x0 12) {K : (Int32) ⊕ (Int32) → Prop} (hC : ∀ (x1 : Int32), K (.inl x1) → EW Γ mX12_isOrdered 2 [(0, rf Γ x0), (1, .int x1)] [] h) (hR : ∀ r, K (.inr r) → emPI h r = tgt Γ) : EG Γ mX12_isOrdered 55 [(0, rf Γ x0), (1, .int x1), (2, .int x2)] [] h (J_X12_isOrdered_55 h x0 x1 x2) K := by
  unfold J_X12_isOrdered_55
  refine x_iload_n hO 2 rfl rfl dX12_isOrdered_55 ?_
  refine x_aload_n hO 0 rfl rfl dX12_isOrdered_56 ?_
  refine x_getI hO fl_RX12_299 hx0 dX12_isOrdered_57 ?_
  refine x_icmp_ge hO (tg := 92) dX12_isOrdered_60 (by decide) ?_ ?_
  · refine x_iinc hO 1 (v := 1) [(1, .int (x1 + (1 : Int32))), (0, rf Γ x0), (2, .int x2)] dX12_isOrdered_92 rfl (by decide) (by decide) rfl ?_
    refine x_goto hO (tg := 2) dX12_isOrdered_95 (by decide) ?_
    exact x_leafs [1, 0] rfl (hC (x1 + (1 : Int32)))
  · refine x_aload_n hO 0 rfl rfl dX12_isOrdered_63 ?_
    refine x_aload_n hO 0 rfl rfl dX12_isOrdered_64 ?_
    refine x_getR hO fl_RX12_56 hx0 dX12_isOrdered_65 ?_
    refine x_iload_n hO 1 rfl rfl dX12_isOrdered_68 ?_
    refine x_iald hO (gr_12_25 hx0) dX12_isOrdered_69 ?_
    refine x_iload_n hO 2 rfl rfl dX12_isOrdered_70 ?_
    refine y_PI (x_callV hO lv_RX12_302 hx0 vc_12 (by decide) (As := [.int (hI h (GR x0 25) (nx x1)), .int x2]) rfl (Nat.le_of_ble_eq_true rfl) (ok_X12_itemOf (cG Γ) h x0 (hI h (GR x0 25) (nx x1)) x2 hx0) dX12_isOrdered_71 rfl (Nat.le_of_ble_eq_true rfl)) (fun r1 => ?_)
    refine x_aload_n hO 0 rfl rfl dX12_isOrdered_74 ?_
    refine x_aload_n hO 0 rfl rfl dX12_isOrdered_75 ?_
    refine x_getR hO fl_RX12_56 hx0 dX12_isOrdered_76 ?_
    refine x_iload_n hO 1 rfl rfl dX12_isOrdered_79 ?_
    refine x_iconst hO (v := 1) (by decide) dX12_isOrdered_80 ?_
    refine x_isub hO dX12_isOrdered_81 ?_
    refine x_iald hO (gr_12_25 hx0) dX12_isOrdered_82 ?_
    refine x_iload_n hO 2 rfl rfl dX12_isOrdered_83 ?_
    refine y_PI (x_callV hO lv_RX12_302 hx0 vc_12 (by decide) (As := [.int (hI h (GR x0 25) (nx (x1 - ((1 : Int32))))), .int x2]) rfl (Nat.le_of_ble_eq_true rfl) (ok_X12_itemOf (cG Γ) h x0 (hI h (GR x0 25) (nx (x1 - ((1 : Int32))))) x2 hx0) dX12_isOrdered_84 rfl (Nat.le_of_ble_eq_true rfl)) (fun r2 => ?_)
    refine x_icmp_ge hO (tg := 92) dX12_isOrdered_87 (by decide) ?_ ?_
    · refine x_iinc hO 1 (v := 1) [(1, .int (x1 + (1 : Int32))), (0, rf Γ x0), (2, .int x2)] dX12_isOrdered_92 rfl (by decide) (by decide) rfl ?_
      refine x_goto hO (tg := 2) dX12_isOrdered_95 (by decide) ?_
      exact x_leafs [1, 0] rfl (hC (x1 + (1 : Int32)))
    · refine x_iconst hO (v := 0) (by decide) dX12_isOrdered_90 ?_
      exact x_zretv hO rfl (by decide) dX12_isOrdered_91 (hR _)
noncomputable def B_X12_isOrdered_2 (h : Hp) (x0 : Nat) (x1 : Int32) : Option ((Int32) ⊕ (Int32)) :=
  gd (ib ((0 : Int32)) (LEN (GR x0 0))) (if (hI h (GR x0 0) (nx ((0 : Int32)))) ≤ x1 then some (.inr ((1 : Int32))) else (L_X12_isOrdered_14 h x0 x1 ((0 : Int32))).bind (fun e1 => J_X12_isOrdered_55 h x0 x1 e1))
noncomputable def L_X12_isOrdered_2 (h : Hp) (x0 : Nat) (x1 : Int32) : Option (Int32) := iterW (fun s : Int32 => B_X12_isOrdered_2 h x0 s) x1
set_option maxHeartbeats 4000000 in
set_option maxRecDepth 100000 in
theorem go_X12_isOrdered_B2 {Γ : Cx} (hO : Ok Γ mX12_isOrdered) (h : Hp) (x0 : Nat) (x1 : Int32) (hx0 : Is x0 12) {K : (Int32) ⊕ (Int32) → Prop} (hC : ∀ (x1 : Int32), K (.inl x1) → EW Γ mX12_isOrdered 2 [(0, rf Γ x0), (1, .int x1)] [] h) (hR : ∀ r, K (.inr r) → emPI h r = tgt Γ) : EG Γ mX12_isOrdered 2 [(0, rf Γ x0), (1, .int x1)] [] h (B_X12_isOrdered_2 h x0 x1) K := by
  unfold B_X12_isOrdered_2
  refine x_iload_n hO 1 rfl rfl dX12_isOrdered_2 ?_
  refine x_aload_n hO 0 rfl rfl dX12_isOrdered_3 ?_
  refine x_getR hO fl_RX12_7 hx0 dX12_isOrdered_4 ?_
  refine x_iconst hO (v := 0) (by decide) dX12_isOrdered_7 ?_
  refine x_iald hO (gr_12_0 hx0) dX12_isOrdered_8 ?_
  refine x_icmp_ge hO (tg := 98) dX12_isOrdered_9 (by decide) ?_ ?_
  · refine x_iconst hO (v := 1) (by decide) dX12_isOrdered_98 ?_
    exact x_zretv hO rfl (by decide) dX12_isOrdered_99 (hR _)
  · refine x_iconst hO (v := 0) (by decide) dX12_isOrdered_12 ?_
    refine x_istore_n hO rfl [(2, .int ((0 : Int32))), (0, rf Γ x0), (1, .int x1)] dX12_isOrdered_13 (by decide) rfl ?_
    refine x_bind (x_sub [1, 2, 0] rfl (go_X12_isOrdered_L14 hO h x0 x1 ((0 : Int32)) hx0 (fun y1_0 hx => ?_)))
    refine x_run (t := (J_X12_isOrdered_55 h x0 x1 y1_0 : Option ((Int32) ⊕ (Int32)))) hx ?_
    exact x_sub [0, 1, 2] rfl (go_X12_isOrdered_J55 hO h x0 x1 y1_0 hx0 hC hR)
set_option maxHeartbeats 4000000 in
set_option maxRecDepth 100000 in
theorem go_X12_isOrdered_L2 {Γ : Cx} (hO : Ok Γ mX12_isOrdered) (h : Hp) (x0 : Nat) (x1 : Int32) (hx0 : Is x0 12) {K : Int32 → Prop} (hR : ∀ r, K (r) → emPI h r = tgt Γ) : EG Γ mX12_isOrdered 2 [(0, rf Γ x0), (1, .int x1)] [] h (L_X12_isOrdered_2 h x0 x1) K := by
  have q := x_loop (Γ := Γ) (M := mX12_isOrdered) (pc := 2) (B := fun s : Int32 => B_X12_isOrdered_2 h x0 s) (lvf := fun s => [(0, rf Γ x0), (1, .int s)]) (hf := fun s => h) (Ky := K) (fun s => go_X12_isOrdered_B2 hO h x0 s hx0 (fun _ => id) hR) x1
  exact q
noncomputable def F_X12_isOrdered (h : Hp) (x0 : Nat) : Option (Int32) :=
  L_X12_isOrdered_2 h x0 ((1 : Int32))
set_option maxHeartbeats 4000000 in
set_option maxRecDepth 100000 in
theorem go_X12_isOrdered {Γ : Cx} (hO : Ok Γ mX12_isOrdered) (h : Hp) (x0 : Nat) (hx0 : Is x0 12) {K : Int32 → Prop} (hR : ∀ r, K r → emPI h r = tgt Γ) : EG Γ mX12_isOrdered 0 [(0, rf Γ x0)] [] h (F_X12_isOrdered h x0) K := by
  unfold F_X12_isOrdered
  refine x_iconst hO (v := 1) (by decide) dX12_isOrdered_0 ?_
  refine x_istore_n hO rfl [(1, .int ((1 : Int32))), (0, rf Γ x0)] dX12_isOrdered_1 (by decide) rfl ?_
  exact x_sub [1, 0] rfl (go_X12_isOrdered_L2 hO h x0 ((1 : Int32)) hx0 hR)
theorem ok_X12_isOrdered (G : Gl) (h : Hp) (x0 : Nat) (hx0 : Is x0 12) : CN G mX12_isOrdered [.ref (gb G + x0)] h ((F_X12_isOrdered h x0).map (emPI h)) := CN.fn pn_RX12 (Nat.le_of_ble_eq_true rfl) (fun Γ hG hO => by subst hG; exact go_X12_isOrdered hO h x0 hx0 (fun _ q => q))
noncomputable def F_X12_misreads (h : Hp) (x0 : Nat) (x1 : Int32) (x2 : Int32) (x3 : Int32) (x4 : Int32) : Option (Hp) :=
  (F_X12_readsBy h x0 x1 x2 ((-1 : Int32))).bind (fun r1 => (F_X12_counts h x0 r1 (-x4)).bind (fun r2 => (F_X12_readsBy r2 x0 x1 x2 x3).bind (fun r3 => (F_X12_counts r2 x0 r3 x4).bind (fun r4 => some r4))))
set_option maxHeartbeats 4000000 in
set_option maxRecDepth 100000 in
theorem go_X12_misreads {Γ : Cx} (hO : Ok Γ mX12_misreads) (h : Hp) (x0 : Nat) (x1 : Int32) (x2 : Int32) (x3 : Int32) (x4 : Int32) (hx0 : Is x0 12) {K : Hp → Prop} (hR : ∀ r, K r → emHV r = tgt Γ) : EG Γ mX12_misreads 0 [(0, rf Γ x0), (1, .int x1), (2, .int x2), (3, .int x3), (4, .int x4)] [] h (F_X12_misreads h x0 x1 x2 x3 x4) K := by
  unfold F_X12_misreads
  refine x_aload_n hO 0 rfl rfl dX12_misreads_0 ?_
  refine x_aload_n hO 0 rfl rfl dX12_misreads_1 ?_
  refine x_iload_n hO 1 rfl rfl dX12_misreads_2 ?_
  refine x_iload_n hO 2 rfl rfl dX12_misreads_3 ?_
  refine x_iconst hO (v := -1) (by decide) dX12_misreads_4 ?_
  refine y_PI (x_callV hO lv_RX12_368 hx0 vc_12 (by decide) (As := [.int x1, .int x2, .int ((-1 : Int32))]) rfl (Nat.le_of_ble_eq_true rfl) (ok_X12_readsBy (cG Γ) h x0 x1 x2 ((-1 : Int32)) hx0) dX12_misreads_5 rfl (Nat.le_of_ble_eq_true rfl)) (fun r1 => ?_)
  refine x_iload hO 4 rfl dX12_misreads_8 ?_
  refine x_ineg hO dX12_misreads_10 ?_
  refine y_HV (x_callV hO lv_RX12_371 hx0 vc_12 (by decide) (As := [.int r1, .int (-x4)]) rfl (Nat.le_of_ble_eq_true rfl) (ok_X12_counts (cG Γ) h x0 r1 (-x4) hx0) dX12_misreads_11 rfl (Nat.le_of_ble_eq_true rfl)) (fun r2 => ?_)
  refine x_aload_n hO 0 rfl rfl dX12_misreads_14 ?_
  refine x_aload_n hO 0 rfl rfl dX12_misreads_15 ?_
  refine x_iload_n hO 1 rfl rfl dX12_misreads_16 ?_
  refine x_iload_n hO 2 rfl rfl dX12_misreads_17 ?_
  refine x_iload_n hO 3 rfl rfl dX12_misreads_18 ?_
  refine y_PI (x_callV hO lv_RX12_368 hx0 vc_12 (by decide) (As := [.int x1, .int x2, .int x3]) rfl (Nat.le_of_ble_eq_true rfl) (ok_X12_readsBy (cG Γ) r2 x0 x1 x2 x3 hx0) dX12_misreads_19 rfl (Nat.le_of_ble_eq_true rfl)) (fun r3 => ?_)
  refine x_iload hO 4 rfl dX12_misreads_22 ?_
  refine y_HV (x_callV hO lv_RX12_371 hx0 vc_12 (by decide) (As := [.int r3, .int x4]) rfl (Nat.le_of_ble_eq_true rfl) (ok_X12_counts (cG Γ) r2 x0 r3 x4 hx0) dX12_misreads_24 rfl (Nat.le_of_ble_eq_true rfl)) (fun r4 => ?_)
  exact x_vret hO rfl dX12_misreads_27 (hR _)
theorem ok_X12_misreads (G : Gl) (h : Hp) (x0 : Nat) (x1 : Int32) (x2 : Int32) (x3 : Int32) (x4 : Int32) (hx0 : Is x0 12) : CN G mX12_misreads [.ref (gb G + x0), .int x1, .int x2, .int x3, .int x4] h ((F_X12_misreads h x0 x1 x2 x3 x4).map (emHV)) := CN.fn pn_RX12 (Nat.le_of_ble_eq_true rfl) (fun Γ hG hO => by subst hG; exact go_X12_misreads hO h x0 x1 x2 x3 x4 hx0 (fun _ q => q))
noncomputable def B_X12_nextOf_3 (h : Hp) (x0 : Nat) (x2 : Int32) (x3 : Int32) (x4 : Int32) (x5 : Int32) : Option ((Int32) ⊕ (Int32)) :=
  gd (ib ((0 : Int32)) (LEN (GR x0 0))) (if (hI h (GR x0 0) (nx ((0 : Int32)))) ≤ x5 then some (.inr x5) else gd (ib x5 (LEN (GR x0 25))) ((F_X12_ofCard h x0 (hI h (GR x0 25) (nx x5)) ((9 : Int32))).bind (fun r1 => if r1 = x2 then gd (ib x5 (LEN (GR x0 25))) ((F_X12_numberOf h x0 (hI h (GR x0 25) (nx x5)) x3 x4).bind (fun r2 => if r2 = ((-1 : Int32)) then some (.inl (x5 + (1 : Int32))) else some (.inr x5))) else some (.inl (x5 + (1 : Int32))))))
noncomputable def L_X12_nextOf_3 (h : Hp) (x0 : Nat) (x2 : Int32) (x3 : Int32) (x4 : Int32) (x5 : Int32) : Option (Int32) := iterW (fun s : Int32 => B_X12_nextOf_3 h x0 x2 x3 x4 s) x5
set_option maxHeartbeats 4000000 in
set_option maxRecDepth 100000 in
theorem go_X12_nextOf_B3 {Γ : Cx} (hO : Ok Γ mX12_nextOf) (h : Hp) (x0 : Nat) (x2 : Int32) (x3 : Int32) (x4 : Int32) (x5 : Int32) (hx0 : Is x0 12) {K : (Int32) ⊕ (Int32) → Prop} (hC : ∀ (x5 : Int32), K (.inl x5) → EW Γ mX12_nextOf 3 [(0, rf Γ x0), (2, .int x2), (3, .int x3), (4, .int x4), (5, .int x5)] [] h) (hR : ∀ r, K (.inr r) → emPI h r = tgt Γ) : EG Γ mX12_nextOf 3 [(0, rf Γ x0), (2, .int x2), (3, .int x3), (4, .int x4), (5, .int x5)] [] h (B_X12_nextOf_3 h x0 x2 x3 x4 x5) K := by
  unfold B_X12_nextOf_3
  refine x_iload hO 4 rfl dX12_nextOf_3 ?_
  refine x_aload_n hO 0 rfl rfl dX12_nextOf_5 ?_
  refine x_getR hO fl_RX12_7 hx0 dX12_nextOf_6 ?_
  refine x_iconst hO (v := 0) (by decide) dX12_nextOf_9 ?_
  refine x_iald hO (gr_12_0 hx0) dX12_nextOf_10 ?_
  refine x_icmp_ge hO (tg := 55) dX12_nextOf_11 (by decide) ?_ ?_
  · refine x_iload hO 4 rfl dX12_nextOf_55 ?_
    exact x_iret hO rfl dX12_nextOf_57 (hR _)
  · refine x_aload_n hO 0 rfl rfl dX12_nextOf_14 ?_
    refine x_aload_n hO 0 rfl rfl dX12_nextOf_15 ?_
    refine x_getR hO fl_RX12_56 hx0 dX12_nextOf_16 ?_
    refine x_iload hO 4 rfl dX12_nextOf_19 ?_
    refine x_iald hO (gr_12_25 hx0) dX12_nextOf_21 ?_
    refine x_bipush hO (v := 9) (by decide) dX12_nextOf_22 ?_
    refine y_PI (x_callV hO lv_RX12_130 hx0 vc_12 (by decide) (As := [.int (hI h (GR x0 25) (nx x5)), .int ((9 : Int32))]) rfl (Nat.le_of_ble_eq_true rfl) (ok_X12_ofCard (cG Γ) h x0 (hI h (GR x0 25) (nx x5)) ((9 : Int32)) hx0) dX12_nextOf_24 rfl (Nat.le_of_ble_eq_true rfl)) (fun r1 => ?_)
    refine x_iload_n hO 1 rfl rfl dX12_nextOf_27 ?_
    refine x_icmp_ne hO (tg := 49) dX12_nextOf_28 (by decide) ?_ ?_
    · refine x_iinc hO 4 (v := 1) [(5, .int (x5 + (1 : Int32))), (0, rf Γ x0), (2, .int x2), (3, .int x3), (4, .int x4)] dX12_nextOf_49 rfl (by decide) (by decide) rfl ?_
      refine x_goto hO (tg := 3) dX12_nextOf_52 (by decide) ?_
      exact x_leafs [1, 2, 3, 4, 0] rfl (hC (x5 + (1 : Int32)))
    · refine x_aload_n hO 0 rfl rfl dX12_nextOf_31 ?_
      refine x_aload_n hO 0 rfl rfl dX12_nextOf_32 ?_
      refine x_getR hO fl_RX12_56 hx0 dX12_nextOf_33 ?_
      refine x_iload hO 4 rfl dX12_nextOf_36 ?_
      refine x_iald hO (gr_12_25 hx0) dX12_nextOf_38 ?_
      refine x_iload_n hO 2 rfl rfl dX12_nextOf_39 ?_
      refine x_iload hO 3 rfl dX12_nextOf_40 ?_
      refine y_PI (x_callV hO lv_RX12_321 hx0 vc_12 (by decide) (As := [.int (hI h (GR x0 25) (nx x5)), .int x3, .int x4]) rfl (Nat.le_of_ble_eq_true rfl) (ok_X12_numberOf (cG Γ) h x0 (hI h (GR x0 25) (nx x5)) x3 x4 hx0) dX12_nextOf_42 rfl (Nat.le_of_ble_eq_true rfl)) (fun r2 => ?_)
      refine x_iconst hO (v := -1) (by decide) dX12_nextOf_45 ?_
      refine x_icmp_ne hO (tg := 55) dX12_nextOf_46 (by decide) ?_ ?_
      · refine x_iload hO 4 rfl dX12_nextOf_55 ?_
        exact x_iret hO rfl dX12_nextOf_57 (hR _)
      · refine x_iinc hO 4 (v := 1) [(5, .int (x5 + (1 : Int32))), (0, rf Γ x0), (2, .int x2), (3, .int x3), (4, .int x4)] dX12_nextOf_49 rfl (by decide) (by decide) rfl ?_
        refine x_goto hO (tg := 3) dX12_nextOf_52 (by decide) ?_
        exact x_leafs [1, 2, 3, 4, 0] rfl (hC (x5 + (1 : Int32)))
set_option maxHeartbeats 4000000 in
set_option maxRecDepth 100000 in
theorem go_X12_nextOf_L3 {Γ : Cx} (hO : Ok Γ mX12_nextOf) (h : Hp) (x0 : Nat) (x2 : Int32) (x3 : Int32) (x4 : Int32) (x5 : Int32) (hx0 : Is x0 12) {K : Int32 → Prop} (hR : ∀ r, K (r) → emPI h r = tgt Γ) : EG Γ mX12_nextOf 3 [(0, rf Γ x0), (2, .int x2), (3, .int x3), (4, .int x4), (5, .int x5)] [] h (L_X12_nextOf_3 h x0 x2 x3 x4 x5) K := by
  have q := x_loop (Γ := Γ) (M := mX12_nextOf) (pc := 3) (B := fun s : Int32 => B_X12_nextOf_3 h x0 x2 x3 x4 s) (lvf := fun s => [(0, rf Γ x0), (2, .int x2), (3, .int x3), (4, .int x4), (5, .int s)]) (hf := fun s => h) (Ky := K) (fun s => go_X12_nextOf_B3 hO h x0 x2 x3 x4 s hx0 (fun _ => id) hR) x5
  exact q
noncomputable def F_X12_nextOf (h : Hp) (x0 : Nat) (x1 : Int32) (x2 : Int32) (x3 : Int32) (x4 : Int32) : Option (Int32) :=
  L_X12_nextOf_3 h x0 x2 x3 x4 x1
set_option maxHeartbeats 4000000 in
set_option maxRecDepth 100000 in
theorem go_X12_nextOf {Γ : Cx} (hO : Ok Γ mX12_nextOf) (h : Hp) (x0 : Nat) (x1 : Int32) (x2 : Int32) (x3 : Int32) (x4 : Int32) (hx0 : Is x0 12) {K : Int32 → Prop} (hR : ∀ r, K r → emPI h r = tgt Γ) : EG Γ mX12_nextOf 0 [(0, rf Γ x0), (1, .int x1), (2, .int x2), (3, .int x3), (4, .int x4)] [] h (F_X12_nextOf h x0 x1 x2 x3 x4) K := by
  unfold F_X12_nextOf
  refine x_iload_n hO 1 rfl rfl dX12_nextOf_0 ?_
  refine x_istore hO [(5, .int x1), (0, rf Γ x0), (1, .int x1), (2, .int x2), (3, .int x3), (4, .int x4)] dX12_nextOf_1 (by decide) rfl ?_
  exact x_sub [1, 3, 4, 5, 0] rfl (go_X12_nextOf_L3 hO h x0 x2 x3 x4 x1 hx0 hR)
theorem ok_X12_nextOf (G : Gl) (h : Hp) (x0 : Nat) (x1 : Int32) (x2 : Int32) (x3 : Int32) (x4 : Int32) (hx0 : Is x0 12) : CN G mX12_nextOf [.ref (gb G + x0), .int x1, .int x2, .int x3, .int x4] h ((F_X12_nextOf h x0 x1 x2 x3 x4).map (emPI h)) := CN.fn pn_RX12 (Nat.le_of_ble_eq_true rfl) (fun Γ hG hO => by subst hG; exact go_X12_nextOf hO h x0 x1 x2 x3 x4 hx0 (fun _ q => q))
noncomputable def B_X12_parts_27 (h : Hp) (x0 : Nat) (x1 : Int32) (x2 : Int32) (x3 : Int32) (x4 : Int32) (x5 : Int32) : Option ((Hp × Int32 × Int32) ⊕ (Hp × Int32)) :=
  if x3 < x5 then some (.inr ((h, x4))) else gd (ib ((((338 : Int32)) + x5) - ((1 : Int32))) (LEN (GR x0 0))) ((F_X12_numberOf h x0 (hI h (GR x0 0) (nx ((((338 : Int32)) + x5) - ((1 : Int32))))) x1 x2).bind (fun r1 => gd (ib x5 (LEN (GR x0 45))) (if x4 = 0 then some (.inl (uI h (GR x0 45) (nx x5) r1, (0 : Int32), x5 + (1 : Int32))) else gd (ib x5 (LEN (GR x0 45))) (if (hI (uI h (GR x0 45) (nx x5) r1) (GR x0 45) (nx x5)) = ((-1 : Int32)) then some (.inl (uI h (GR x0 45) (nx x5) r1, (0 : Int32), x5 + (1 : Int32))) else some (.inl (uI h (GR x0 45) (nx x5) r1, (1 : Int32), x5 + (1 : Int32)))))))
noncomputable def L_X12_parts_27 (h : Hp) (x0 : Nat) (x1 : Int32) (x2 : Int32) (x3 : Int32) (x4 : Int32) (x5 : Int32) : Option (Hp × Int32) := iterW (fun s : Hp × Int32 × Int32 => B_X12_parts_27 s.1 x0 x1 x2 x3 s.2.1 s.2.2) (h, x4, x5)
set_option maxHeartbeats 4000000 in
set_option maxRecDepth 100000 in
theorem go_X12_parts_B27 {Γ : Cx} (hO : Ok Γ mX12_parts) (h : Hp) (x0 : Nat) (x1 : Int32) (x2 : Int32) (x3 : Int32) (x4 : Int32) (x5 : Int32) (hx0 : Is x0 12) {K : (Hp × Int32 × Int32) ⊕ (Hp × Int32) → Prop} (hC : ∀ (h : Hp) (x4 : Int32) (x5 : Int32), K (.inl (h, x4, x5)) → EW Γ mX12_parts 27 [(0, rf Γ x0), (1, .int x1), (2, .int x2), (3, .int x3), (4, .int x4), (5, .int x5)] [] h) (hE88 : ∀ (h : Hp) (x4 : Int32), K (.inr ((h, x4))) → EW Γ mX12_parts 88 [(0, rf Γ x0), (3, .int x3), (4, .int x4)] [] h) : EG Γ mX12_parts 27 [(0, rf Γ x0), (1, .int x1), (2, .int x2), (3, .int x3), (4, .int x4), (5, .int x5)] [] h (B_X12_parts_27 h x0 x1 x2 x3 x4 x5) K := by
  unfold B_X12_parts_27
  refine x_iload hO 5 rfl dX12_parts_27 ?_
  refine x_iload_n hO 3 rfl rfl dX12_parts_29 ?_
  refine x_icmp_gt hO (tg := 88) dX12_parts_30 (by decide) ?_ ?_
  · exact x_leafs [0, 3, 4] rfl (hE88 h x4)
  · refine x_aload_n hO 0 rfl rfl dX12_parts_33 ?_
    refine x_getR hO fl_RX12_92 hx0 dX12_parts_34 ?_
    refine x_iload hO 5 rfl dX12_parts_37 ?_
    refine x_aload_n hO 0 rfl rfl dX12_parts_39 ?_
    refine x_aload_n hO 0 rfl rfl dX12_parts_40 ?_
    refine x_getR hO fl_RX12_7 hx0 dX12_parts_41 ?_
    refine x_sipush hO (v := 338) (by decide) dX12_parts_44 ?_
    refine x_iload hO 5 rfl dX12_parts_47 ?_
    refine x_iadd hO dX12_parts_49 ?_
    refine x_iconst hO (v := 1) (by decide) dX12_parts_50 ?_
    refine x_isub hO dX12_parts_51 ?_
    refine x_iald hO (gr_12_0 hx0) dX12_parts_52 ?_
    refine x_iload_n hO 1 rfl rfl dX12_parts_53 ?_
    refine x_iload_n hO 2 rfl rfl dX12_parts_54 ?_
    refine y_PI (x_callV hO lv_RX12_321 hx0 vc_12 (by decide) (As := [.int (hI h (GR x0 0) (nx ((((338 : Int32)) + x5) - ((1 : Int32))))), .int x1, .int x2]) rfl (Nat.le_of_ble_eq_true rfl) (ok_X12_numberOf (cG Γ) h x0 (hI h (GR x0 0) (nx ((((338 : Int32)) + x5) - ((1 : Int32))))) x1 x2 hx0) dX12_parts_55 rfl (Nat.le_of_ble_eq_true rfl)) (fun r1 => ?_)
    refine x_iast hO (gr_12_45 hx0) dX12_parts_58 ?_
    refine x_iload hO 4 rfl dX12_parts_59 ?_
    refine x_if_eq hO (tg := 79) dX12_parts_61 (by decide) ?_ ?_
    · refine x_iconst hO (v := 0) (by decide) dX12_parts_79 ?_
      refine x_istore hO [(4, .int ((0 : Int32))), (0, rf Γ x0), (1, .int x1), (2, .int x2), (3, .int x3), (5, .int x5)] dX12_parts_80 (by decide) rfl ?_
      refine x_iinc hO 5 (v := 1) [(5, .int (x5 + (1 : Int32))), (4, .int ((0 : Int32))), (0, rf Γ x0), (1, .int x1), (2, .int x2), (3, .int x3)] dX12_parts_82 rfl (by decide) (by decide) rfl ?_
      refine x_goto hO (tg := 27) dX12_parts_85 (by decide) ?_
      exact x_leafs [2, 3, 4, 5, 1, 0] rfl (hC (uI h (GR x0 45) (nx x5) r1) ((0 : Int32)) (x5 + (1 : Int32)))
    · refine x_aload_n hO 0 rfl rfl dX12_parts_64 ?_
      refine x_getR hO fl_RX12_92 hx0 dX12_parts_65 ?_
      refine x_iload hO 5 rfl dX12_parts_68 ?_
      refine x_iald hO (gr_12_45 hx0) dX12_parts_70 ?_
      refine x_iconst hO (v := -1) (by decide) dX12_parts_71 ?_
      refine x_icmp_eq hO (tg := 79) dX12_parts_72 (by decide) ?_ ?_
      · refine x_iconst hO (v := 0) (by decide) dX12_parts_79 ?_
        refine x_istore hO [(4, .int ((0 : Int32))), (0, rf Γ x0), (1, .int x1), (2, .int x2), (3, .int x3), (5, .int x5)] dX12_parts_80 (by decide) rfl ?_
        refine x_iinc hO 5 (v := 1) [(5, .int (x5 + (1 : Int32))), (4, .int ((0 : Int32))), (0, rf Γ x0), (1, .int x1), (2, .int x2), (3, .int x3)] dX12_parts_82 rfl (by decide) (by decide) rfl ?_
        refine x_goto hO (tg := 27) dX12_parts_85 (by decide) ?_
        exact x_leafs [2, 3, 4, 5, 1, 0] rfl (hC (uI h (GR x0 45) (nx x5) r1) ((0 : Int32)) (x5 + (1 : Int32)))
      · refine x_iconst hO (v := 1) (by decide) dX12_parts_75 ?_
        refine x_goto hO (tg := 80) dX12_parts_76 (by decide) ?_
        refine x_istore hO [(4, .int ((1 : Int32))), (0, rf Γ x0), (1, .int x1), (2, .int x2), (3, .int x3), (5, .int x5)] dX12_parts_80 (by decide) rfl ?_
        refine x_iinc hO 5 (v := 1) [(5, .int (x5 + (1 : Int32))), (4, .int ((1 : Int32))), (0, rf Γ x0), (1, .int x1), (2, .int x2), (3, .int x3)] dX12_parts_82 rfl (by decide) (by decide) rfl ?_
        refine x_goto hO (tg := 27) dX12_parts_85 (by decide) ?_
        exact x_leafs [2, 3, 4, 5, 1, 0] rfl (hC (uI h (GR x0 45) (nx x5) r1) ((1 : Int32)) (x5 + (1 : Int32)))
set_option maxHeartbeats 4000000 in
set_option maxRecDepth 100000 in
theorem go_X12_parts_L27 {Γ : Cx} (hO : Ok Γ mX12_parts) (h : Hp) (x0 : Nat) (x1 : Int32) (x2 : Int32) (x3 : Int32) (x4 : Int32) (x5 : Int32) (hx0 : Is x0 12) {K : Hp × Int32 → Prop} (hE88 : ∀ (h : Hp) (x4 : Int32), K ((h, x4)) → EW Γ mX12_parts 88 [(0, rf Γ x0), (3, .int x3), (4, .int x4)] [] h) : EG Γ mX12_parts 27 [(0, rf Γ x0), (1, .int x1), (2, .int x2), (3, .int x3), (4, .int x4), (5, .int x5)] [] h (L_X12_parts_27 h x0 x1 x2 x3 x4 x5) K := by
  have q := x_loop (Γ := Γ) (M := mX12_parts) (pc := 27) (B := fun s : Hp × Int32 × Int32 => B_X12_parts_27 s.1 x0 x1 x2 x3 s.2.1 s.2.2) (lvf := fun s => [(0, rf Γ x0), (1, .int x1), (2, .int x2), (3, .int x3), (4, .int s.2.1), (5, .int s.2.2)]) (hf := fun s => s.1) (Ky := K) (fun s => go_X12_parts_B27 hO s.1 x0 x1 x2 x3 s.2.1 s.2.2 hx0 (fun _ _ _ => id) hE88) (h, x4, x5)
  exact q
noncomputable def J_X12_parts_170 (h : Hp) (x0 : Nat) (x3 : Int32) (x5 : Int32) (x6 : Int32) (s0 : Nat) (s1 : Int32) : Option ((Hp × Int32) ⊕ (Hp × Int32)) :=
  if x6 = 0 then gd (ib s1 (LEN s0)) (some (.inl (uI h s0 (nx s1) ((1 : Int32)), x5 + (1 : Int32)))) else gd (ib s1 (LEN s0)) (some (.inl (uI h s0 (nx s1) ((0 : Int32)), x5 + (1 : Int32))))
set_option maxHeartbeats 4000000 in
set_option maxRecDepth 100000 in
theorem go_X12_parts_J170 {Γ : Cx} (hO : Ok Γ mX12_parts) (h : Hp) (x0 : Nat) (x3 : Int32) (x5 : Int32) (x6 : Int32) (s0 : Nat) (s1 : Int32) (hx0 : Is x0 12) (hs0 : Is s0 14) {K : (Hp × Int32) ⊕ (Hp × Int32) → Prop} (hC : ∀ (h : Hp) (x5 : Int32), K (.inl (h, x5)) → EW Γ mX12_parts 115 [(0, rf Γ x0), (3, .int x3), (5, .int x5)] [] h) (hR : ∀ r, K (.inr r) → emHI r = tgt Γ) : EG Γ mX12_parts 170 [(0, rf Γ x0), (3, .int x3), (5, .int x5), (6, .int x6)] [.int s1, rf Γ s0] h (J_X12_parts_170 h x0 x3 x5 x6 s0 s1) K := by
  unfold J_X12_parts_170
  refine x_iload hO 3 rfl dX12_parts_170 ?_
  refine x_if_eq hO (tg := 179) dX12_parts_172 (by decide) ?_ ?_
  · refine x_iconst hO (v := 1) (by decide) dX12_parts_179 ?_
    refine x_iast hO hs0 dX12_parts_180 ?_
    refine x_iinc hO 2 (v := 1) [(5, .int (x5 + (1 : Int32))), (0, rf Γ x0), (3, .int x3), (6, .int x6)] dX12_parts_181 rfl (by decide) (by decide) rfl ?_
    refine x_goto hO (tg := 115) dX12_parts_184 (by decide) ?_
    exact x_leafs [1, 2, 0] rfl (hC (uI h s0 (nx s1) ((1 : Int32))) (x5 + (1 : Int32)))
  · refine x_iconst hO (v := 0) (by decide) dX12_parts_175 ?_
    refine x_goto hO (tg := 180) dX12_parts_176 (by decide) ?_
    refine x_iast hO hs0 dX12_parts_180 ?_
    refine x_iinc hO 2 (v := 1) [(5, .int (x5 + (1 : Int32))), (0, rf Γ x0), (3, .int x3), (6, .int x6)] dX12_parts_181 rfl (by decide) (by decide) rfl ?_
    refine x_goto hO (tg := 115) dX12_parts_184 (by decide) ?_
    exact x_leafs [1, 2, 0] rfl (hC (uI h s0 (nx s1) ((0 : Int32))) (x5 + (1 : Int32)))
noncomputable def J_X12_parts_143 (h : Hp) (x0 : Nat) (x3 : Int32) (x5 : Int32) (s0 : Int32) : Option ((Hp × Int32) ⊕ (Hp × Int32)) :=
  if s0 = 0 then J_X12_parts_170 h x0 x3 x5 s0 (GR x0 48) x5 else (F_X12_waysOf h x0 x5 ((1 : Int32))).bind (fun r1 => if r1.2 ≤ 0 then J_X12_parts_170 r1.1 x0 x3 x5 s0 (GR x0 48) x5 else gd (ib x5 (LEN (GR x0 48))) (some (.inl (uI r1.1 (GR x0 48) (nx x5) ((2 : Int32)), x5 + (1 : Int32)))))
set_option maxHeartbeats 4000000 in
set_option maxRecDepth 100000 in
theorem go_X12_parts_J143 {Γ : Cx} (hO : Ok Γ mX12_parts) (h : Hp) (x0 : Nat) (x3 : Int32) (x5 : Int32) (s0 : Int32) (hx0 : Is x0 12) {K : (Hp × Int32) ⊕ (Hp × Int32) → Prop} (hC : ∀ (h : Hp) (x5 : Int32), K (.inl (h, x5)) → EW Γ mX12_parts 115 [(0, rf Γ x0), (3, .int x3), (5, .int x5)] [] h) (hR : ∀ r, K (.inr r) → emHI r = tgt Γ) : EG Γ mX12_parts 143 [(0, rf Γ x0), (3, .int x3), (5, .int x5)] [.int s0] h (J_X12_parts_143 h x0 x3 x5 s0) K := by
  unfold J_X12_parts_143
  refine x_istore hO [(6, .int s0), (0, rf Γ x0), (3, .int x3), (5, .int x5)] dX12_parts_143 (by decide) rfl ?_
  refine x_aload_n hO 1 rfl rfl dX12_parts_145 ?_
  refine x_getR hO fl_RX12_101 hx0 dX12_parts_146 ?_
  refine x_iload hO 3 rfl dX12_parts_149 ?_
  refine x_iload hO 0 rfl dX12_parts_151 ?_
  refine x_if_eq hO (tg := 170) dX12_parts_153 (by decide) ?_ ?_
  · exact x_sub [1, 2, 3, 0] rfl (go_X12_parts_J170 hO h x0 x3 x5 s0 (GR x0 48) x5 hx0 (gr_12_48 hx0) hC hR)
  · refine x_aload_n hO 1 rfl rfl dX12_parts_156 ?_
    refine x_iload hO 3 rfl dX12_parts_157 ?_
    refine x_iconst hO (v := 1) (by decide) dX12_parts_159 ?_
    refine y_HI (x_callV hO lv_RX12_391 hx0 vc_12 (by decide) (As := [.int x5, .int ((1 : Int32))]) rfl (Nat.le_of_ble_eq_true rfl) (ok_X12_waysOf (cG Γ) h x0 x5 ((1 : Int32)) hx0) dX12_parts_160 rfl (Nat.le_of_ble_eq_true rfl)) (fun r1 => ?_)
    refine x_if_le hO (tg := 170) dX12_parts_163 (by decide) ?_ ?_
    · exact x_sub [1, 2, 3, 0] rfl (go_X12_parts_J170 hO r1.1 x0 x3 x5 s0 (GR x0 48) x5 hx0 (gr_12_48 hx0) hC hR)
    · refine x_iconst hO (v := 2) (by decide) dX12_parts_166 ?_
      refine x_goto hO (tg := 180) dX12_parts_167 (by decide) ?_
      refine x_iast hO (gr_12_48 hx0) dX12_parts_180 ?_
      refine x_iinc hO 3 (v := 1) [(5, .int (x5 + (1 : Int32))), (6, .int s0), (0, rf Γ x0), (3, .int x3)] dX12_parts_181 rfl (by decide) (by decide) rfl ?_
      refine x_goto hO (tg := 115) dX12_parts_184 (by decide) ?_
      exact x_leafs [2, 3, 0] rfl (hC (uI r1.1 (GR x0 48) (nx x5) ((2 : Int32))) (x5 + (1 : Int32)))
noncomputable def B_X12_parts_115 (h : Hp) (x0 : Nat) (x3 : Int32) (x5 : Int32) : Option ((Hp × Int32) ⊕ (Hp × Int32)) :=
  if x3 ≤ x5 then (F_X12_gives h x0 (hI h x0 50)).bind (fun r1 => some (.inr ((r1.1, r1.2)))) else if (hI h x0 50) ≤ 0 then (F_X12_gives h x0 (hI h x0 50)).bind (fun r2 => some (.inr ((r2.1, r2.2)))) else (F_X12_waysOf h x0 x5 ((0 : Int32))).bind (fun r3 => if r3.2 ≤ 0 then J_X12_parts_143 r3.1 x0 x3 x5 ((0 : Int32)) else J_X12_parts_143 r3.1 x0 x3 x5 ((1 : Int32)))
noncomputable def L_X12_parts_115 (h : Hp) (x0 : Nat) (x3 : Int32) (x5 : Int32) : Option (Hp × Int32) := iterW (fun s : Hp × Int32 => B_X12_parts_115 s.1 x0 x3 s.2) (h, x5)
set_option maxHeartbeats 4000000 in
set_option maxRecDepth 100000 in
theorem go_X12_parts_B115 {Γ : Cx} (hO : Ok Γ mX12_parts) (h : Hp) (x0 : Nat) (x3 : Int32) (x5 : Int32) (hx0 : Is x0 12) {K : (Hp × Int32) ⊕ (Hp × Int32) → Prop} (hC : ∀ (h : Hp) (x5 : Int32), K (.inl (h, x5)) → EW Γ mX12_parts 115 [(0, rf Γ x0), (3, .int x3), (5, .int x5)] [] h) (hR : ∀ r, K (.inr r) → emHI r = tgt Γ) : EG Γ mX12_parts 115 [(0, rf Γ x0), (3, .int x3), (5, .int x5)] [] h (B_X12_parts_115 h x0 x3 x5) K := by
  unfold B_X12_parts_115
  refine x_iload hO 2 rfl dX12_parts_115 ?_
  refine x_iload_n hO 1 rfl rfl dX12_parts_117 ?_
  refine x_icmp_ge hO (tg := 187) dX12_parts_118 (by decide) ?_ ?_
  · refine x_aload_n hO 0 rfl rfl dX12_parts_187 ?_
    refine x_aload_n hO 0 rfl rfl dX12_parts_188 ?_
    refine x_getI hO fl_RX12_394 hx0 dX12_parts_189 ?_
    refine y_HI (x_callV hO lv_RX12_146 hx0 vc_12 (by decide) (As := [.int (hI h x0 50)]) rfl (Nat.le_of_ble_eq_true rfl) (ok_X12_gives (cG Γ) h x0 (hI h x0 50) hx0) dX12_parts_192 rfl (Nat.le_of_ble_eq_true rfl)) (fun r1 => ?_)
    exact x_iret hO rfl dX12_parts_195 (hR _)
  · refine x_aload_n hO 0 rfl rfl dX12_parts_121 ?_
    refine x_getI hO fl_RX12_394 hx0 dX12_parts_122 ?_
    refine x_if_le hO (tg := 187) dX12_parts_125 (by decide) ?_ ?_
    · refine x_aload_n hO 0 rfl rfl dX12_parts_187 ?_
      refine x_aload_n hO 0 rfl rfl dX12_parts_188 ?_
      refine x_getI hO fl_RX12_394 hx0 dX12_parts_189 ?_
      refine y_HI (x_callV hO lv_RX12_146 hx0 vc_12 (by decide) (As := [.int (hI h x0 50)]) rfl (Nat.le_of_ble_eq_true rfl) (ok_X12_gives (cG Γ) h x0 (hI h x0 50) hx0) dX12_parts_192 rfl (Nat.le_of_ble_eq_true rfl)) (fun r2 => ?_)
      exact x_iret hO rfl dX12_parts_195 (hR _)
    · refine x_aload_n hO 0 rfl rfl dX12_parts_128 ?_
      refine x_iload hO 2 rfl dX12_parts_129 ?_
      refine x_iconst hO (v := 0) (by decide) dX12_parts_131 ?_
      refine y_HI (x_callV hO lv_RX12_391 hx0 vc_12 (by decide) (As := [.int x5, .int ((0 : Int32))]) rfl (Nat.le_of_ble_eq_true rfl) (ok_X12_waysOf (cG Γ) h x0 x5 ((0 : Int32)) hx0) dX12_parts_132 rfl (Nat.le_of_ble_eq_true rfl)) (fun r3 => ?_)
      refine x_if_le hO (tg := 142) dX12_parts_135 (by decide) ?_ ?_
      · refine x_iconst hO (v := 0) (by decide) dX12_parts_142 ?_
        exact x_sub [0, 1, 2] rfl (go_X12_parts_J143 hO r3.1 x0 x3 x5 ((0 : Int32)) hx0 hC hR)
      · refine x_iconst hO (v := 1) (by decide) dX12_parts_138 ?_
        refine x_goto hO (tg := 143) dX12_parts_139 (by decide) ?_
        exact x_sub [0, 1, 2] rfl (go_X12_parts_J143 hO r3.1 x0 x3 x5 ((1 : Int32)) hx0 hC hR)
set_option maxHeartbeats 4000000 in
set_option maxRecDepth 100000 in
theorem go_X12_parts_L115 {Γ : Cx} (hO : Ok Γ mX12_parts) (h : Hp) (x0 : Nat) (x3 : Int32) (x5 : Int32) (hx0 : Is x0 12) {K : Hp × Int32 → Prop} (hR : ∀ r, K (r) → emHI r = tgt Γ) : EG Γ mX12_parts 115 [(0, rf Γ x0), (3, .int x3), (5, .int x5)] [] h (L_X12_parts_115 h x0 x3 x5) K := by
  have q := x_loop (Γ := Γ) (M := mX12_parts) (pc := 115) (B := fun s : Hp × Int32 => B_X12_parts_115 s.1 x0 x3 s.2) (lvf := fun s => [(0, rf Γ x0), (3, .int x3), (5, .int s.2)]) (hf := fun s => s.1) (Ky := K) (fun s => go_X12_parts_B115 hO s.1 x0 x3 s.2 hx0 (fun _ _ => id) hR) (h, x5)
  exact q
noncomputable def F_X12_parts (h : Hp) (x0 : Nat) (x1 : Int32) (x2 : Int32) : Option (Hp × Int32) :=
  (F_X12_isField h x1 x2).bind (fun r1 => if r1 = 0 then (F_X12_refuse h x0 ((1 : Int32))).bind (fun r4 => some ((r4.1, r4.2))) else gd (ib ((0 : Int32)) (LEN (GR x0 0))) ((L_X12_parts_27 h x0 x1 x2 (hI h (GR x0 0) (nx ((0 : Int32)))) ((1 : Int32)) ((1 : Int32))).bind (fun e2 => if e2.2 = 0 then L_X12_parts_115 (uI (uI e2.1 x0 50 ((0 : Int32))) x0 49 (hI h (GR x0 0) (nx ((0 : Int32))))) x0 (hI h (GR x0 0) (nx ((0 : Int32)))) ((0 : Int32)) else (F_X12_waysOf e2.1 x0 ((-1 : Int32)) ((0 : Int32))).bind (fun r3 => L_X12_parts_115 (uI (uI r3.1 x0 50 r3.2) x0 49 (hI h (GR x0 0) (nx ((0 : Int32))))) x0 (hI h (GR x0 0) (nx ((0 : Int32)))) ((0 : Int32))))))
set_option maxHeartbeats 4000000 in
set_option maxRecDepth 100000 in
theorem go_X12_parts {Γ : Cx} (hO : Ok Γ mX12_parts) (h : Hp) (x0 : Nat) (x1 : Int32) (x2 : Int32) (hx0 : Is x0 12) {K : Hp × Int32 → Prop} (hR : ∀ r, K r → emHI r = tgt Γ) : EG Γ mX12_parts 0 [(0, rf Γ x0), (1, .int x1), (2, .int x2)] [] h (F_X12_parts h x0 x1 x2) K := by
  unfold F_X12_parts
  refine x_iload_n hO 1 rfl rfl dX12_parts_0 ?_
  refine x_iload_n hO 2 rfl rfl dX12_parts_1 ?_
  refine y_PI (x_callS hO lt_RX12_317 (As := [.int x1, .int x2]) rfl (Nat.le_of_ble_eq_true rfl) (ok_X12_isField (cG Γ) h x1 x2) dX12_parts_2 rfl (Nat.le_of_ble_eq_true rfl)) (fun r1 => ?_)
  refine x_if_ne hO (tg := 14) dX12_parts_5 (by decide) ?_ ?_
  · refine x_aload_n hO 0 rfl rfl dX12_parts_14 ?_
    refine x_getR hO fl_RX12_7 hx0 dX12_parts_15 ?_
    refine x_iconst hO (v := 0) (by decide) dX12_parts_18 ?_
    refine x_iald hO (gr_12_0 hx0) dX12_parts_19 ?_
    refine x_istore_n hO rfl [(3, .int (hI h (GR x0 0) (nx ((0 : Int32))))), (0, rf Γ x0), (1, .int x1), (2, .int x2)] dX12_parts_20 (by decide) rfl ?_
    refine x_iconst hO (v := 1) (by decide) dX12_parts_21 ?_
    refine x_istore hO [(4, .int ((1 : Int32))), (3, .int (hI h (GR x0 0) (nx ((0 : Int32))))), (0, rf Γ x0), (1, .int x1), (2, .int x2)] dX12_parts_22 (by decide) rfl ?_
    refine x_iconst hO (v := 1) (by decide) dX12_parts_24 ?_
    refine x_istore hO [(5, .int ((1 : Int32))), (4, .int ((1 : Int32))), (3, .int (hI h (GR x0 0) (nx ((0 : Int32))))), (0, rf Γ x0), (1, .int x1), (2, .int x2)] dX12_parts_25 (by decide) rfl ?_
    refine x_bind (x_sub [3, 4, 5, 2, 1, 0] rfl (go_X12_parts_L27 hO h x0 x1 x2 (hI h (GR x0 0) (nx ((0 : Int32)))) ((1 : Int32)) ((1 : Int32)) hx0 (fun y2_0 y2_1 hx => ?_)))
    refine x_run (t := (if y2_1 = 0 then L_X12_parts_115 (uI (uI y2_0 x0 50 ((0 : Int32))) x0 49 (hI h (GR x0 0) (nx ((0 : Int32))))) x0 (hI h (GR x0 0) (nx ((0 : Int32)))) ((0 : Int32)) else (F_X12_waysOf y2_0 x0 ((-1 : Int32)) ((0 : Int32))).bind (fun r3 => L_X12_parts_115 (uI (uI r3.1 x0 50 r3.2) x0 49 (hI h (GR x0 0) (nx ((0 : Int32))))) x0 (hI h (GR x0 0) (nx ((0 : Int32)))) ((0 : Int32))) : Option (Hp × Int32))) hx ?_
    refine x_aload_n hO 0 rfl rfl dX12_parts_88 ?_
    refine x_iload hO 2 rfl dX12_parts_89 ?_
    refine x_if_eq hO (tg := 103) dX12_parts_91 (by decide) ?_ ?_
    · refine x_iconst hO (v := 0) (by decide) dX12_parts_103 ?_
      refine x_putI hO fl_RX12_394 hx0 dX12_parts_104 ?_
      refine x_aload_n hO 0 rfl rfl dX12_parts_107 ?_
      refine x_iload_n hO 1 rfl rfl dX12_parts_108 ?_
      refine x_putI hO fl_RX12_104 hx0 dX12_parts_109 ?_
      refine x_iconst hO (v := 0) (by decide) dX12_parts_112 ?_
      refine x_istore hO [(5, .int ((0 : Int32))), (0, rf Γ x0), (3, .int (hI h (GR x0 0) (nx ((0 : Int32))))), (4, .int y2_1)] dX12_parts_113 (by decide) rfl ?_
      exact x_sub [1, 2, 0] rfl (go_X12_parts_L115 hO (uI (uI y2_0 x0 50 ((0 : Int32))) x0 49 (hI h (GR x0 0) (nx ((0 : Int32))))) x0 (hI h (GR x0 0) (nx ((0 : Int32)))) ((0 : Int32)) hx0 hR)
    · refine x_aload_n hO 0 rfl rfl dX12_parts_94 ?_
      refine x_iconst hO (v := -1) (by decide) dX12_parts_95 ?_
      refine x_iconst hO (v := 0) (by decide) dX12_parts_96 ?_
      refine y_HI (x_callV hO lv_RX12_391 hx0 vc_12 (by decide) (As := [.int ((-1 : Int32)), .int ((0 : Int32))]) rfl (Nat.le_of_ble_eq_true rfl) (ok_X12_waysOf (cG Γ) y2_0 x0 ((-1 : Int32)) ((0 : Int32)) hx0) dX12_parts_97 rfl (Nat.le_of_ble_eq_true rfl)) (fun r3 => ?_)
      refine x_goto hO (tg := 104) dX12_parts_100 (by decide) ?_
      refine x_putI hO fl_RX12_394 hx0 dX12_parts_104 ?_
      refine x_aload_n hO 0 rfl rfl dX12_parts_107 ?_
      refine x_iload_n hO 1 rfl rfl dX12_parts_108 ?_
      refine x_putI hO fl_RX12_104 hx0 dX12_parts_109 ?_
      refine x_iconst hO (v := 0) (by decide) dX12_parts_112 ?_
      refine x_istore hO [(5, .int ((0 : Int32))), (0, rf Γ x0), (3, .int (hI h (GR x0 0) (nx ((0 : Int32))))), (4, .int y2_1)] dX12_parts_113 (by decide) rfl ?_
      exact x_sub [1, 2, 0] rfl (go_X12_parts_L115 hO (uI (uI r3.1 x0 50 r3.2) x0 49 (hI h (GR x0 0) (nx ((0 : Int32))))) x0 (hI h (GR x0 0) (nx ((0 : Int32)))) ((0 : Int32)) hx0 hR)
  · refine x_aload_n hO 0 rfl rfl dX12_parts_8 ?_
    refine x_iconst hO (v := 1) (by decide) dX12_parts_9 ?_
    refine y_HI (x_callV hO lv_RX12_137 hx0 vc_12 (by decide) (As := [.int ((1 : Int32))]) rfl (Nat.le_of_ble_eq_true rfl) (ok_X12_refuse (cG Γ) h x0 ((1 : Int32)) hx0) dX12_parts_10 rfl (Nat.le_of_ble_eq_true rfl)) (fun r4 => ?_)
    exact x_iret hO rfl dX12_parts_13 (hR _)
theorem ok_X12_parts (G : Gl) (h : Hp) (x0 : Nat) (x1 : Int32) (x2 : Int32) (hx0 : Is x0 12) : CN G mX12_parts [.ref (gb G + x0), .int x1, .int x2] h ((F_X12_parts h x0 x1 x2).map (emHI)) := CN.fn pn_RX12 (Nat.le_of_ble_eq_true rfl) (fun Γ hG hO => by subst hG; exact go_X12_parts hO h x0 x1 x2 hx0 (fun _ q => q))
noncomputable def B_X12_passesDeck_16 (h : Hp) (x0 : Nat) (x3 : Int32) : Option ((Hp × Int32) ⊕ (Hp)) :=
  if (hI h x0 26) ≤ x3 then some (.inr h) else gd (ib x3 (LEN (GR x0 25))) (gd (ib ((((8 : Int32)) + (((11 : Int32)) * (hI h (GR x0 25) (nx x3)))) + ((10 : Int32))) (LEN (GR x0 0))) (gd (ib ((((8 : Int32)) + (((11 : Int32)) * (hI h (GR x0 25) (nx x3)))) + ((10 : Int32))) (LEN (GR x0 0))) (bnd (uI h (GR x0 0) (nx ((((8 : Int32)) + (((11 : Int32)) * (hI h (GR x0 25) (nx x3)))) + ((10 : Int32)))) ((hI h (GR x0 0) (nx ((((8 : Int32)) + (((11 : Int32)) * (hI h (GR x0 25) (nx x3)))) + ((10 : Int32))))) + ((1 : Int32)))) (fun h1 => some (.inl (h1, x3 + (1 : Int32)))))))
noncomputable def L_X12_passesDeck_16 (h : Hp) (x0 : Nat) (x3 : Int32) : Option (Hp) := iterW (fun s : Hp × Int32 => B_X12_passesDeck_16 s.1 x0 s.2) (h, x3)
set_option maxHeartbeats 4000000 in
set_option maxRecDepth 100000 in
theorem go_X12_passesDeck_B16 {Γ : Cx} (hO : Ok Γ mX12_passesDeck) (h : Hp) (x0 : Nat) (x3 : Int32) (hx0 : Is x0 12) {K : (Hp × Int32) ⊕ (Hp) → Prop} (hC : ∀ (h : Hp) (x3 : Int32), K (.inl (h, x3)) → EW Γ mX12_passesDeck 16 [(0, rf Γ x0), (3, .int x3)] [] h) (hE54 : ∀ (h : Hp), K (.inr h) → EW Γ mX12_passesDeck 54 [(0, rf Γ x0)] [] h) : EG Γ mX12_passesDeck 16 [(0, rf Γ x0), (3, .int x3)] [] h (B_X12_passesDeck_16 h x0 x3) K := by
  unfold B_X12_passesDeck_16
  refine x_iload_n hO 1 rfl rfl dX12_passesDeck_16 ?_
  refine x_aload_n hO 0 rfl rfl dX12_passesDeck_17 ?_
  refine x_getI hO fl_RX12_277 hx0 dX12_passesDeck_18 ?_
  refine x_icmp_ge hO (tg := 54) dX12_passesDeck_21 (by decide) ?_ ?_
  · exact x_leafs [0] rfl (hE54 h)
  · refine x_aload_n hO 0 rfl rfl dX12_passesDeck_24 ?_
    refine x_getR hO fl_RX12_7 hx0 dX12_passesDeck_25 ?_
    refine x_bipush hO (v := 8) (by decide) dX12_passesDeck_28 ?_
    refine x_bipush hO (v := 11) (by decide) dX12_passesDeck_30 ?_
    refine x_aload_n hO 0 rfl rfl dX12_passesDeck_32 ?_
    refine x_getR hO fl_RX12_56 hx0 dX12_passesDeck_33 ?_
    refine x_iload_n hO 1 rfl rfl dX12_passesDeck_36 ?_
    refine x_iald hO (gr_12_25 hx0) dX12_passesDeck_37 ?_
    refine x_imul hO dX12_passesDeck_38 ?_
    refine x_iadd hO dX12_passesDeck_39 ?_
    refine x_bipush hO (v := 10) (by decide) dX12_passesDeck_40 ?_
    refine x_iadd hO dX12_passesDeck_42 ?_
    refine x_dup2_ri hO dX12_passesDeck_43 ?_
    refine x_iald hO (gr_12_0 hx0) dX12_passesDeck_44 ?_
    refine x_iconst hO (v := 1) (by decide) dX12_passesDeck_45 ?_
    refine x_iadd hO dX12_passesDeck_46 ?_
    refine x_iast hO (gr_12_0 hx0) dX12_passesDeck_47 ?_
    refine x_bnd ?_
    generalize uI h (GR x0 0) (nx ((((8 : Int32)) + (((11 : Int32)) * (hI h (GR x0 25) (nx x3)))) + ((10 : Int32)))) ((hI h (GR x0 0) (nx ((((8 : Int32)) + (((11 : Int32)) * (hI h (GR x0 25) (nx x3)))) + ((10 : Int32))))) + ((1 : Int32))) = h1
    refine x_iinc hO 1 (v := 1) [(3, .int (x3 + (1 : Int32))), (0, rf Γ x0)] dX12_passesDeck_48 rfl (by decide) (by decide) rfl ?_
    refine x_goto hO (tg := 16) dX12_passesDeck_51 (by decide) ?_
    exact x_leafs [1, 0] rfl (hC h1 (x3 + (1 : Int32)))
set_option maxHeartbeats 4000000 in
set_option maxRecDepth 100000 in
theorem go_X12_passesDeck_L16 {Γ : Cx} (hO : Ok Γ mX12_passesDeck) (h : Hp) (x0 : Nat) (x3 : Int32) (hx0 : Is x0 12) {K : Hp → Prop} (hE54 : ∀ (h : Hp), K (h) → EW Γ mX12_passesDeck 54 [(0, rf Γ x0)] [] h) : EG Γ mX12_passesDeck 16 [(0, rf Γ x0), (3, .int x3)] [] h (L_X12_passesDeck_16 h x0 x3) K := by
  have q := x_loop (Γ := Γ) (M := mX12_passesDeck) (pc := 16) (B := fun s : Hp × Int32 => B_X12_passesDeck_16 s.1 x0 s.2) (lvf := fun s => [(0, rf Γ x0), (3, .int s.2)]) (hf := fun s => s.1) (Ky := K) (fun s => go_X12_passesDeck_B16 hO s.1 x0 s.2 hx0 (fun _ _ => id) hE54) (h, x3)
  exact q
noncomputable def F_X12_passesDeck (h : Hp) (x0 : Nat) (x1 : Int32) (x2 : Int32) : Option (Hp × Int32) :=
  (F_X12_takes h x0).bind (fun r1 => (F_X12_passes r1 x0 x1 x2).bind (fun r2 => (F_X12_lays r2 x0).bind (fun r3 => (L_X12_passesDeck_16 r3 x0 ((0 : Int32))).bind (fun e4 => gd (ib ((1 : Int32)) (LEN (GR x0 0))) (gd (ib ((1 : Int32)) (LEN (GR x0 0))) (some ((uI e4 (GR x0 0) (nx ((1 : Int32))) ((hI e4 (GR x0 0) (nx ((1 : Int32)))) + ((hI e4 x0 26) + (((5 : Int32)) * (hI e4 x0 27)))), hI (uI e4 (GR x0 0) (nx ((1 : Int32))) ((hI e4 (GR x0 0) (nx ((1 : Int32)))) + ((hI e4 x0 26) + (((5 : Int32)) * (hI e4 x0 27))))) x0 27))))))))
set_option maxHeartbeats 4000000 in
set_option maxRecDepth 100000 in
theorem go_X12_passesDeck {Γ : Cx} (hO : Ok Γ mX12_passesDeck) (h : Hp) (x0 : Nat) (x1 : Int32) (x2 : Int32) (hx0 : Is x0 12) {K : Hp × Int32 → Prop} (hR : ∀ r, K r → emHI r = tgt Γ) : EG Γ mX12_passesDeck 0 [(0, rf Γ x0), (1, .int x1), (2, .int x2)] [] h (F_X12_passesDeck h x0 x1 x2) K := by
  unfold F_X12_passesDeck
  refine x_aload_n hO 0 rfl rfl dX12_passesDeck_0 ?_
  refine y_HV (x_callV hO lv_RX12_283 hx0 vc_12 (by decide) (As := []) rfl (Nat.le_of_ble_eq_true rfl) (ok_X12_takes (cG Γ) h x0 hx0) dX12_passesDeck_1 rfl (Nat.le_of_ble_eq_true rfl)) (fun r1 => ?_)
  refine x_aload_n hO 0 rfl rfl dX12_passesDeck_4 ?_
  refine x_iload_n hO 1 rfl rfl dX12_passesDeck_5 ?_
  refine x_iload_n hO 2 rfl rfl dX12_passesDeck_6 ?_
  refine y_HV (x_callV hO lv_RX12_286 hx0 vc_12 (by decide) (As := [.int x1, .int x2]) rfl (Nat.le_of_ble_eq_true rfl) (ok_X12_passes (cG Γ) r1 x0 x1 x2 hx0) dX12_passesDeck_7 rfl (Nat.le_of_ble_eq_true rfl)) (fun r2 => ?_)
  refine x_aload_n hO 0 rfl rfl dX12_passesDeck_10 ?_
  refine y_HV (x_callV hO lv_RX12_290 hx0 vc_12 (by decide) (As := []) rfl (Nat.le_of_ble_eq_true rfl) (ok_X12_lays (cG Γ) r2 x0 hx0) dX12_passesDeck_11 rfl (Nat.le_of_ble_eq_true rfl)) (fun r3 => ?_)
  refine x_iconst hO (v := 0) (by decide) dX12_passesDeck_14 ?_
  refine x_istore_n hO rfl [(3, .int ((0 : Int32))), (0, rf Γ x0), (1, .int x1), (2, .int x2)] dX12_passesDeck_15 (by decide) rfl ?_
  refine x_bind (x_sub [1, 0] rfl (go_X12_passesDeck_L16 hO r3 x0 ((0 : Int32)) hx0 (fun y4_0 hx => ?_)))
  refine x_run (t := (gd (ib ((1 : Int32)) (LEN (GR x0 0))) (gd (ib ((1 : Int32)) (LEN (GR x0 0))) (some ((uI y4_0 (GR x0 0) (nx ((1 : Int32))) ((hI y4_0 (GR x0 0) (nx ((1 : Int32)))) + ((hI y4_0 x0 26) + (((5 : Int32)) * (hI y4_0 x0 27)))), hI (uI y4_0 (GR x0 0) (nx ((1 : Int32))) ((hI y4_0 (GR x0 0) (nx ((1 : Int32)))) + ((hI y4_0 x0 26) + (((5 : Int32)) * (hI y4_0 x0 27))))) x0 27)))) : Option (Hp × Int32))) hx ?_
  refine x_aload_n hO 0 rfl rfl dX12_passesDeck_54 ?_
  refine x_getR hO fl_RX12_7 hx0 dX12_passesDeck_55 ?_
  refine x_iconst hO (v := 1) (by decide) dX12_passesDeck_58 ?_
  refine x_dup2_ri hO dX12_passesDeck_59 ?_
  refine x_iald hO (gr_12_0 hx0) dX12_passesDeck_60 ?_
  refine x_aload_n hO 0 rfl rfl dX12_passesDeck_61 ?_
  refine x_getI hO fl_RX12_277 hx0 dX12_passesDeck_62 ?_
  refine x_iconst hO (v := 5) (by decide) dX12_passesDeck_65 ?_
  refine x_aload_n hO 0 rfl rfl dX12_passesDeck_66 ?_
  refine x_getI hO fl_RX12_280 hx0 dX12_passesDeck_67 ?_
  refine x_imul hO dX12_passesDeck_70 ?_
  refine x_iadd hO dX12_passesDeck_71 ?_
  refine x_iadd hO dX12_passesDeck_72 ?_
  refine x_iast hO (gr_12_0 hx0) dX12_passesDeck_73 ?_
  refine x_aload_n hO 0 rfl rfl dX12_passesDeck_74 ?_
  refine x_getI hO fl_RX12_280 hx0 dX12_passesDeck_75 ?_
  exact x_iret hO rfl dX12_passesDeck_78 (hR _)
theorem ok_X12_passesDeck (G : Gl) (h : Hp) (x0 : Nat) (x1 : Int32) (x2 : Int32) (hx0 : Is x0 12) : CN G mX12_passesDeck [.ref (gb G + x0), .int x1, .int x2] h ((F_X12_passesDeck h x0 x1 x2).map (emHI)) := CN.fn pn_RX12 (Nat.le_of_ble_eq_true rfl) (fun Γ hG hO => by subst hG; exact go_X12_passesDeck hO h x0 x1 x2 hx0 (fun _ q => q))
noncomputable def B_X12_pocket_52 (h : Hp) (x0 : Nat) (x1 : Int32) (x2 : Int32) (x3 : Int32) (x4 : Int32) (x5 : Int32) (x6 : Int32) (x7 : Int32) (x8 : Int32) : Option ((Int32 × Int32 × Int32) ⊕ (Int32 × Int32)) :=
  gd (ib ((0 : Int32)) (LEN (GR x0 0))) (if (hI h (GR x0 0) (nx ((0 : Int32)))) ≤ x8 then some (.inr ((x6, x7))) else (F_X12_reads h x0 x8 x1).bind (fun r1 => if r1 = x2 then (F_X12_numberOf h x0 x8 x3 x4).bind (fun r2 => bnd (x7 + (if ((0 : Int32)) < r2 then r2 else ((0 : Int32)))) (fun v3 => some (.inl (x6 + (1 : Int32), v3, x8 + (1 : Int32))))) else some (.inl (x6, x7, x8 + (1 : Int32)))))
noncomputable def L_X12_pocket_52 (h : Hp) (x0 : Nat) (x1 : Int32) (x2 : Int32) (x3 : Int32) (x4 : Int32) (x5 : Int32) (x6 : Int32) (x7 : Int32) (x8 : Int32) : Option (Int32 × Int32) := iterW (fun s : Int32 × Int32 × Int32 => B_X12_pocket_52 h x0 x1 x2 x3 x4 x5 s.1 s.2.1 s.2.2) (x6, x7, x8)
set_option maxHeartbeats 4000000 in
set_option maxRecDepth 100000 in
theorem go_X12_pocket_B52 {Γ : Cx} (hO : Ok Γ mX12_pocket) (h : Hp) (x0 : Nat) (x1 : Int32) (x2 : Int32) (x3 : Int32) (x4 : Int32) (x5 : Int32) (x6 : Int32) (x7 : Int32) (x8 : Int32) (hx0 : Is x0 12) {K : (Int32 × Int32 × Int32) ⊕ (Int32 × Int32) → Prop} (hC : ∀ (x6 : Int32) (x7 : Int32) (x8 : Int32), K (.inl (x6, x7, x8)) → EW Γ mX12_pocket 52 [(0, rf Γ x0), (1, .int x1), (2, .int x2), (3, .int x3), (4, .int x4), (5, .int x5), (6, .int x6), (7, .int x7), (8, .int x8)] [] h) (hE104 : ∀ (x6 : Int32) (x7 : Int32), K (.inr ((x6, x7))) → EW Γ mX12_pocket 104 [(0, rf Γ x0), (5, .int x5), (6, .int x6), (7, .int x7)] [] h) : EG Γ mX12_pocket 52 [(0, rf Γ x0), (1, .int x1), (2, .int x2), (3, .int x3), (4, .int x4), (5, .int x5), (6, .int x6), (7, .int x7), (8, .int x8)] [] h (B_X12_pocket_52 h x0 x1 x2 x3 x4 x5 x6 x7 x8) K := by
  unfold B_X12_pocket_52
  refine x_iload hO 8 rfl dX12_pocket_52 ?_
  refine x_aload_n hO 0 rfl rfl dX12_pocket_54 ?_
  refine x_getR hO fl_RX12_7 hx0 dX12_pocket_55 ?_
  refine x_iconst hO (v := 0) (by decide) dX12_pocket_58 ?_
  refine x_iald hO (gr_12_0 hx0) dX12_pocket_59 ?_
  refine x_icmp_ge hO (tg := 104) dX12_pocket_60 (by decide) ?_ ?_
  · exact x_leafs [0, 5, 6, 7] rfl (hE104 x6 x7)
  · refine x_aload_n hO 0 rfl rfl dX12_pocket_63 ?_
    refine x_iload hO 8 rfl dX12_pocket_64 ?_
    refine x_iload_n hO 1 rfl rfl dX12_pocket_66 ?_
    refine y_PI (x_callV hO lv_RX12_155 hx0 vc_12 (by decide) (As := [.int x8, .int x1]) rfl (Nat.le_of_ble_eq_true rfl) (ok_X12_reads (cG Γ) h x0 x8 x1 hx0) dX12_pocket_67 rfl (Nat.le_of_ble_eq_true rfl)) (fun r1 => ?_)
    refine x_iload_n hO 2 rfl rfl dX12_pocket_70 ?_
    refine x_icmp_eq hO (tg := 77) dX12_pocket_71 (by decide) ?_ ?_
    · refine x_iinc hO 6 (v := 1) [(6, .int (x6 + (1 : Int32))), (0, rf Γ x0), (1, .int x1), (2, .int x2), (3, .int x3), (4, .int x4), (5, .int x5), (7, .int x7), (8, .int x8)] dX12_pocket_77 rfl (by decide) (by decide) rfl ?_
      refine x_iload hO 7 rfl dX12_pocket_80 ?_
      refine x_iconst hO (v := 0) (by decide) dX12_pocket_82 ?_
      refine x_aload_n hO 1 rfl rfl dX12_pocket_83 ?_
      refine x_iload hO 8 rfl dX12_pocket_84 ?_
      refine x_iload_n hO 4 rfl rfl dX12_pocket_86 ?_
      refine x_iload hO 5 rfl dX12_pocket_87 ?_
      refine y_PI (x_callV hO lv_RX12_321 hx0 vc_12 (by decide) (As := [.int x8, .int x3, .int x4]) rfl (Nat.le_of_ble_eq_true rfl) (ok_X12_numberOf (cG Γ) h x0 x8 x3 x4 hx0) dX12_pocket_89 rfl (Nat.le_of_ble_eq_true rfl)) (fun r2 => ?_)
      refine x_mmax hO lm_RX12_324 (Nat.le_of_ble_eq_true rfl) (Nat.le_of_ble_eq_true rfl) dX12_pocket_92 ?_
      refine x_iadd hO dX12_pocket_95 ?_
      refine x_bnd ?_
      generalize x7 + (if ((0 : Int32)) < r2 then r2 else ((0 : Int32))) = v3
      refine x_istore hO [(7, .int v3), (6, .int (x6 + (1 : Int32))), (0, rf Γ x0), (1, .int x1), (2, .int x2), (3, .int x3), (4, .int x4), (5, .int x5), (8, .int x8)] dX12_pocket_96 (by decide) rfl ?_
      refine x_iinc hO 8 (v := 1) [(8, .int (x8 + (1 : Int32))), (7, .int v3), (6, .int (x6 + (1 : Int32))), (0, rf Γ x0), (1, .int x1), (2, .int x2), (3, .int x3), (4, .int x4), (5, .int x5)] dX12_pocket_98 rfl (by decide) (by decide) rfl ?_
      refine x_goto hO (tg := 52) dX12_pocket_101 (by decide) ?_
      exact x_leafs [3, 4, 5, 6, 7, 8, 2, 1, 0] rfl (hC (x6 + (1 : Int32)) v3 (x8 + (1 : Int32)))
    · refine x_goto hO (tg := 98) dX12_pocket_74 (by decide) ?_
      refine x_iinc hO 8 (v := 1) [(8, .int (x8 + (1 : Int32))), (0, rf Γ x0), (1, .int x1), (2, .int x2), (3, .int x3), (4, .int x4), (5, .int x5), (6, .int x6), (7, .int x7)] dX12_pocket_98 rfl (by decide) (by decide) rfl ?_
      refine x_goto hO (tg := 52) dX12_pocket_101 (by decide) ?_
      exact x_leafs [1, 2, 3, 4, 5, 6, 7, 8, 0] rfl (hC x6 x7 (x8 + (1 : Int32)))
set_option maxHeartbeats 4000000 in
set_option maxRecDepth 100000 in
theorem go_X12_pocket_L52 {Γ : Cx} (hO : Ok Γ mX12_pocket) (h : Hp) (x0 : Nat) (x1 : Int32) (x2 : Int32) (x3 : Int32) (x4 : Int32) (x5 : Int32) (x6 : Int32) (x7 : Int32) (x8 : Int32) (hx0 : Is x0 12) {K : Int32 × Int32 → Prop} (hE104 : ∀ (x6 : Int32) (x7 : Int32), K ((x6, x7)) → EW Γ mX12_pocket 104 [(0, rf Γ x0), (5, .int x5), (6, .int x6), (7, .int x7)] [] h) : EG Γ mX12_pocket 52 [(0, rf Γ x0), (1, .int x1), (2, .int x2), (3, .int x3), (4, .int x4), (5, .int x5), (6, .int x6), (7, .int x7), (8, .int x8)] [] h (L_X12_pocket_52 h x0 x1 x2 x3 x4 x5 x6 x7 x8) K := by
  have q := x_loop (Γ := Γ) (M := mX12_pocket) (pc := 52) (B := fun s : Int32 × Int32 × Int32 => B_X12_pocket_52 h x0 x1 x2 x3 x4 x5 s.1 s.2.1 s.2.2) (lvf := fun s => [(0, rf Γ x0), (1, .int x1), (2, .int x2), (3, .int x3), (4, .int x4), (5, .int x5), (6, .int s.1), (7, .int s.2.1), (8, .int s.2.2)]) (hf := fun s => h) (Ky := K) (fun s => go_X12_pocket_B52 hO h x0 x1 x2 x3 x4 x5 s.1 s.2.1 s.2.2 hx0 (fun _ _ _ => id) hE104) (x6, x7, x8)
  exact q
noncomputable def F_X12_pocket (h : Hp) (x0 : Nat) (x1 : Int32) (x2 : Int32) (x3 : Int32) (x4 : Int32) (x5 : Int32) : Option (Hp × Int32) :=
  (F_X12_isColumn h x1).bind (fun r1 => if r1 = 0 then (F_X12_refuse h x0 ((1 : Int32))).bind (fun r2 => some ((r2.1, r2.2))) else if x2 < 0 then (F_X12_refuse h x0 ((1 : Int32))).bind (fun r3 => some ((r3.1, r3.2))) else if ((11 : Int32)) < x2 then (F_X12_refuse h x0 ((1 : Int32))).bind (fun r4 => some ((r4.1, r4.2))) else (F_X12_isField h x3 x4).bind (fun r5 => if r5 = 0 then (F_X12_refuse h x0 ((1 : Int32))).bind (fun r6 => some ((r6.1, r6.2))) else if x5 < 0 then (F_X12_refuse h x0 ((1 : Int32))).bind (fun r7 => some ((r7.1, r7.2))) else if x5 ≤ ((1 : Int32)) then (L_X12_pocket_52 h x0 x1 x2 x3 x4 x5 ((0 : Int32)) ((0 : Int32)) ((0 : Int32))).bind (fun e8 => if x5 = 0 then (F_X12_gives h x0 e8.1).bind (fun r10 => some ((r10.1, r10.2))) else (F_X12_gives h x0 e8.2).bind (fun r9 => some ((r9.1, r9.2)))) else (F_X12_refuse h x0 ((1 : Int32))).bind (fun r11 => some ((r11.1, r11.2)))))
set_option maxHeartbeats 4000000 in
set_option maxRecDepth 100000 in
theorem go_X12_pocket {Γ : Cx} (hO : Ok Γ mX12_pocket) (h : Hp) (x0 : Nat) (x1 : Int32) (x2 : Int32) (x3 : Int32) (x4 : Int32) (x5 : Int32) (hx0 : Is x0 12) {K : Hp × Int32 → Prop} (hR : ∀ r, K r → emHI r = tgt Γ) : EG Γ mX12_pocket 0 [(0, rf Γ x0), (1, .int x1), (2, .int x2), (3, .int x3), (4, .int x4), (5, .int x5)] [] h (F_X12_pocket h x0 x1 x2 x3 x4 x5) K := by
  unfold F_X12_pocket
  refine x_iload_n hO 1 rfl rfl dX12_pocket_0 ?_
  refine y_PI (x_callS hO lt_RX12_152 (As := [.int x1]) rfl (Nat.le_of_ble_eq_true rfl) (ok_X12_isColumn (cG Γ) h x1) dX12_pocket_1 rfl (Nat.le_of_ble_eq_true rfl)) (fun r1 => ?_)
  refine x_if_eq hO (tg := 37) dX12_pocket_4 (by decide) ?_ ?_
  · refine x_aload_n hO 0 rfl rfl dX12_pocket_37 ?_
    refine x_iconst hO (v := 1) (by decide) dX12_pocket_38 ?_
    refine y_HI (x_callV hO lv_RX12_137 hx0 vc_12 (by decide) (As := [.int ((1 : Int32))]) rfl (Nat.le_of_ble_eq_true rfl) (ok_X12_refuse (cG Γ) h x0 ((1 : Int32)) hx0) dX12_pocket_39 rfl (Nat.le_of_ble_eq_true rfl)) (fun r2 => ?_)
    exact x_iret hO rfl dX12_pocket_42 (hR _)
  · refine x_iload_n hO 2 rfl rfl dX12_pocket_7 ?_
    refine x_if_lt hO (tg := 37) dX12_pocket_8 (by decide) ?_ ?_
    · refine x_aload_n hO 0 rfl rfl dX12_pocket_37 ?_
      refine x_iconst hO (v := 1) (by decide) dX12_pocket_38 ?_
      refine y_HI (x_callV hO lv_RX12_137 hx0 vc_12 (by decide) (As := [.int ((1 : Int32))]) rfl (Nat.le_of_ble_eq_true rfl) (ok_X12_refuse (cG Γ) h x0 ((1 : Int32)) hx0) dX12_pocket_39 rfl (Nat.le_of_ble_eq_true rfl)) (fun r3 => ?_)
      exact x_iret hO rfl dX12_pocket_42 (hR _)
    · refine x_iload_n hO 2 rfl rfl dX12_pocket_11 ?_
      refine x_bipush hO (v := 11) (by decide) dX12_pocket_12 ?_
      refine x_icmp_gt hO (tg := 37) dX12_pocket_14 (by decide) ?_ ?_
      · refine x_aload_n hO 0 rfl rfl dX12_pocket_37 ?_
        refine x_iconst hO (v := 1) (by decide) dX12_pocket_38 ?_
        refine y_HI (x_callV hO lv_RX12_137 hx0 vc_12 (by decide) (As := [.int ((1 : Int32))]) rfl (Nat.le_of_ble_eq_true rfl) (ok_X12_refuse (cG Γ) h x0 ((1 : Int32)) hx0) dX12_pocket_39 rfl (Nat.le_of_ble_eq_true rfl)) (fun r4 => ?_)
        exact x_iret hO rfl dX12_pocket_42 (hR _)
      · refine x_iload_n hO 3 rfl rfl dX12_pocket_17 ?_
        refine x_iload hO 4 rfl dX12_pocket_18 ?_
        refine y_PI (x_callS hO lt_RX12_317 (As := [.int x3, .int x4]) rfl (Nat.le_of_ble_eq_true rfl) (ok_X12_isField (cG Γ) h x3 x4) dX12_pocket_20 rfl (Nat.le_of_ble_eq_true rfl)) (fun r5 => ?_)
        refine x_if_eq hO (tg := 37) dX12_pocket_23 (by decide) ?_ ?_
        · refine x_aload_n hO 0 rfl rfl dX12_pocket_37 ?_
          refine x_iconst hO (v := 1) (by decide) dX12_pocket_38 ?_
          refine y_HI (x_callV hO lv_RX12_137 hx0 vc_12 (by decide) (As := [.int ((1 : Int32))]) rfl (Nat.le_of_ble_eq_true rfl) (ok_X12_refuse (cG Γ) h x0 ((1 : Int32)) hx0) dX12_pocket_39 rfl (Nat.le_of_ble_eq_true rfl)) (fun r6 => ?_)
          exact x_iret hO rfl dX12_pocket_42 (hR _)
        · refine x_iload hO 5 rfl dX12_pocket_26 ?_
          refine x_if_lt hO (tg := 37) dX12_pocket_28 (by decide) ?_ ?_
          · refine x_aload_n hO 0 rfl rfl dX12_pocket_37 ?_
            refine x_iconst hO (v := 1) (by decide) dX12_pocket_38 ?_
            refine y_HI (x_callV hO lv_RX12_137 hx0 vc_12 (by decide) (As := [.int ((1 : Int32))]) rfl (Nat.le_of_ble_eq_true rfl) (ok_X12_refuse (cG Γ) h x0 ((1 : Int32)) hx0) dX12_pocket_39 rfl (Nat.le_of_ble_eq_true rfl)) (fun r7 => ?_)
            exact x_iret hO rfl dX12_pocket_42 (hR _)
          · refine x_iload hO 5 rfl dX12_pocket_31 ?_
            refine x_iconst hO (v := 1) (by decide) dX12_pocket_33 ?_
            refine x_icmp_le hO (tg := 43) dX12_pocket_34 (by decide) ?_ ?_
            · refine x_iconst hO (v := 0) (by decide) dX12_pocket_43 ?_
              refine x_istore hO [(6, .int ((0 : Int32))), (0, rf Γ x0), (1, .int x1), (2, .int x2), (3, .int x3), (4, .int x4), (5, .int x5)] dX12_pocket_44 (by decide) rfl ?_
              refine x_iconst hO (v := 0) (by decide) dX12_pocket_46 ?_
              refine x_istore hO [(7, .int ((0 : Int32))), (6, .int ((0 : Int32))), (0, rf Γ x0), (1, .int x1), (2, .int x2), (3, .int x3), (4, .int x4), (5, .int x5)] dX12_pocket_47 (by decide) rfl ?_
              refine x_iconst hO (v := 0) (by decide) dX12_pocket_49 ?_
              refine x_istore hO [(8, .int ((0 : Int32))), (7, .int ((0 : Int32))), (6, .int ((0 : Int32))), (0, rf Γ x0), (1, .int x1), (2, .int x2), (3, .int x3), (4, .int x4), (5, .int x5)] dX12_pocket_50 (by decide) rfl ?_
              refine x_bind (x_sub [3, 4, 5, 6, 7, 8, 2, 1, 0] rfl (go_X12_pocket_L52 hO h x0 x1 x2 x3 x4 x5 ((0 : Int32)) ((0 : Int32)) ((0 : Int32)) hx0 (fun y8_0 y8_1 hx => ?_)))
              refine x_run (t := (if x5 = 0 then (F_X12_gives h x0 y8_0).bind (fun r10 => some ((r10.1, r10.2))) else (F_X12_gives h x0 y8_1).bind (fun r9 => some ((r9.1, r9.2))) : Option (Hp × Int32))) hx ?_
              refine x_aload_n hO 0 rfl rfl dX12_pocket_104 ?_
              refine x_iload hO 1 rfl dX12_pocket_105 ?_
              refine x_if_ne hO (tg := 115) dX12_pocket_107 (by decide) ?_ ?_
              · refine x_iload hO 3 rfl dX12_pocket_115 ?_
                refine y_HI (x_callV hO lv_RX12_146 hx0 vc_12 (by decide) (As := [.int y8_1]) rfl (Nat.le_of_ble_eq_true rfl) (ok_X12_gives (cG Γ) h x0 y8_1 hx0) dX12_pocket_117 rfl (Nat.le_of_ble_eq_true rfl)) (fun r9 => ?_)
                exact x_iret hO rfl dX12_pocket_120 (hR _)
              · refine x_iload hO 2 rfl dX12_pocket_110 ?_
                refine x_goto hO (tg := 117) dX12_pocket_112 (by decide) ?_
                refine y_HI (x_callV hO lv_RX12_146 hx0 vc_12 (by decide) (As := [.int y8_0]) rfl (Nat.le_of_ble_eq_true rfl) (ok_X12_gives (cG Γ) h x0 y8_0 hx0) dX12_pocket_117 rfl (Nat.le_of_ble_eq_true rfl)) (fun r10 => ?_)
                exact x_iret hO rfl dX12_pocket_120 (hR _)
            · refine x_aload_n hO 0 rfl rfl dX12_pocket_37 ?_
              refine x_iconst hO (v := 1) (by decide) dX12_pocket_38 ?_
              refine y_HI (x_callV hO lv_RX12_137 hx0 vc_12 (by decide) (As := [.int ((1 : Int32))]) rfl (Nat.le_of_ble_eq_true rfl) (ok_X12_refuse (cG Γ) h x0 ((1 : Int32)) hx0) dX12_pocket_39 rfl (Nat.le_of_ble_eq_true rfl)) (fun r11 => ?_)
              exact x_iret hO rfl dX12_pocket_42 (hR _)
theorem ok_X12_pocket (G : Gl) (h : Hp) (x0 : Nat) (x1 : Int32) (x2 : Int32) (x3 : Int32) (x4 : Int32) (x5 : Int32) (hx0 : Is x0 12) : CN G mX12_pocket [.ref (gb G + x0), .int x1, .int x2, .int x3, .int x4, .int x5] h ((F_X12_pocket h x0 x1 x2 x3 x4 x5).map (emHI)) := CN.fn pn_RX12 (Nat.le_of_ble_eq_true rfl) (fun Γ hG hO => by subst hG; exact go_X12_pocket hO h x0 x1 x2 x3 x4 x5 hx0 (fun _ q => q))
noncomputable def B_X12_wholeSum_5 (h : Hp) (x0 : Nat) (x1 : Int32) (x2 : Int32) (x3 : Int32) (x4 : Int32) : Option ((Int32 × Int32) ⊕ (Int32)) :=
  gd (ib ((0 : Int32)) (LEN (GR x0 0))) (if (hI h (GR x0 0) (nx ((0 : Int32)))) ≤ x4 then some (.inr x3) else (F_X12_numberOf h x0 x4 x1 x2).bind (fun r1 => bnd (x3 + (if ((0 : Int32)) < r1 then r1 else ((0 : Int32)))) (fun v2 => some (.inl (v2, x4 + (1 : Int32))))))
noncomputable def L_X12_wholeSum_5 (h : Hp) (x0 : Nat) (x1 : Int32) (x2 : Int32) (x3 : Int32) (x4 : Int32) : Option (Int32) := iterW (fun s : Int32 × Int32 => B_X12_wholeSum_5 h x0 x1 x2 s.1 s.2) (x3, x4)
set_option maxHeartbeats 4000000 in
set_option maxRecDepth 100000 in
theorem go_X12_wholeSum_B5 {Γ : Cx} (hO : Ok Γ mX12_wholeSum) (h : Hp) (x0 : Nat) (x1 : Int32) (x2 : Int32) (x3 : Int32) (x4 : Int32) (hx0 : Is x0 12) {K : (Int32 × Int32) ⊕ (Int32) → Prop} (hC : ∀ (x3 : Int32) (x4 : Int32), K (.inl (x3, x4)) → EW Γ mX12_wholeSum 5 [(0, rf Γ x0), (1, .int x1), (2, .int x2), (3, .int x3), (4, .int x4)] [] h) (hR : ∀ r, K (.inr r) → emPI h r = tgt Γ) : EG Γ mX12_wholeSum 5 [(0, rf Γ x0), (1, .int x1), (2, .int x2), (3, .int x3), (4, .int x4)] [] h (B_X12_wholeSum_5 h x0 x1 x2 x3 x4) K := by
  unfold B_X12_wholeSum_5
  refine x_iload hO 4 rfl dX12_wholeSum_5 ?_
  refine x_aload_n hO 0 rfl rfl dX12_wholeSum_7 ?_
  refine x_getR hO fl_RX12_7 hx0 dX12_wholeSum_8 ?_
  refine x_iconst hO (v := 0) (by decide) dX12_wholeSum_11 ?_
  refine x_iald hO (gr_12_0 hx0) dX12_wholeSum_12 ?_
  refine x_icmp_ge hO (tg := 37) dX12_wholeSum_13 (by decide) ?_ ?_
  · refine x_iload_n hO 3 rfl rfl dX12_wholeSum_37 ?_
    exact x_iret hO rfl dX12_wholeSum_38 (hR _)
  · refine x_iload_n hO 3 rfl rfl dX12_wholeSum_16 ?_
    refine x_iconst hO (v := 0) (by decide) dX12_wholeSum_17 ?_
    refine x_aload_n hO 0 rfl rfl dX12_wholeSum_18 ?_
    refine x_iload hO 4 rfl dX12_wholeSum_19 ?_
    refine x_iload_n hO 1 rfl rfl dX12_wholeSum_21 ?_
    refine x_iload_n hO 2 rfl rfl dX12_wholeSum_22 ?_
    refine y_PI (x_callV hO lv_RX12_321 hx0 vc_12 (by decide) (As := [.int x4, .int x1, .int x2]) rfl (Nat.le_of_ble_eq_true rfl) (ok_X12_numberOf (cG Γ) h x0 x4 x1 x2 hx0) dX12_wholeSum_23 rfl (Nat.le_of_ble_eq_true rfl)) (fun r1 => ?_)
    refine x_mmax hO lm_RX12_324 (Nat.le_of_ble_eq_true rfl) (Nat.le_of_ble_eq_true rfl) dX12_wholeSum_26 ?_
    refine x_iadd hO dX12_wholeSum_29 ?_
    refine x_bnd ?_
    generalize x3 + (if ((0 : Int32)) < r1 then r1 else ((0 : Int32))) = v2
    refine x_istore_n hO rfl [(3, .int v2), (0, rf Γ x0), (1, .int x1), (2, .int x2), (4, .int x4)] dX12_wholeSum_30 (by decide) rfl ?_
    refine x_iinc hO 4 (v := 1) [(4, .int (x4 + (1 : Int32))), (3, .int v2), (0, rf Γ x0), (1, .int x1), (2, .int x2)] dX12_wholeSum_31 rfl (by decide) (by decide) rfl ?_
    refine x_goto hO (tg := 5) dX12_wholeSum_34 (by decide) ?_
    exact x_leafs [2, 3, 4, 1, 0] rfl (hC v2 (x4 + (1 : Int32)))
set_option maxHeartbeats 4000000 in
set_option maxRecDepth 100000 in
theorem go_X12_wholeSum_L5 {Γ : Cx} (hO : Ok Γ mX12_wholeSum) (h : Hp) (x0 : Nat) (x1 : Int32) (x2 : Int32) (x3 : Int32) (x4 : Int32) (hx0 : Is x0 12) {K : Int32 → Prop} (hR : ∀ r, K (r) → emPI h r = tgt Γ) : EG Γ mX12_wholeSum 5 [(0, rf Γ x0), (1, .int x1), (2, .int x2), (3, .int x3), (4, .int x4)] [] h (L_X12_wholeSum_5 h x0 x1 x2 x3 x4) K := by
  have q := x_loop (Γ := Γ) (M := mX12_wholeSum) (pc := 5) (B := fun s : Int32 × Int32 => B_X12_wholeSum_5 h x0 x1 x2 s.1 s.2) (lvf := fun s => [(0, rf Γ x0), (1, .int x1), (2, .int x2), (3, .int s.1), (4, .int s.2)]) (hf := fun s => h) (Ky := K) (fun s => go_X12_wholeSum_B5 hO h x0 x1 x2 s.1 s.2 hx0 (fun _ _ => id) hR) (x3, x4)
  exact q
noncomputable def F_X12_wholeSum (h : Hp) (x0 : Nat) (x1 : Int32) (x2 : Int32) : Option (Int32) :=
  L_X12_wholeSum_5 h x0 x1 x2 ((0 : Int32)) ((0 : Int32))
set_option maxHeartbeats 4000000 in
set_option maxRecDepth 100000 in
theorem go_X12_wholeSum {Γ : Cx} (hO : Ok Γ mX12_wholeSum) (h : Hp) (x0 : Nat) (x1 : Int32) (x2 : Int32) (hx0 : Is x0 12) {K : Int32 → Prop} (hR : ∀ r, K r → emPI h r = tgt Γ) : EG Γ mX12_wholeSum 0 [(0, rf Γ x0), (1, .int x1), (2, .int x2)] [] h (F_X12_wholeSum h x0 x1 x2) K := by
  unfold F_X12_wholeSum
  refine x_iconst hO (v := 0) (by decide) dX12_wholeSum_0 ?_
  refine x_istore_n hO rfl [(3, .int ((0 : Int32))), (0, rf Γ x0), (1, .int x1), (2, .int x2)] dX12_wholeSum_1 (by decide) rfl ?_
  refine x_iconst hO (v := 0) (by decide) dX12_wholeSum_2 ?_
  refine x_istore hO [(4, .int ((0 : Int32))), (3, .int ((0 : Int32))), (0, rf Γ x0), (1, .int x1), (2, .int x2)] dX12_wholeSum_3 (by decide) rfl ?_
  exact x_sub [2, 3, 4, 1, 0] rfl (go_X12_wholeSum_L5 hO h x0 x1 x2 ((0 : Int32)) ((0 : Int32)) hx0 hR)
theorem ok_X12_wholeSum (G : Gl) (h : Hp) (x0 : Nat) (x1 : Int32) (x2 : Int32) (hx0 : Is x0 12) : CN G mX12_wholeSum [.ref (gb G + x0), .int x1, .int x2] h ((F_X12_wholeSum h x0 x1 x2).map (emPI h)) := CN.fn pn_RX12 (Nat.le_of_ble_eq_true rfl) (fun Γ hG hO => by subst hG; exact go_X12_wholeSum hO h x0 x1 x2 hx0 (fun _ q => q))
noncomputable def J_X2_matchedBy_90 (h : Hp) (x0 : Nat) (x1 : Int32) (x2 : Int32) (x4 : Int32) (x5 : Int32) (x6 : Int32) (x7 : Int32) (x8 : Int32) (s0 : Int32) : Option ((Int32 × Int32) ⊕ (Int32)) :=
  if s0 = 0 then some (.inl (x6, x7 + (1 : Int32))) else (F_X2_hasNumber h x0 (((1 : Int32)) - x4) x8 x1 x2 (hI h x0 0)).bind (fun r1 => if r1 = x5 then some (.inl (x6 + (1 : Int32), x7 + (1 : Int32))) else some (.inl (x6, x7 + (1 : Int32))))
set_option maxHeartbeats 4000000 in
set_option maxRecDepth 100000 in
theorem go_X2_matchedBy_J90 {Γ : Cx} (hO : Ok Γ mX2_matchedBy) (h : Hp) (x0 : Nat) (x1 : Int32) (x2 : Int32) (x4 : Int32) (x5 : Int32) (x6 : Int32) (x7 : Int32) (x8 : Int32) (s0 : Int32) (hx0 : Is x0 2) {K : (Int32 × Int32) ⊕ (Int32) → Prop} (hC : ∀ (x6 : Int32) (x7 : Int32), K (.inl (x6, x7)) → EW Γ mX2_matchedBy 29 [(0, rf Γ x0), (1, .int x1), (2, .int x2), (4, .int x4), (5, .int x5), (6, .int x6), (7, .int x7)] [] h) (hR : ∀ r, K (.inr r) → emPI h r = tgt Γ) : EG Γ mX2_matchedBy 90 [(0, rf Γ x0), (1, .int x1), (2, .int x2), (4, .int x4), (5, .int x5), (6, .int x6), (7, .int x7), (8, .int x8)] [.int s0] h (J_X2_matchedBy_90 h x0 x1 x2 x4 x5 x6 x7 x8 s0) K := by
  unfold J_X2_matchedBy_90
  refine x_istore hO [(9, .int s0), (0, rf Γ x0), (1, .int x1), (2, .int x2), (4, .int x4), (5, .int x5), (6, .int x6), (7, .int x7), (8, .int x8)] dX2_matchedBy_90 (by decide) rfl ?_
  refine x_iload hO 0 rfl dX2_matchedBy_92 ?_
  refine x_if_eq hO (tg := 121) dX2_matchedBy_94 (by decide) ?_ ?_
  · refine x_iinc hO 7 (v := 1) [(7, .int (x7 + (1 : Int32))), (9, .int s0), (0, rf Γ x0), (1, .int x1), (2, .int x2), (4, .int x4), (5, .int x5), (6, .int x6), (8, .int x8)] dX2_matchedBy_121 rfl (by decide) (by decide) rfl ?_
    refine x_goto hO (tg := 29) dX2_matchedBy_124 (by decide) ?_
    exact x_leafs [2, 3, 4, 5, 6, 7, 0] rfl (hC x6 (x7 + (1 : Int32)))
  · refine x_aload_n hO 1 rfl rfl dX2_matchedBy_97 ?_
    refine x_iconst hO (v := 1) (by decide) dX2_matchedBy_98 ?_
    refine x_iload hO 4 rfl dX2_matchedBy_99 ?_
    refine x_isub hO dX2_matchedBy_101 ?_
    refine x_iload hO 8 rfl dX2_matchedBy_102 ?_
    refine x_iload_n hO 2 rfl rfl dX2_matchedBy_104 ?_
    refine x_iload_n hO 3 rfl rfl dX2_matchedBy_105 ?_
    refine x_aload_n hO 1 rfl rfl dX2_matchedBy_106 ?_
    refine x_getI hO fl_RX2_9 hx0 dX2_matchedBy_107 ?_
    refine y_PI (x_callV hO lv_RX2_85 hx0 vc_2 (by decide) (As := [.int (((1 : Int32)) - x4), .int x8, .int x1, .int x2, .int (hI h x0 0)]) rfl (Nat.le_of_ble_eq_true rfl) (ok_X2_hasNumber (cG Γ) h x0 (((1 : Int32)) - x4) x8 x1 x2 (hI h x0 0) hx0) dX2_matchedBy_110 rfl (Nat.le_of_ble_eq_true rfl)) (fun r1 => ?_)
    refine x_iload hO 5 rfl dX2_matchedBy_113 ?_
    refine x_icmp_ne hO (tg := 121) dX2_matchedBy_115 (by decide) ?_ ?_
    · refine x_iinc hO 7 (v := 1) [(7, .int (x7 + (1 : Int32))), (9, .int s0), (0, rf Γ x0), (1, .int x1), (2, .int x2), (4, .int x4), (5, .int x5), (6, .int x6), (8, .int x8)] dX2_matchedBy_121 rfl (by decide) (by decide) rfl ?_
      refine x_goto hO (tg := 29) dX2_matchedBy_124 (by decide) ?_
      exact x_leafs [2, 3, 4, 5, 6, 7, 0] rfl (hC x6 (x7 + (1 : Int32)))
    · refine x_iinc hO 6 (v := 1) [(6, .int (x6 + (1 : Int32))), (9, .int s0), (0, rf Γ x0), (1, .int x1), (2, .int x2), (4, .int x4), (5, .int x5), (7, .int x7), (8, .int x8)] dX2_matchedBy_118 rfl (by decide) (by decide) rfl ?_
      refine x_iinc hO 7 (v := 1) [(7, .int (x7 + (1 : Int32))), (6, .int (x6 + (1 : Int32))), (9, .int s0), (0, rf Γ x0), (1, .int x1), (2, .int x2), (4, .int x4), (5, .int x5), (8, .int x8)] dX2_matchedBy_121 rfl (by decide) (by decide) rfl ?_
      refine x_goto hO (tg := 29) dX2_matchedBy_124 (by decide) ?_
      exact x_leafs [3, 4, 5, 6, 7, 1, 0] rfl (hC (x6 + (1 : Int32)) (x7 + (1 : Int32)))
noncomputable def J_X2_matchedBy_89 (h : Hp) (x0 : Nat) (x1 : Int32) (x2 : Int32) (x4 : Int32) (x5 : Int32) (x6 : Int32) (x7 : Int32) (x8 : Int32) : Option ((Int32 × Int32) ⊕ (Int32)) :=
  J_X2_matchedBy_90 h x0 x1 x2 x4 x5 x6 x7 x8 ((0 : Int32))
set_option maxHeartbeats 4000000 in
set_option maxRecDepth 100000 in
theorem go_X2_matchedBy_J89 {Γ : Cx} (hO : Ok Γ mX2_matchedBy) (h : Hp) (x0 : Nat) (x1 : Int32) (x2 : Int32) (x4 : Int32) (x5 : Int32) (x6 : Int32) (x7 : Int32) (x8 : Int32) (hx0 : Is x0 2) {K : (Int32 × Int32) ⊕ (Int32) → Prop} (hC : ∀ (x6 : Int32) (x7 : Int32), K (.inl (x6, x7)) → EW Γ mX2_matchedBy 29 [(0, rf Γ x0), (1, .int x1), (2, .int x2), (4, .int x4), (5, .int x5), (6, .int x6), (7, .int x7)] [] h) (hR : ∀ r, K (.inr r) → emPI h r = tgt Γ) : EG Γ mX2_matchedBy 89 [(0, rf Γ x0), (1, .int x1), (2, .int x2), (4, .int x4), (5, .int x5), (6, .int x6), (7, .int x7), (8, .int x8)] [] h (J_X2_matchedBy_89 h x0 x1 x2 x4 x5 x6 x7 x8) K := by
  unfold J_X2_matchedBy_89
  refine x_iconst hO (v := 0) (by decide) dX2_matchedBy_89 ?_
  exact x_sub [0, 1, 2, 3, 4, 5, 6, 7] rfl (go_X2_matchedBy_J90 hO h x0 x1 x2 x4 x5 x6 x7 x8 ((0 : Int32)) hx0 hC hR)
noncomputable def J_X2_matchedBy_62 (h : Hp) (x0 : Nat) (x1 : Int32) (x2 : Int32) (x4 : Int32) (x5 : Int32) (x6 : Int32) (x7 : Int32) (s0 : Int32) : Option ((Int32 × Int32) ⊕ (Int32)) :=
  if s0 = ((-1 : Int32)) then J_X2_matchedBy_89 h x0 x1 x2 x4 x5 x6 x7 s0 else (F_X2_hasNumber h x0 x4 s0 x1 x2 x7).bind (fun r1 => if r1 = 0 then J_X2_matchedBy_90 h x0 x1 x2 x4 x5 x6 x7 s0 ((1 : Int32)) else J_X2_matchedBy_89 h x0 x1 x2 x4 x5 x6 x7 s0)
set_option maxHeartbeats 4000000 in
set_option maxRecDepth 100000 in
theorem go_X2_matchedBy_J62 {Γ : Cx} (hO : Ok Γ mX2_matchedBy) (h : Hp) (x0 : Nat) (x1 : Int32) (x2 : Int32) (x4 : Int32) (x5 : Int32) (x6 : Int32) (x7 : Int32) (s0 : Int32) (hx0 : Is x0 2) {K : (Int32 × Int32) ⊕ (Int32) → Prop} (hC : ∀ (x6 : Int32) (x7 : Int32), K (.inl (x6, x7)) → EW Γ mX2_matchedBy 29 [(0, rf Γ x0), (1, .int x1), (2, .int x2), (4, .int x4), (5, .int x5), (6, .int x6), (7, .int x7)] [] h) (hR : ∀ r, K (.inr r) → emPI h r = tgt Γ) : EG Γ mX2_matchedBy 62 [(0, rf Γ x0), (1, .int x1), (2, .int x2), (4, .int x4), (5, .int x5), (6, .int x6), (7, .int x7)] [.int s0] h (J_X2_matchedBy_62 h x0 x1 x2 x4 x5 x6 x7 s0) K := by
  unfold J_X2_matchedBy_62
  refine x_istore hO [(8, .int s0), (0, rf Γ x0), (1, .int x1), (2, .int x2), (4, .int x4), (5, .int x5), (6, .int x6), (7, .int x7)] dX2_matchedBy_62 (by decide) rfl ?_
  refine x_iload hO 0 rfl dX2_matchedBy_64 ?_
  refine x_iconst hO (v := -1) (by decide) dX2_matchedBy_66 ?_
  refine x_icmp_eq hO (tg := 89) dX2_matchedBy_67 (by decide) ?_ ?_
  · exact x_sub [1, 2, 3, 4, 5, 6, 7, 0] rfl (go_X2_matchedBy_J89 hO h x0 x1 x2 x4 x5 x6 x7 s0 hx0 hC hR)
  · refine x_aload_n hO 1 rfl rfl dX2_matchedBy_70 ?_
    refine x_iload hO 4 rfl dX2_matchedBy_71 ?_
    refine x_iload hO 0 rfl dX2_matchedBy_73 ?_
    refine x_iload_n hO 2 rfl rfl dX2_matchedBy_75 ?_
    refine x_iload_n hO 3 rfl rfl dX2_matchedBy_76 ?_
    refine x_iload hO 7 rfl dX2_matchedBy_77 ?_
    refine y_PI (x_callV hO lv_RX2_85 hx0 vc_2 (by decide) (As := [.int x4, .int s0, .int x1, .int x2, .int x7]) rfl (Nat.le_of_ble_eq_true rfl) (ok_X2_hasNumber (cG Γ) h x0 x4 s0 x1 x2 x7 hx0) dX2_matchedBy_79 rfl (Nat.le_of_ble_eq_true rfl)) (fun r1 => ?_)
    refine x_if_ne hO (tg := 89) dX2_matchedBy_82 (by decide) ?_ ?_
    · exact x_sub [1, 2, 3, 4, 5, 6, 7, 0] rfl (go_X2_matchedBy_J89 hO h x0 x1 x2 x4 x5 x6 x7 s0 hx0 hC hR)
    · refine x_iconst hO (v := 1) (by decide) dX2_matchedBy_85 ?_
      refine x_goto hO (tg := 90) dX2_matchedBy_86 (by decide) ?_
      exact x_sub [1, 2, 3, 4, 5, 6, 7, 0] rfl (go_X2_matchedBy_J90 hO h x0 x1 x2 x4 x5 x6 x7 s0 ((1 : Int32)) hx0 hC hR)
noncomputable def B_X2_matchedBy_29 (h : Hp) (x0 : Nat) (x1 : Int32) (x2 : Int32) (x4 : Int32) (x5 : Int32) (x6 : Int32) (x7 : Int32) : Option ((Int32 × Int32) ⊕ (Int32)) :=
  if (hI h x0 0) ≤ x7 then some (.inr x6) else gd (ib x7 (LEN (GR x0 5))) (if (hI h (GR x0 5) (nx x7)) = x4 then (F_X2_fieldOf h x0 x7 x1 x2).bind (fun r1 => J_X2_matchedBy_62 h x0 x1 x2 x4 x5 x6 x7 r1) else J_X2_matchedBy_62 h x0 x1 x2 x4 x5 x6 x7 ((-1 : Int32)))
noncomputable def L_X2_matchedBy_29 (h : Hp) (x0 : Nat) (x1 : Int32) (x2 : Int32) (x4 : Int32) (x5 : Int32) (x6 : Int32) (x7 : Int32) : Option (Int32) := iterW (fun s : Int32 × Int32 => B_X2_matchedBy_29 h x0 x1 x2 x4 x5 s.1 s.2) (x6, x7)
set_option maxHeartbeats 4000000 in
set_option maxRecDepth 100000 in
theorem go_X2_matchedBy_B29 {Γ : Cx} (hO : Ok Γ mX2_matchedBy) (h : Hp) (x0 : Nat) (x1 : Int32) (x2 : Int32) (x4 : Int32) (x5 : Int32) (x6 : Int32) (x7 : Int32) (hx0 : Is x0 2) {K : (Int32 × Int32) ⊕ (Int32) → Prop} (hC : ∀ (x6 : Int32) (x7 : Int32), K (.inl (x6, x7)) → EW Γ mX2_matchedBy 29 [(0, rf Γ x0), (1, .int x1), (2, .int x2), (4, .int x4), (5, .int x5), (6, .int x6), (7, .int x7)] [] h) (hR : ∀ r, K (.inr r) → emPI h r = tgt Γ) : EG Γ mX2_matchedBy 29 [(0, rf Γ x0), (1, .int x1), (2, .int x2), (4, .int x4), (5, .int x5), (6, .int x6), (7, .int x7)] [] h (B_X2_matchedBy_29 h x0 x1 x2 x4 x5 x6 x7) K := by
  unfold B_X2_matchedBy_29
  refine x_iload hO 6 rfl dX2_matchedBy_29 ?_
  refine x_aload_n hO 0 rfl rfl dX2_matchedBy_31 ?_
  refine x_getI hO fl_RX2_9 hx0 dX2_matchedBy_32 ?_
  refine x_icmp_ge hO (tg := 127) dX2_matchedBy_35 (by decide) ?_ ?_
  · refine x_iload hO 5 rfl dX2_matchedBy_127 ?_
    exact x_iret hO rfl dX2_matchedBy_129 (hR _)
  · refine x_aload_n hO 0 rfl rfl dX2_matchedBy_38 ?_
    refine x_getR hO fl_RX2_28 hx0 dX2_matchedBy_39 ?_
    refine x_iload hO 6 rfl dX2_matchedBy_42 ?_
    refine x_iald hO (gr_2_5 hx0) dX2_matchedBy_44 ?_
    refine x_iload hO 3 rfl dX2_matchedBy_45 ?_
    refine x_icmp_ne hO (tg := 61) dX2_matchedBy_47 (by decide) ?_ ?_
    · refine x_iconst hO (v := -1) (by decide) dX2_matchedBy_61 ?_
      exact x_sub [0, 1, 2, 3, 4, 5, 6] rfl (go_X2_matchedBy_J62 hO h x0 x1 x2 x4 x5 x6 x7 ((-1 : Int32)) hx0 hC hR)
    · refine x_aload_n hO 0 rfl rfl dX2_matchedBy_50 ?_
      refine x_iload hO 6 rfl dX2_matchedBy_51 ?_
      refine x_iload_n hO 1 rfl rfl dX2_matchedBy_53 ?_
      refine x_iload_n hO 2 rfl rfl dX2_matchedBy_54 ?_
      refine y_PI (x_callV hO lv_RX2_76 hx0 vc_2 (by decide) (As := [.int x7, .int x1, .int x2]) rfl (Nat.le_of_ble_eq_true rfl) (ok_X2_fieldOf (cG Γ) h x0 x7 x1 x2 hx0) dX2_matchedBy_55 rfl (Nat.le_of_ble_eq_true rfl)) (fun r1 => ?_)
      refine x_goto hO (tg := 62) dX2_matchedBy_58 (by decide) ?_
      exact x_sub [0, 1, 2, 3, 4, 5, 6] rfl (go_X2_matchedBy_J62 hO h x0 x1 x2 x4 x5 x6 x7 r1 hx0 hC hR)
set_option maxHeartbeats 4000000 in
set_option maxRecDepth 100000 in
theorem go_X2_matchedBy_L29 {Γ : Cx} (hO : Ok Γ mX2_matchedBy) (h : Hp) (x0 : Nat) (x1 : Int32) (x2 : Int32) (x4 : Int32) (x5 : Int32) (x6 : Int32) (x7 : Int32) (hx0 : Is x0 2) {K : Int32 → Prop} (hR : ∀ r, K (r) → emPI h r = tgt Γ) : EG Γ mX2_matchedBy 29 [(0, rf Γ x0), (1, .int x1), (2, .int x2), (4, .int x4), (5, .int x5), (6, .int x6), (7, .int x7)] [] h (L_X2_matchedBy_29 h x0 x1 x2 x4 x5 x6 x7) K := by
  have q := x_loop (Γ := Γ) (M := mX2_matchedBy) (pc := 29) (B := fun s : Int32 × Int32 => B_X2_matchedBy_29 h x0 x1 x2 x4 x5 s.1 s.2) (lvf := fun s => [(0, rf Γ x0), (1, .int x1), (2, .int x2), (4, .int x4), (5, .int x5), (6, .int s.1), (7, .int s.2)]) (hf := fun s => h) (Ky := K) (fun s => go_X2_matchedBy_B29 hO h x0 x1 x2 x4 x5 s.1 s.2 hx0 (fun _ _ => id) hR) (x6, x7)
  exact q
noncomputable def J_X2_matchedBy_10 (h : Hp) (x0 : Nat) (x1 : Int32) (x2 : Int32) (x3 : Int32) (s0 : Int32) : Option (Int32) :=
  if x3 = 0 then L_X2_matchedBy_29 h x0 x1 x2 s0 ((1 : Int32)) ((0 : Int32)) ((0 : Int32)) else L_X2_matchedBy_29 h x0 x1 x2 s0 ((0 : Int32)) ((0 : Int32)) ((0 : Int32))
set_option maxHeartbeats 4000000 in
set_option maxRecDepth 100000 in
theorem go_X2_matchedBy_J10 {Γ : Cx} (hO : Ok Γ mX2_matchedBy) (h : Hp) (x0 : Nat) (x1 : Int32) (x2 : Int32) (x3 : Int32) (s0 : Int32) (hx0 : Is x0 2) {K : Int32 → Prop} (hR : ∀ r, K r → emPI h r = tgt Γ) : EG Γ mX2_matchedBy 10 [(0, rf Γ x0), (1, .int x1), (2, .int x2), (3, .int x3)] [.int s0] h (J_X2_matchedBy_10 h x0 x1 x2 x3 s0) K := by
  unfold J_X2_matchedBy_10
  refine x_istore hO [(4, .int s0), (0, rf Γ x0), (1, .int x1), (2, .int x2), (3, .int x3)] dX2_matchedBy_10 (by decide) rfl ?_
  refine x_iload_n hO 4 rfl rfl dX2_matchedBy_12 ?_
  refine x_if_ne hO (tg := 20) dX2_matchedBy_13 (by decide) ?_ ?_
  · refine x_iconst hO (v := 0) (by decide) dX2_matchedBy_20 ?_
    refine x_istore hO [(5, .int ((0 : Int32))), (4, .int s0), (0, rf Γ x0), (1, .int x1), (2, .int x2), (3, .int x3)] dX2_matchedBy_21 (by decide) rfl ?_
    refine x_iconst hO (v := 0) (by decide) dX2_matchedBy_23 ?_
    refine x_istore hO [(6, .int ((0 : Int32))), (5, .int ((0 : Int32))), (4, .int s0), (0, rf Γ x0), (1, .int x1), (2, .int x2), (3, .int x3)] dX2_matchedBy_24 (by decide) rfl ?_
    refine x_iconst hO (v := 0) (by decide) dX2_matchedBy_26 ?_
    refine x_istore hO [(7, .int ((0 : Int32))), (6, .int ((0 : Int32))), (5, .int ((0 : Int32))), (4, .int s0), (0, rf Γ x0), (1, .int x1), (2, .int x2), (3, .int x3)] dX2_matchedBy_27 (by decide) rfl ?_
    exact x_sub [4, 5, 6, 3, 2, 1, 0] rfl (go_X2_matchedBy_L29 hO h x0 x1 x2 s0 ((0 : Int32)) ((0 : Int32)) ((0 : Int32)) hx0 hR)
  · refine x_iconst hO (v := 1) (by decide) dX2_matchedBy_16 ?_
    refine x_goto hO (tg := 21) dX2_matchedBy_17 (by decide) ?_
    refine x_istore hO [(5, .int ((1 : Int32))), (4, .int s0), (0, rf Γ x0), (1, .int x1), (2, .int x2), (3, .int x3)] dX2_matchedBy_21 (by decide) rfl ?_
    refine x_iconst hO (v := 0) (by decide) dX2_matchedBy_23 ?_
    refine x_istore hO [(6, .int ((0 : Int32))), (5, .int ((1 : Int32))), (4, .int s0), (0, rf Γ x0), (1, .int x1), (2, .int x2), (3, .int x3)] dX2_matchedBy_24 (by decide) rfl ?_
    refine x_iconst hO (v := 0) (by decide) dX2_matchedBy_26 ?_
    refine x_istore hO [(7, .int ((0 : Int32))), (6, .int ((0 : Int32))), (5, .int ((1 : Int32))), (4, .int s0), (0, rf Γ x0), (1, .int x1), (2, .int x2), (3, .int x3)] dX2_matchedBy_27 (by decide) rfl ?_
    exact x_sub [4, 5, 6, 3, 2, 1, 0] rfl (go_X2_matchedBy_L29 hO h x0 x1 x2 s0 ((1 : Int32)) ((0 : Int32)) ((0 : Int32)) hx0 hR)
noncomputable def F_X2_matchedBy (h : Hp) (x0 : Nat) (x1 : Int32) (x2 : Int32) (x3 : Int32) : Option (Int32) :=
  if x3 = ((2 : Int32)) then J_X2_matchedBy_10 h x0 x1 x2 x3 ((1 : Int32)) else J_X2_matchedBy_10 h x0 x1 x2 x3 ((0 : Int32))
set_option maxHeartbeats 4000000 in
set_option maxRecDepth 100000 in
theorem go_X2_matchedBy {Γ : Cx} (hO : Ok Γ mX2_matchedBy) (h : Hp) (x0 : Nat) (x1 : Int32) (x2 : Int32) (x3 : Int32) (hx0 : Is x0 2) {K : Int32 → Prop} (hR : ∀ r, K r → emPI h r = tgt Γ) : EG Γ mX2_matchedBy 0 [(0, rf Γ x0), (1, .int x1), (2, .int x2), (3, .int x3)] [] h (F_X2_matchedBy h x0 x1 x2 x3) K := by
  unfold F_X2_matchedBy
  refine x_iload_n hO 3 rfl rfl dX2_matchedBy_0 ?_
  refine x_iconst hO (v := 2) (by decide) dX2_matchedBy_1 ?_
  refine x_icmp_ne hO (tg := 9) dX2_matchedBy_2 (by decide) ?_ ?_
  · refine x_iconst hO (v := 0) (by decide) dX2_matchedBy_9 ?_
    exact x_sub [0, 1, 2, 3] rfl (go_X2_matchedBy_J10 hO h x0 x1 x2 x3 ((0 : Int32)) hx0 hR)
  · refine x_iconst hO (v := 1) (by decide) dX2_matchedBy_5 ?_
    refine x_goto hO (tg := 10) dX2_matchedBy_6 (by decide) ?_
    exact x_sub [0, 1, 2, 3] rfl (go_X2_matchedBy_J10 hO h x0 x1 x2 x3 ((1 : Int32)) hx0 hR)
theorem ok_X2_matchedBy (G : Gl) (h : Hp) (x0 : Nat) (x1 : Int32) (x2 : Int32) (x3 : Int32) (hx0 : Is x0 2) : CN G mX2_matchedBy [.ref (gb G + x0), .int x1, .int x2, .int x3] h ((F_X2_matchedBy h x0 x1 x2 x3).map (emPI h)) := CN.fn pn_RX2 (Nat.le_of_ble_eq_true rfl) (fun Γ hG hO => by subst hG; exact go_X2_matchedBy hO h x0 x1 x2 x3 hx0 (fun _ q => q))
noncomputable def F_X3_doStep (h : Hp) (x0 : Nat) (x1 : Nat) (x2 : Int32) : Option (Hp × Int32) :=
  gd (ib x2 (LEN (GR (GR x1 9) 3))) (gd (ib x2 (LEN (GR (GR x1 9) 4))) (gd (ib x2 (LEN (GR (GR x1 9) 2))) (swt (hI h (GR (GR x1 9) 2) (nx x2)) 0 [if (hI h (GR (GR x1 9) 4) (nx x2)) = ((1 : Int32)) then (F_X3_sendThrough h x0 x1 (hI h (GR (GR x1 9) 3) (nx x2)) ((1 : Int32))).bind (fun r2 => some ((uI r2.1 x0 5 ((hI h x0 5) + r2.2), x2 + ((1 : Int32))))) else (F_X3_sendThrough h x0 x1 (hI h (GR (GR x1 9) 3) (nx x2)) ((0 : Int32))).bind (fun r1 => some ((uI r1.1 x0 5 ((hI h x0 5) + r1.2), x2 + ((1 : Int32))))), (F_X3_putBehind h x0 x1 (hI h (GR (GR x1 9) 3) (nx x2)) (hI h (GR (GR x1 9) 4) (nx x2))).bind (fun r3 => some ((r3, x2 + ((1 : Int32))))), (F_X3_cutDeck h x0 x1 (hI h (GR (GR x1 9) 3) (nx x2))).bind (fun r4 => some ((r4, x2 + ((1 : Int32))))), (F_X3_turnDeck h x0 x1).bind (fun r5 => some ((r5, x2 + ((1 : Int32))))), (F_X2_wholeSum h x1 (hI h (GR (GR x1 9) 3) (nx x2)) (hI h (GR (GR x1 9) 4) (nx x2))).bind (fun r6 => some ((uL h x0 4 ((hL h x0 4) + r6.toInt64), x2 + ((1 : Int32))))), gd (ib x2 (LEN (GR x0 2))) (some ((uI h (GR x0 2) (nx x2) (hI h (GR (GR x1 9) 3) (nx x2)), x2 + ((1 : Int32)))))] ((F_X3_holds h x1 (hI h (GR (GR x1 9) 3) (nx x2)) (hI h (GR (GR x1 9) 4) (nx x2))).bind (fun r7 => if r7 = 0 then gd (ib x2 (LEN (GR (GR x1 9) 5))) (some ((h, (hI h (GR (GR x1 9) 5) (nx x2)) + ((1 : Int32))))) else some ((h, x2 + ((1 : Int32)))))))))
set_option maxHeartbeats 4000000 in
set_option maxRecDepth 100000 in
theorem go_X3_doStep {Γ : Cx} (hO : Ok Γ mX3_doStep) (h : Hp) (x0 : Nat) (x1 : Nat) (x2 : Int32) (hx0 : Is x0 3) (hx1 : Is x1 2) {K : Hp × Int32 → Prop} (hR : ∀ r, K r → emHI r = tgt Γ) : EG Γ mX3_doStep 0 [(0, rf Γ x0), (1, rf Γ x1), (2, .int x2)] [] h (F_X3_doStep h x0 x1 x2) K := by
  unfold F_X3_doStep
  refine x_aload_n hO 1 rfl rfl dX3_doStep_0 ?_
  refine x_getR hO fl_RX3_97 hx1 dX3_doStep_1 ?_
  refine x_astore_n hO rfl [(3, rf Γ (GR x1 9)), (0, rf Γ x0), (1, rf Γ x1), (2, .int x2)] dX3_doStep_4 (by decide) rfl ?_
  refine x_aload_n hO 0 rfl rfl dX3_doStep_5 ?_
  refine x_getR hO fl_RX3_118 (gr_2_9 hx1) dX3_doStep_6 ?_
  refine x_iload_n hO 3 rfl rfl dX3_doStep_9 ?_
  refine x_iald hO (gr_9_3 (gr_2_9 hx1)) dX3_doStep_10 ?_
  refine x_istore hO [(4, .int (hI h (GR (GR x1 9) 3) (nx x2))), (3, rf Γ (GR x1 9)), (0, rf Γ x0), (1, rf Γ x1), (2, .int x2)] dX3_doStep_11 (by decide) rfl ?_
  refine x_aload_n hO 1 rfl rfl dX3_doStep_13 ?_
  refine x_getR hO fl_RX3_121 (gr_2_9 hx1) dX3_doStep_14 ?_
  refine x_iload_n hO 4 rfl rfl dX3_doStep_17 ?_
  refine x_iald hO (gr_9_4 (gr_2_9 hx1)) dX3_doStep_18 ?_
  refine x_istore hO [(5, .int (hI h (GR (GR x1 9) 4) (nx x2))), (4, .int (hI h (GR (GR x1 9) 3) (nx x2))), (3, rf Γ (GR x1 9)), (0, rf Γ x0), (1, rf Γ x1), (2, .int x2)] dX3_doStep_19 (by decide) rfl ?_
  refine x_aload_n hO 2 rfl rfl dX3_doStep_21 ?_
  refine x_getR hO fl_RX3_105 (gr_2_9 hx1) dX3_doStep_22 ?_
  refine x_iload_n hO 5 rfl rfl dX3_doStep_25 ?_
  refine x_iald hO (gr_9_2 (gr_2_9 hx1)) dX3_doStep_26 ?_
  refine x_tsw hO (tgs := [64, 94, 106, 116, 124, 145]) (dt := 156) dX3_doStep_27 rfl (by decide) (by decide) ⟨?_, ?_, ?_, ?_, ?_, ?_, trivial⟩ ?_
  · refine x_aload_n hO 3 rfl rfl dX3_doStep_64 ?_
    refine x_dup_r hO dX3_doStep_65 ?_
    refine x_getI hO fl_RX3_31 hx0 dX3_doStep_66 ?_
    refine x_aload_n hO 3 rfl rfl dX3_doStep_69 ?_
    refine x_aload_n hO 4 rfl rfl dX3_doStep_70 ?_
    refine x_iload hO 1 rfl dX3_doStep_71 ?_
    refine x_iload hO 0 rfl dX3_doStep_73 ?_
    refine x_iconst hO (v := 1) (by decide) dX3_doStep_75 ?_
    refine x_icmp_ne hO (tg := 83) dX3_doStep_76 (by decide) ?_ ?_
    · refine x_iconst hO (v := 0) (by decide) dX3_doStep_83 ?_
      refine y_HI (x_callV hO lv_RX3_124 hx0 vc_3 (by decide) (As := [rf Γ x1, .int (hI h (GR (GR x1 9) 3) (nx x2)), .int ((0 : Int32))]) rfl (Nat.le_of_ble_eq_true rfl) (ok_X3_sendThrough (cG Γ) h x0 x1 (hI h (GR (GR x1 9) 3) (nx x2)) ((0 : Int32)) hx0 hx1) dX3_doStep_84 rfl (Nat.le_of_ble_eq_true rfl)) (fun r1 => ?_)
      refine x_iadd hO dX3_doStep_87 ?_
      refine x_putI hO fl_RX3_31 hx0 dX3_doStep_88 ?_
      refine x_goto hO (tg := 182) dX3_doStep_91 (by decide) ?_
      refine x_iload_n hO 5 rfl rfl dX3_doStep_182 ?_
      refine x_iconst hO (v := 1) (by decide) dX3_doStep_183 ?_
      refine x_iadd hO dX3_doStep_184 ?_
      exact x_iret hO rfl dX3_doStep_185 (hR _)
    · refine x_iconst hO (v := 1) (by decide) dX3_doStep_79 ?_
      refine x_goto hO (tg := 84) dX3_doStep_80 (by decide) ?_
      refine y_HI (x_callV hO lv_RX3_124 hx0 vc_3 (by decide) (As := [rf Γ x1, .int (hI h (GR (GR x1 9) 3) (nx x2)), .int ((1 : Int32))]) rfl (Nat.le_of_ble_eq_true rfl) (ok_X3_sendThrough (cG Γ) h x0 x1 (hI h (GR (GR x1 9) 3) (nx x2)) ((1 : Int32)) hx0 hx1) dX3_doStep_84 rfl (Nat.le_of_ble_eq_true rfl)) (fun r2 => ?_)
      refine x_iadd hO dX3_doStep_87 ?_
      refine x_putI hO fl_RX3_31 hx0 dX3_doStep_88 ?_
      refine x_goto hO (tg := 182) dX3_doStep_91 (by decide) ?_
      refine x_iload_n hO 5 rfl rfl dX3_doStep_182 ?_
      refine x_iconst hO (v := 1) (by decide) dX3_doStep_183 ?_
      refine x_iadd hO dX3_doStep_184 ?_
      exact x_iret hO rfl dX3_doStep_185 (hR _)
  · refine x_aload_n hO 3 rfl rfl dX3_doStep_94 ?_
    refine x_aload_n hO 4 rfl rfl dX3_doStep_95 ?_
    refine x_iload hO 1 rfl dX3_doStep_96 ?_
    refine x_iload hO 0 rfl dX3_doStep_98 ?_
    refine y_HV (x_callV hO lv_RX3_128 hx0 vc_3 (by decide) (As := [rf Γ x1, .int (hI h (GR (GR x1 9) 3) (nx x2)), .int (hI h (GR (GR x1 9) 4) (nx x2))]) rfl (Nat.le_of_ble_eq_true rfl) (ok_X3_putBehind (cG Γ) h x0 x1 (hI h (GR (GR x1 9) 3) (nx x2)) (hI h (GR (GR x1 9) 4) (nx x2)) hx0 hx1) dX3_doStep_100 rfl (Nat.le_of_ble_eq_true rfl)) (fun r3 => ?_)
    refine x_goto hO (tg := 182) dX3_doStep_103 (by decide) ?_
    refine x_iload_n hO 5 rfl rfl dX3_doStep_182 ?_
    refine x_iconst hO (v := 1) (by decide) dX3_doStep_183 ?_
    refine x_iadd hO dX3_doStep_184 ?_
    exact x_iret hO rfl dX3_doStep_185 (hR _)
  · refine x_aload_n hO 3 rfl rfl dX3_doStep_106 ?_
    refine x_aload_n hO 4 rfl rfl dX3_doStep_107 ?_
    refine x_iload hO 1 rfl dX3_doStep_108 ?_
    refine y_HV (x_callV hO lv_RX3_132 hx0 vc_3 (by decide) (As := [rf Γ x1, .int (hI h (GR (GR x1 9) 3) (nx x2))]) rfl (Nat.le_of_ble_eq_true rfl) (ok_X3_cutDeck (cG Γ) h x0 x1 (hI h (GR (GR x1 9) 3) (nx x2)) hx0 hx1) dX3_doStep_110 rfl (Nat.le_of_ble_eq_true rfl)) (fun r4 => ?_)
    refine x_goto hO (tg := 182) dX3_doStep_113 (by decide) ?_
    refine x_iload_n hO 5 rfl rfl dX3_doStep_182 ?_
    refine x_iconst hO (v := 1) (by decide) dX3_doStep_183 ?_
    refine x_iadd hO dX3_doStep_184 ?_
    exact x_iret hO rfl dX3_doStep_185 (hR _)
  · refine x_aload_n hO 3 rfl rfl dX3_doStep_116 ?_
    refine x_aload_n hO 4 rfl rfl dX3_doStep_117 ?_
    refine y_HV (x_callV hO lv_RX3_136 hx0 vc_3 (by decide) (As := [rf Γ x1]) rfl (Nat.le_of_ble_eq_true rfl) (ok_X3_turnDeck (cG Γ) h x0 x1 hx0 hx1) dX3_doStep_118 rfl (Nat.le_of_ble_eq_true rfl)) (fun r5 => ?_)
    refine x_goto hO (tg := 182) dX3_doStep_121 (by decide) ?_
    refine x_iload_n hO 5 rfl rfl dX3_doStep_182 ?_
    refine x_iconst hO (v := 1) (by decide) dX3_doStep_183 ?_
    refine x_iadd hO dX3_doStep_184 ?_
    exact x_iret hO rfl dX3_doStep_185 (hR _)
  · refine x_aload_n hO 3 rfl rfl dX3_doStep_124 ?_
    refine x_dup_r hO dX3_doStep_125 ?_
    refine x_getL hO fl_RX3_27 hx0 dX3_doStep_126 ?_
    refine x_aload_n hO 4 rfl rfl dX3_doStep_129 ?_
    refine x_iload hO 1 rfl dX3_doStep_130 ?_
    refine x_iload hO 0 rfl dX3_doStep_132 ?_
    refine y_PI (x_callV hO lv_RX3_140 hx1 vc_2 (by decide) (As := [.int (hI h (GR (GR x1 9) 3) (nx x2)), .int (hI h (GR (GR x1 9) 4) (nx x2))]) rfl (Nat.le_of_ble_eq_true rfl) (ok_X2_wholeSum (cG Γ) h x1 (hI h (GR (GR x1 9) 3) (nx x2)) (hI h (GR (GR x1 9) 4) (nx x2)) hx1) dX3_doStep_134 rfl (Nat.le_of_ble_eq_true rfl)) (fun r6 => ?_)
    refine x_i2l hO dX3_doStep_137 ?_
    refine x_ladd hO dX3_doStep_138 ?_
    refine x_putL hO fl_RX3_27 hx0 dX3_doStep_139 ?_
    refine x_goto hO (tg := 182) dX3_doStep_142 (by decide) ?_
    refine x_iload_n hO 5 rfl rfl dX3_doStep_182 ?_
    refine x_iconst hO (v := 1) (by decide) dX3_doStep_183 ?_
    refine x_iadd hO dX3_doStep_184 ?_
    exact x_iret hO rfl dX3_doStep_185 (hR _)
  · refine x_aload_n hO 3 rfl rfl dX3_doStep_145 ?_
    refine x_getR hO fl_RX3_20 hx0 dX3_doStep_146 ?_
    refine x_iload_n hO 5 rfl rfl dX3_doStep_149 ?_
    refine x_iload hO 1 rfl dX3_doStep_150 ?_
    refine x_iast hO (gr_3_2 hx0) dX3_doStep_152 ?_
    refine x_goto hO (tg := 182) dX3_doStep_153 (by decide) ?_
    refine x_iload_n hO 5 rfl rfl dX3_doStep_182 ?_
    refine x_iconst hO (v := 1) (by decide) dX3_doStep_183 ?_
    refine x_iadd hO dX3_doStep_184 ?_
    exact x_iret hO rfl dX3_doStep_185 (hR _)
  · refine x_aload_n hO 4 rfl rfl dX3_doStep_156 ?_
    refine x_iload hO 1 rfl dX3_doStep_157 ?_
    refine x_iload hO 0 rfl dX3_doStep_159 ?_
    refine y_PI (x_callS hO lt_RX3_143 (As := [rf Γ x1, .int (hI h (GR (GR x1 9) 3) (nx x2)), .int (hI h (GR (GR x1 9) 4) (nx x2))]) rfl (Nat.le_of_ble_eq_true rfl) (ok_X3_holds (cG Γ) h x1 (hI h (GR (GR x1 9) 3) (nx x2)) (hI h (GR (GR x1 9) 4) (nx x2)) hx1) dX3_doStep_161 rfl (Nat.le_of_ble_eq_true rfl)) (fun r7 => ?_)
    refine x_if_eq hO (tg := 173) dX3_doStep_164 (by decide) ?_ ?_
    · refine x_aload_n hO 2 rfl rfl dX3_doStep_173 ?_
      refine x_getR hO fl_RX3_115 (gr_2_9 hx1) dX3_doStep_174 ?_
      refine x_iload_n hO 5 rfl rfl dX3_doStep_177 ?_
      refine x_iald hO (gr_9_5 (gr_2_9 hx1)) dX3_doStep_178 ?_
      refine x_iconst hO (v := 1) (by decide) dX3_doStep_179 ?_
      refine x_iadd hO dX3_doStep_180 ?_
      exact x_iret hO rfl dX3_doStep_181 (hR _)
    · refine x_iload_n hO 5 rfl rfl dX3_doStep_167 ?_
      refine x_iconst hO (v := 1) (by decide) dX3_doStep_168 ?_
      refine x_iadd hO dX3_doStep_169 ?_
      refine x_goto hO (tg := 181) dX3_doStep_170 (by decide) ?_
      exact x_iret hO rfl dX3_doStep_181 (hR _)
theorem ok_X3_doStep (G : Gl) (h : Hp) (x0 : Nat) (x1 : Nat) (x2 : Int32) (hx0 : Is x0 3) (hx1 : Is x1 2) : CN G mX3_doStep [.ref (gb G + x0), .ref (gb G + x1), .int x2] h ((F_X3_doStep h x0 x1 x2).map (emHI)) := CN.fn pn_RX3 (Nat.le_of_ble_eq_true rfl) (fun Γ hG hO => by subst hG; exact go_X3_doStep hO h x0 x1 x2 hx0 hx1 (fun _ q => q))
noncomputable def B_X3_nextInInk_3 (h : Hp) (x0 : Nat) (x2 : Int32) (x3 : Int32) (x4 : Int32) (x5 : Int32) : Option ((Int32) ⊕ (Int32)) :=
  if (hI h x0 0) ≤ x5 then some (.inr x5) else gd (ib x5 (LEN (GR x0 7))) ((F_X3_collates h x0 (hI h (GR x0 7) (nx x5)) x2 x3 x4).bind (fun r1 => if r1 = 0 then some (.inl (x5 + (1 : Int32))) else some (.inr x5)))
noncomputable def L_X3_nextInInk_3 (h : Hp) (x0 : Nat) (x2 : Int32) (x3 : Int32) (x4 : Int32) (x5 : Int32) : Option (Int32) := iterW (fun s : Int32 => B_X3_nextInInk_3 h x0 x2 x3 x4 s) x5
set_option maxHeartbeats 4000000 in
set_option maxRecDepth 100000 in
theorem go_X3_nextInInk_B3 {Γ : Cx} (hO : Ok Γ mX3_nextInInk) (h : Hp) (x0 : Nat) (x2 : Int32) (x3 : Int32) (x4 : Int32) (x5 : Int32) (hx0 : Is x0 2) {K : (Int32) ⊕ (Int32) → Prop} (hC : ∀ (x5 : Int32), K (.inl x5) → EW Γ mX3_nextInInk 3 [(0, rf Γ x0), (2, .int x2), (3, .int x3), (4, .int x4), (5, .int x5)] [] h) (hR : ∀ r, K (.inr r) → emPI h r = tgt Γ) : EG Γ mX3_nextInInk 3 [(0, rf Γ x0), (2, .int x2), (3, .int x3), (4, .int x4), (5, .int x5)] [] h (B_X3_nextInInk_3 h x0 x2 x3 x4 x5) K := by
  unfold B_X3_nextInInk_3
  refine x_iload hO 4 rfl dX3_nextInInk_3 ?_
  refine x_aload_n hO 0 rfl rfl dX3_nextInInk_5 ?_
  refine x_getI hO fl_RX3_45 hx0 dX3_nextInInk_6 ?_
  refine x_icmp_ge hO (tg := 36) dX3_nextInInk_9 (by decide) ?_ ?_
  · refine x_iload hO 4 rfl dX3_nextInInk_36 ?_
    exact x_iret hO rfl dX3_nextInInk_38 (hR _)
  · refine x_aload_n hO 0 rfl rfl dX3_nextInInk_12 ?_
    refine x_aload_n hO 0 rfl rfl dX3_nextInInk_13 ?_
    refine x_getR hO fl_RX3_53 hx0 dX3_nextInInk_14 ?_
    refine x_iload hO 4 rfl dX3_nextInInk_17 ?_
    refine x_iald hO (gr_2_7 hx0) dX3_nextInInk_19 ?_
    refine x_iload_n hO 1 rfl rfl dX3_nextInInk_20 ?_
    refine x_iload_n hO 2 rfl rfl dX3_nextInInk_21 ?_
    refine x_iload hO 3 rfl dX3_nextInInk_22 ?_
    refine y_PI (x_callS hO lt_RX3_94 (As := [rf Γ x0, .int (hI h (GR x0 7) (nx x5)), .int x2, .int x3, .int x4]) rfl (Nat.le_of_ble_eq_true rfl) (ok_X3_collates (cG Γ) h x0 (hI h (GR x0 7) (nx x5)) x2 x3 x4 hx0) dX3_nextInInk_24 rfl (Nat.le_of_ble_eq_true rfl)) (fun r1 => ?_)
    refine x_if_ne hO (tg := 36) dX3_nextInInk_27 (by decide) ?_ ?_
    · refine x_iload hO 4 rfl dX3_nextInInk_36 ?_
      exact x_iret hO rfl dX3_nextInInk_38 (hR _)
    · refine x_iinc hO 4 (v := 1) [(5, .int (x5 + (1 : Int32))), (0, rf Γ x0), (2, .int x2), (3, .int x3), (4, .int x4)] dX3_nextInInk_30 rfl (by decide) (by decide) rfl ?_
      refine x_goto hO (tg := 3) dX3_nextInInk_33 (by decide) ?_
      exact x_leafs [1, 2, 3, 4, 0] rfl (hC (x5 + (1 : Int32)))
set_option maxHeartbeats 4000000 in
set_option maxRecDepth 100000 in
theorem go_X3_nextInInk_L3 {Γ : Cx} (hO : Ok Γ mX3_nextInInk) (h : Hp) (x0 : Nat) (x2 : Int32) (x3 : Int32) (x4 : Int32) (x5 : Int32) (hx0 : Is x0 2) {K : Int32 → Prop} (hR : ∀ r, K (r) → emPI h r = tgt Γ) : EG Γ mX3_nextInInk 3 [(0, rf Γ x0), (2, .int x2), (3, .int x3), (4, .int x4), (5, .int x5)] [] h (L_X3_nextInInk_3 h x0 x2 x3 x4 x5) K := by
  have q := x_loop (Γ := Γ) (M := mX3_nextInInk) (pc := 3) (B := fun s : Int32 => B_X3_nextInInk_3 h x0 x2 x3 x4 s) (lvf := fun s => [(0, rf Γ x0), (2, .int x2), (3, .int x3), (4, .int x4), (5, .int s)]) (hf := fun s => h) (Ky := K) (fun s => go_X3_nextInInk_B3 hO h x0 x2 x3 x4 s hx0 (fun _ => id) hR) x5
  exact q
noncomputable def F_X3_nextInInk (h : Hp) (x0 : Nat) (x1 : Int32) (x2 : Int32) (x3 : Int32) (x4 : Int32) : Option (Int32) :=
  L_X3_nextInInk_3 h x0 x2 x3 x4 x1
set_option maxHeartbeats 4000000 in
set_option maxRecDepth 100000 in
theorem go_X3_nextInInk {Γ : Cx} (hO : Ok Γ mX3_nextInInk) (h : Hp) (x0 : Nat) (x1 : Int32) (x2 : Int32) (x3 : Int32) (x4 : Int32) (hx0 : Is x0 2) {K : Int32 → Prop} (hR : ∀ r, K r → emPI h r = tgt Γ) : EG Γ mX3_nextInInk 0 [(0, rf Γ x0), (1, .int x1), (2, .int x2), (3, .int x3), (4, .int x4)] [] h (F_X3_nextInInk h x0 x1 x2 x3 x4) K := by
  unfold F_X3_nextInInk
  refine x_iload_n hO 1 rfl rfl dX3_nextInInk_0 ?_
  refine x_istore hO [(5, .int x1), (0, rf Γ x0), (1, .int x1), (2, .int x2), (3, .int x3), (4, .int x4)] dX3_nextInInk_1 (by decide) rfl ?_
  exact x_sub [1, 3, 4, 5, 0] rfl (go_X3_nextInInk_L3 hO h x0 x2 x3 x4 x1 hx0 hR)
theorem ok_X3_nextInInk (G : Gl) (h : Hp) (x0 : Nat) (x1 : Int32) (x2 : Int32) (x3 : Int32) (x4 : Int32) (hx0 : Is x0 2) : CN G mX3_nextInInk [.ref (gb G + x0), .int x1, .int x2, .int x3, .int x4] h ((F_X3_nextInInk h x0 x1 x2 x3 x4).map (emPI h)) := CN.fn pn_RX3 (Nat.le_of_ble_eq_true rfl) (fun Γ hG hO => by subst hG; exact go_X3_nextInInk hO h x0 x1 x2 x3 x4 hx0 (fun _ q => q))
noncomputable def J_X4_searchTwo_66 (h : Hp) (x0 : Nat) (x1 : Int32) (x2 : Int32) (x3 : Int32) (x4 : Int32) (x5 : Int32) : Option ((Hp × Int32 × Int32) ⊕ (Hp × Int32)) :=
  gd (ib x2 (LEN (GR x0 6))) ((F_X4_change h x0 x4 (hI h (GR x0 6) (nx x2))).bind (fun r1 => some (.inl (r1, x1 + x5, x3 + (1 : Int32)))))
set_option maxHeartbeats 4000000 in
set_option maxRecDepth 100000 in
theorem go_X4_searchTwo_J66 {Γ : Cx} (hO : Ok Γ mX4_searchTwo) (h : Hp) (x0 : Nat) (x1 : Int32) (x2 : Int32) (x3 : Int32) (x4 : Int32) (x5 : Int32) (hx0 : Is x0 4) {K : (Hp × Int32 × Int32) ⊕ (Hp × Int32) → Prop} (hC : ∀ (h : Hp) (x1 : Int32) (x3 : Int32), K (.inl (h, x1, x3)) → EW Γ mX4_searchTwo 14 [(0, rf Γ x0), (1, .int x1), (2, .int x2), (3, .int x3)] [] h) (hE89 : ∀ (h : Hp) (x1 : Int32), K (.inr ((h, x1))) → EW Γ mX4_searchTwo 89 [(0, rf Γ x0), (1, .int x1), (2, .int x2)] [] h) : EG Γ mX4_searchTwo 66 [(0, rf Γ x0), (1, .int x1), (2, .int x2), (3, .int x3), (4, .int x4), (5, .int x5)] [] h (J_X4_searchTwo_66 h x0 x1 x2 x3 x4 x5) K := by
  unfold J_X4_searchTwo_66
  refine x_iload_n hO 1 rfl rfl dX4_searchTwo_66 ?_
  refine x_iload hO 5 rfl dX4_searchTwo_67 ?_
  refine x_iadd hO dX4_searchTwo_69 ?_
  refine x_istore_n hO rfl [(1, .int (x1 + x5)), (0, rf Γ x0), (2, .int x2), (3, .int x3), (4, .int x4), (5, .int x5)] dX4_searchTwo_70 (by decide) rfl ?_
  refine x_aload_n hO 1 rfl rfl dX4_searchTwo_71 ?_
  refine x_iload hO 4 rfl dX4_searchTwo_72 ?_
  refine x_aload_n hO 1 rfl rfl dX4_searchTwo_74 ?_
  refine x_getR hO fl_RX4_33 hx0 dX4_searchTwo_75 ?_
  refine x_iload_n hO 2 rfl rfl dX4_searchTwo_78 ?_
  refine x_iald hO (gr_4_6 hx0) dX4_searchTwo_79 ?_
  refine y_HV (x_callV hO lv_RX4_83 hx0 vc_4 (by decide) (As := [.int x4, .int (hI h (GR x0 6) (nx x2))]) rfl (Nat.le_of_ble_eq_true rfl) (ok_X4_change (cG Γ) h x0 x4 (hI h (GR x0 6) (nx x2)) hx0) dX4_searchTwo_80 rfl (Nat.le_of_ble_eq_true rfl)) (fun r1 => ?_)
  refine x_iinc hO 3 (v := 1) [(3, .int (x3 + (1 : Int32))), (1, .int (x1 + x5)), (0, rf Γ x0), (2, .int x2), (4, .int x4), (5, .int x5)] dX4_searchTwo_83 rfl (by decide) (by decide) rfl ?_
  refine x_goto hO (tg := 14) dX4_searchTwo_86 (by decide) ?_
  exact x_leafs [2, 1, 3, 0] rfl (hC r1 (x1 + x5) (x3 + (1 : Int32)))
noncomputable def B_X4_searchTwo_14 (h : Hp) (x0 : Nat) (x2 : Int32) (x1 : Int32) (x3 : Int32) : Option ((Hp × Int32 × Int32) ⊕ (Hp × Int32)) :=
  if ((3 : Int32)) ≤ x3 then some (.inr ((h, x1))) else (F_X4_misreads h x0 x2 x3).bind (fun r1 => if r1 = ((-1 : Int32)) then some (.inl (h, x1, x3 + (1 : Int32))) else gd (ib x2 (LEN (GR x0 6))) ((F_X4_change h x0 (hI h (GR x0 6) (nx x2)) r1).bind (fun r2 => (F_X4_searchBehind r2 x0 x2 x1).bind (fun r3 => if r3.2 ≤ 0 then J_X4_searchTwo_66 r3.1 x0 x1 x2 x3 r1 r3.2 else (F_X4_keepFirst r3.1 x0 x1 ((0 : Int32)) x2 x3).bind (fun r4 => J_X4_searchTwo_66 r4 x0 x1 x2 x3 r1 r3.2)))))
noncomputable def L_X4_searchTwo_14 (h : Hp) (x0 : Nat) (x2 : Int32) (x1 : Int32) (x3 : Int32) : Option (Hp × Int32) := iterW (fun s : Hp × Int32 × Int32 => B_X4_searchTwo_14 s.1 x0 x2 s.2.1 s.2.2) (h, x1, x3)
set_option maxHeartbeats 4000000 in
set_option maxRecDepth 100000 in
theorem go_X4_searchTwo_B14 {Γ : Cx} (hO : Ok Γ mX4_searchTwo) (h : Hp) (x0 : Nat) (x2 : Int32) (x1 : Int32) (x3 : Int32) (hx0 : Is x0 4) {K : (Hp × Int32 × Int32) ⊕ (Hp × Int32) → Prop} (hC : ∀ (h : Hp) (x1 : Int32) (x3 : Int32), K (.inl (h, x1, x3)) → EW Γ mX4_searchTwo 14 [(0, rf Γ x0), (1, .int x1), (2, .int x2), (3, .int x3)] [] h) (hE89 : ∀ (h : Hp) (x1 : Int32), K (.inr ((h, x1))) → EW Γ mX4_searchTwo 89 [(0, rf Γ x0), (1, .int x1), (2, .int x2)] [] h) : EG Γ mX4_searchTwo 14 [(0, rf Γ x0), (1, .int x1), (2, .int x2), (3, .int x3)] [] h (B_X4_searchTwo_14 h x0 x2 x1 x3) K := by
  unfold B_X4_searchTwo_14
  refine x_iload_n hO 3 rfl rfl dX4_searchTwo_14 ?_
  refine x_iconst hO (v := 3) (by decide) dX4_searchTwo_15 ?_
  refine x_icmp_ge hO (tg := 89) dX4_searchTwo_16 (by decide) ?_ ?_
  · exact x_leafs [0, 1, 2] rfl (hE89 h x1)
  · refine x_aload_n hO 0 rfl rfl dX4_searchTwo_19 ?_
    refine x_iload_n hO 2 rfl rfl dX4_searchTwo_20 ?_
    refine x_iload_n hO 3 rfl rfl dX4_searchTwo_21 ?_
    refine y_PI (x_callV hO lv_RX4_80 hx0 vc_4 (by decide) (As := [.int x2, .int x3]) rfl (Nat.le_of_ble_eq_true rfl) (ok_X4_misreads (cG Γ) h x0 x2 x3 hx0) dX4_searchTwo_22 rfl (Nat.le_of_ble_eq_true rfl)) (fun r1 => ?_)
    refine x_istore hO [(4, .int r1), (0, rf Γ x0), (1, .int x1), (2, .int x2), (3, .int x3)] dX4_searchTwo_25 (by decide) rfl ?_
    refine x_iload hO 0 rfl dX4_searchTwo_27 ?_
    refine x_iconst hO (v := -1) (by decide) dX4_searchTwo_29 ?_
    refine x_icmp_eq hO (tg := 83) dX4_searchTwo_30 (by decide) ?_ ?_
    · refine x_iinc hO 4 (v := 1) [(3, .int (x3 + (1 : Int32))), (4, .int r1), (0, rf Γ x0), (1, .int x1), (2, .int x2)] dX4_searchTwo_83 rfl (by decide) (by decide) rfl ?_
      refine x_goto hO (tg := 14) dX4_searchTwo_86 (by decide) ?_
      exact x_leafs [2, 3, 4, 0] rfl (hC h x1 (x3 + (1 : Int32)))
    · refine x_aload_n hO 1 rfl rfl dX4_searchTwo_33 ?_
      refine x_aload_n hO 1 rfl rfl dX4_searchTwo_34 ?_
      refine x_getR hO fl_RX4_33 hx0 dX4_searchTwo_35 ?_
      refine x_iload_n hO 3 rfl rfl dX4_searchTwo_38 ?_
      refine x_iald hO (gr_4_6 hx0) dX4_searchTwo_39 ?_
      refine x_iload hO 0 rfl dX4_searchTwo_40 ?_
      refine y_HV (x_callV hO lv_RX4_83 hx0 vc_4 (by decide) (As := [.int (hI h (GR x0 6) (nx x2)), .int r1]) rfl (Nat.le_of_ble_eq_true rfl) (ok_X4_change (cG Γ) h x0 (hI h (GR x0 6) (nx x2)) r1 hx0) dX4_searchTwo_42 rfl (Nat.le_of_ble_eq_true rfl)) (fun r2 => ?_)
      refine x_aload_n hO 1 rfl rfl dX4_searchTwo_45 ?_
      refine x_iload_n hO 3 rfl rfl dX4_searchTwo_46 ?_
      refine x_iload_n hO 2 rfl rfl dX4_searchTwo_47 ?_
      refine y_HI (x_callV hO lv_RX4_90 hx0 vc_4 (by decide) (As := [.int x2, .int x1]) rfl (Nat.le_of_ble_eq_true rfl) (ok_X4_searchBehind (cG Γ) r2 x0 x2 x1 hx0) dX4_searchTwo_48 rfl (Nat.le_of_ble_eq_true rfl)) (fun r3 => ?_)
      refine x_istore hO [(5, .int r3.2), (4, .int r1), (0, rf Γ x0), (1, .int x1), (2, .int x2), (3, .int x3)] dX4_searchTwo_51 (by decide) rfl ?_
      refine x_iload hO 0 rfl dX4_searchTwo_53 ?_
      refine x_if_le hO (tg := 66) dX4_searchTwo_55 (by decide) ?_ ?_
      · exact x_sub [2, 3, 4, 5, 1, 0] rfl (go_X4_searchTwo_J66 hO r3.1 x0 x1 x2 x3 r1 r3.2 hx0 hC hE89)
      · refine x_aload_n hO 2 rfl rfl dX4_searchTwo_58 ?_
        refine x_iload_n hO 3 rfl rfl dX4_searchTwo_59 ?_
        refine x_iconst hO (v := 0) (by decide) dX4_searchTwo_60 ?_
        refine x_iload_n hO 4 rfl rfl dX4_searchTwo_61 ?_
        refine x_iload_n hO 5 rfl rfl dX4_searchTwo_62 ?_
        refine y_HV (x_callV hO lv_RX4_86 hx0 vc_4 (by decide) (As := [.int x1, .int ((0 : Int32)), .int x2, .int x3]) rfl (Nat.le_of_ble_eq_true rfl) (ok_X4_keepFirst (cG Γ) r3.1 x0 x1 ((0 : Int32)) x2 x3 hx0) dX4_searchTwo_63 rfl (Nat.le_of_ble_eq_true rfl)) (fun r4 => ?_)
        exact x_sub [2, 3, 4, 5, 1, 0] rfl (go_X4_searchTwo_J66 hO r4 x0 x1 x2 x3 r1 r3.2 hx0 hC hE89)
set_option maxHeartbeats 4000000 in
set_option maxRecDepth 100000 in
theorem go_X4_searchTwo_L14 {Γ : Cx} (hO : Ok Γ mX4_searchTwo) (h : Hp) (x0 : Nat) (x2 : Int32) (x1 : Int32) (x3 : Int32) (hx0 : Is x0 4) {K : Hp × Int32 → Prop} (hE89 : ∀ (h : Hp) (x1 : Int32), K ((h, x1)) → EW Γ mX4_searchTwo 89 [(0, rf Γ x0), (1, .int x1), (2, .int x2)] [] h) : EG Γ mX4_searchTwo 14 [(0, rf Γ x0), (1, .int x1), (2, .int x2), (3, .int x3)] [] h (L_X4_searchTwo_14 h x0 x2 x1 x3) K := by
  have q := x_loop (Γ := Γ) (M := mX4_searchTwo) (pc := 14) (B := fun s : Hp × Int32 × Int32 => B_X4_searchTwo_14 s.1 x0 x2 s.2.1 s.2.2) (lvf := fun s => [(0, rf Γ x0), (1, .int s.2.1), (2, .int x2), (3, .int s.2.2)]) (hf := fun s => s.1) (Ky := K) (fun s => go_X4_searchTwo_B14 hO s.1 x0 x2 s.2.1 s.2.2 hx0 (fun _ _ _ => id) hE89) (h, x1, x3)
  exact q
noncomputable def B_X4_searchTwo_4 (h : Hp) (x0 : Nat) (x1 : Int32) (x2 : Int32) : Option ((Hp × Int32 × Int32) ⊕ (Hp × Int32)) :=
  if (hI h x0 8) ≤ x2 then some (.inr ((h, x1))) else (L_X4_searchTwo_14 h x0 x2 x1 ((0 : Int32))).bind (fun e1 => some (.inl (e1.1, e1.2, x2 + (1 : Int32))))
noncomputable def L_X4_searchTwo_4 (h : Hp) (x0 : Nat) (x1 : Int32) (x2 : Int32) : Option (Hp × Int32) := iterW (fun s : Hp × Int32 × Int32 => B_X4_searchTwo_4 s.1 x0 s.2.1 s.2.2) (h, x1, x2)
set_option maxHeartbeats 4000000 in
set_option maxRecDepth 100000 in
theorem go_X4_searchTwo_B4 {Γ : Cx} (hO : Ok Γ mX4_searchTwo) (h : Hp) (x0 : Nat) (x1 : Int32) (x2 : Int32) (hx0 : Is x0 4) {K : (Hp × Int32 × Int32) ⊕ (Hp × Int32) → Prop} (hC : ∀ (h : Hp) (x1 : Int32) (x2 : Int32), K (.inl (h, x1, x2)) → EW Γ mX4_searchTwo 4 [(0, rf Γ x0), (1, .int x1), (2, .int x2)] [] h) (hR : ∀ r, K (.inr r) → emHI r = tgt Γ) : EG Γ mX4_searchTwo 4 [(0, rf Γ x0), (1, .int x1), (2, .int x2)] [] h (B_X4_searchTwo_4 h x0 x1 x2) K := by
  unfold B_X4_searchTwo_4
  refine x_iload_n hO 2 rfl rfl dX4_searchTwo_4 ?_
  refine x_aload_n hO 0 rfl rfl dX4_searchTwo_5 ?_
  refine x_getI hO fl_RX4_39 hx0 dX4_searchTwo_6 ?_
  refine x_icmp_ge hO (tg := 95) dX4_searchTwo_9 (by decide) ?_ ?_
  · refine x_iload_n hO 1 rfl rfl dX4_searchTwo_95 ?_
    exact x_iret hO rfl dX4_searchTwo_96 (hR _)
  · refine x_iconst hO (v := 0) (by decide) dX4_searchTwo_12 ?_
    refine x_istore_n hO rfl [(3, .int ((0 : Int32))), (0, rf Γ x0), (1, .int x1), (2, .int x2)] dX4_searchTwo_13 (by decide) rfl ?_
    refine x_bind (x_sub [1, 2, 3, 0] rfl (go_X4_searchTwo_L14 hO h x0 x2 x1 ((0 : Int32)) hx0 (fun y1_0 y1_1 hx => ?_)))
    refine x_run (t := (some (.inl (y1_0, y1_1, x2 + (1 : Int32))) : Option ((Hp × Int32 × Int32) ⊕ (Hp × Int32)))) hx ?_
    refine x_iinc hO 2 (v := 1) [(2, .int (x2 + (1 : Int32))), (0, rf Γ x0), (1, .int y1_1)] dX4_searchTwo_89 rfl (by decide) (by decide) rfl ?_
    refine x_goto hO (tg := 4) dX4_searchTwo_92 (by decide) ?_
    exact x_leafs [1, 2, 0] rfl (hC y1_0 y1_1 (x2 + (1 : Int32)))
set_option maxHeartbeats 4000000 in
set_option maxRecDepth 100000 in
theorem go_X4_searchTwo_L4 {Γ : Cx} (hO : Ok Γ mX4_searchTwo) (h : Hp) (x0 : Nat) (x1 : Int32) (x2 : Int32) (hx0 : Is x0 4) {K : Hp × Int32 → Prop} (hR : ∀ r, K (r) → emHI r = tgt Γ) : EG Γ mX4_searchTwo 4 [(0, rf Γ x0), (1, .int x1), (2, .int x2)] [] h (L_X4_searchTwo_4 h x0 x1 x2) K := by
  have q := x_loop (Γ := Γ) (M := mX4_searchTwo) (pc := 4) (B := fun s : Hp × Int32 × Int32 => B_X4_searchTwo_4 s.1 x0 s.2.1 s.2.2) (lvf := fun s => [(0, rf Γ x0), (1, .int s.2.1), (2, .int s.2.2)]) (hf := fun s => s.1) (Ky := K) (fun s => go_X4_searchTwo_B4 hO s.1 x0 s.2.1 s.2.2 hx0 (fun _ _ _ => id) hR) (h, x1, x2)
  exact q
noncomputable def F_X4_searchTwo (h : Hp) (x0 : Nat) : Option (Hp × Int32) :=
  L_X4_searchTwo_4 h x0 ((0 : Int32)) ((0 : Int32))
set_option maxHeartbeats 4000000 in
set_option maxRecDepth 100000 in
theorem go_X4_searchTwo {Γ : Cx} (hO : Ok Γ mX4_searchTwo) (h : Hp) (x0 : Nat) (hx0 : Is x0 4) {K : Hp × Int32 → Prop} (hR : ∀ r, K r → emHI r = tgt Γ) : EG Γ mX4_searchTwo 0 [(0, rf Γ x0)] [] h (F_X4_searchTwo h x0) K := by
  unfold F_X4_searchTwo
  refine x_iconst hO (v := 0) (by decide) dX4_searchTwo_0 ?_
  refine x_istore_n hO rfl [(1, .int ((0 : Int32))), (0, rf Γ x0)] dX4_searchTwo_1 (by decide) rfl ?_
  refine x_iconst hO (v := 0) (by decide) dX4_searchTwo_2 ?_
  refine x_istore_n hO rfl [(2, .int ((0 : Int32))), (1, .int ((0 : Int32))), (0, rf Γ x0)] dX4_searchTwo_3 (by decide) rfl ?_
  exact x_sub [2, 1, 0] rfl (go_X4_searchTwo_L4 hO h x0 ((0 : Int32)) ((0 : Int32)) hx0 hR)
theorem ok_X4_searchTwo (G : Gl) (h : Hp) (x0 : Nat) (hx0 : Is x0 4) : CN G mX4_searchTwo [.ref (gb G + x0)] h ((F_X4_searchTwo h x0).map (emHI)) := CN.fn pn_RX4 (Nat.le_of_ble_eq_true rfl) (fun Γ hG hO => by subst hG; exact go_X4_searchTwo hO h x0 hx0 (fun _ q => q))
noncomputable def B_X5_part_49 (h : Hp) (x0 : Nat) (x1 : Nat) (x5 : Int32) : Option ((Hp × Int32) ⊕ (Hp × Int32)) :=
  if (hI h x0 1) < x5 then some (.inr ((h, hI h x0 2))) else gd (ib (x5 - ((1 : Int32))) (LEN (GR x1 7))) ((F_X5_sideOf h x0 x5).bind (fun r1 => gd (ib (hI h (GR x1 7) (nx (x5 - ((1 : Int32))))) (LEN (GR x0 3))) (some (.inl (uI r1.1 (GR x0 3) (nx (hI h (GR x1 7) (nx (x5 - ((1 : Int32)))))) r1.2, x5 + (1 : Int32))))))
noncomputable def L_X5_part_49 (h : Hp) (x0 : Nat) (x1 : Nat) (x5 : Int32) : Option (Hp × Int32) := iterW (fun s : Hp × Int32 => B_X5_part_49 s.1 x0 x1 s.2) (h, x5)
set_option maxHeartbeats 4000000 in
set_option maxRecDepth 100000 in
theorem go_X5_part_B49 {Γ : Cx} (hO : Ok Γ mX5_part) (h : Hp) (x0 : Nat) (x1 : Nat) (x5 : Int32) (hx0 : Is x0 5) (hx1 : Is x1 2) {K : (Hp × Int32) ⊕ (Hp × Int32) → Prop} (hC : ∀ (h : Hp) (x5 : Int32), K (.inl (h, x5)) → EW Γ mX5_part 49 [(0, rf Γ x0), (1, rf Γ x1), (5, .int x5)] [] h) (hR : ∀ r, K (.inr r) → emHI r = tgt Γ) : EG Γ mX5_part 49 [(0, rf Γ x0), (1, rf Γ x1), (5, .int x5)] [] h (B_X5_part_49 h x0 x1 x5) K := by
  unfold B_X5_part_49
  refine x_iload hO 2 rfl dX5_part_49 ?_
  refine x_aload_n hO 0 rfl rfl dX5_part_51 ?_
  refine x_getI hO fl_RX5_15 hx0 dX5_part_52 ?_
  refine x_icmp_gt hO (tg := 84) dX5_part_55 (by decide) ?_ ?_
  · refine x_aload_n hO 0 rfl rfl dX5_part_84 ?_
    refine x_getI hO fl_RX5_19 hx0 dX5_part_85 ?_
    exact x_iret hO rfl dX5_part_88 (hR _)
  · refine x_aload_n hO 0 rfl rfl dX5_part_58 ?_
    refine x_getR hO fl_RX5_22 hx0 dX5_part_59 ?_
    refine x_aload_n hO 1 rfl rfl dX5_part_62 ?_
    refine x_getR hO fl_RX5_49 hx1 dX5_part_63 ?_
    refine x_iload hO 2 rfl dX5_part_66 ?_
    refine x_iconst hO (v := 1) (by decide) dX5_part_68 ?_
    refine x_isub hO dX5_part_69 ?_
    refine x_iald hO (gr_2_7 hx1) dX5_part_70 ?_
    refine x_aload_n hO 0 rfl rfl dX5_part_71 ?_
    refine x_iload hO 2 rfl dX5_part_72 ?_
    refine y_HI (x_callV hO lv_RX5_52 hx0 vc_5 (by decide) (As := [.int x5]) rfl (Nat.le_of_ble_eq_true rfl) (ok_X5_sideOf (cG Γ) h x0 x5 hx0) dX5_part_74 rfl (Nat.le_of_ble_eq_true rfl)) (fun r1 => ?_)
    refine x_iast hO (gr_5_3 hx0) dX5_part_77 ?_
    refine x_iinc hO 2 (v := 1) [(5, .int (x5 + (1 : Int32))), (0, rf Γ x0), (1, rf Γ x1)] dX5_part_78 rfl (by decide) (by decide) rfl ?_
    refine x_goto hO (tg := 49) dX5_part_81 (by decide) ?_
    exact x_leafs [1, 2, 0] rfl (hC (uI r1.1 (GR x0 3) (nx (hI h (GR x1 7) (nx (x5 - ((1 : Int32)))))) r1.2) (x5 + (1 : Int32)))
set_option maxHeartbeats 4000000 in
set_option maxRecDepth 100000 in
theorem go_X5_part_L49 {Γ : Cx} (hO : Ok Γ mX5_part) (h : Hp) (x0 : Nat) (x1 : Nat) (x5 : Int32) (hx0 : Is x0 5) (hx1 : Is x1 2) {K : Hp × Int32 → Prop} (hR : ∀ r, K (r) → emHI r = tgt Γ) : EG Γ mX5_part 49 [(0, rf Γ x0), (1, rf Γ x1), (5, .int x5)] [] h (L_X5_part_49 h x0 x1 x5) K := by
  have q := x_loop (Γ := Γ) (M := mX5_part) (pc := 49) (B := fun s : Hp × Int32 => B_X5_part_49 s.1 x0 x1 s.2) (lvf := fun s => [(0, rf Γ x0), (1, rf Γ x1), (5, .int s.2)]) (hf := fun s => s.1) (Ky := K) (fun s => go_X5_part_B49 hO s.1 x0 x1 s.2 hx0 hx1 (fun _ _ => id) hR) (h, x5)
  exact q
noncomputable def F_X5_part (h : Hp) (x0 : Nat) (x1 : Nat) (x2 : Int32) (x3 : Int32) : Option (Hp × Int32) :=
  (F_X5_takeDeck (uI (uI h x0 0 ((1 : Int32))) x0 1 (hI (uI h x0 0 ((1 : Int32))) x1 0)) x0 x1 x2 x3).bind (fun r1 => if r1.2 = 0 then if (hI (uI r1.1 x0 2 ((0 : Int32))) x0 2) ≤ 0 then some ((uI r1.1 x0 2 ((0 : Int32)), hI (uI r1.1 x0 2 ((0 : Int32))) x0 2)) else L_X5_part_49 (uI r1.1 x0 2 ((0 : Int32))) x0 x1 ((1 : Int32)) else (F_X5_countWays r1.1 x0).bind (fun r2 => if (hI (uI r2.1 x0 2 r2.2) x0 2) ≤ 0 then some ((uI r2.1 x0 2 r2.2, hI (uI r2.1 x0 2 r2.2) x0 2)) else L_X5_part_49 (uI r2.1 x0 2 r2.2) x0 x1 ((1 : Int32))))
set_option maxHeartbeats 4000000 in
set_option maxRecDepth 100000 in
theorem go_X5_part {Γ : Cx} (hO : Ok Γ mX5_part) (h : Hp) (x0 : Nat) (x1 : Nat) (x2 : Int32) (x3 : Int32) (hx0 : Is x0 5) (hx1 : Is x1 2) {K : Hp × Int32 → Prop} (hR : ∀ r, K r → emHI r = tgt Γ) : EG Γ mX5_part 0 [(0, rf Γ x0), (1, rf Γ x1), (2, .int x2), (3, .int x3)] [] h (F_X5_part h x0 x1 x2 x3) K := by
  unfold F_X5_part
  refine x_aload_n hO 0 rfl rfl dX5_part_0 ?_
  refine x_iconst hO (v := 1) (by decide) dX5_part_1 ?_
  refine x_putZ hO (by decide) fl_RX5_9 hx0 dX5_part_2 ?_
  refine x_aload_n hO 0 rfl rfl dX5_part_5 ?_
  refine x_aload_n hO 1 rfl rfl dX5_part_6 ?_
  refine x_getI hO fl_RX5_38 hx1 dX5_part_7 ?_
  refine x_putI hO fl_RX5_15 hx0 dX5_part_10 ?_
  refine x_aload_n hO 0 rfl rfl dX5_part_13 ?_
  refine x_aload_n hO 1 rfl rfl dX5_part_14 ?_
  refine x_iload_n hO 2 rfl rfl dX5_part_15 ?_
  refine x_iload_n hO 3 rfl rfl dX5_part_16 ?_
  refine y_HI (x_callV hO lv_RX5_41 hx0 vc_5 (by decide) (As := [rf Γ x1, .int x2, .int x3]) rfl (Nat.le_of_ble_eq_true rfl) (ok_X5_takeDeck (cG Γ) (uI (uI h x0 0 ((1 : Int32))) x0 1 (hI (uI h x0 0 ((1 : Int32))) x1 0)) x0 x1 x2 x3 hx0 hx1) dX5_part_17 rfl (Nat.le_of_ble_eq_true rfl)) (fun r1 => ?_)
  refine x_istore hO [(4, .int r1.2), (0, rf Γ x0), (1, rf Γ x1), (2, .int x2), (3, .int x3)] dX5_part_20 (by decide) rfl ?_
  refine x_aload_n hO 1 rfl rfl dX5_part_22 ?_
  refine x_iload hO 0 rfl dX5_part_23 ?_
  refine x_if_eq hO (tg := 35) dX5_part_25 (by decide) ?_ ?_
  · refine x_iconst hO (v := 0) (by decide) dX5_part_35 ?_
    refine x_putI hO fl_RX5_19 hx0 dX5_part_36 ?_
    refine x_aload_n hO 1 rfl rfl dX5_part_39 ?_
    refine x_getI hO fl_RX5_19 hx0 dX5_part_40 ?_
    refine x_if_le hO (tg := 84) dX5_part_43 (by decide) ?_ ?_
    · refine x_aload_n hO 1 rfl rfl dX5_part_84 ?_
      refine x_getI hO fl_RX5_19 hx0 dX5_part_85 ?_
      exact x_iret hO rfl dX5_part_88 (hR _)
    · refine x_iconst hO (v := 1) (by decide) dX5_part_46 ?_
      refine x_istore hO [(5, .int ((1 : Int32))), (4, .int r1.2), (0, rf Γ x0), (1, rf Γ x1), (2, .int x2), (3, .int x3)] dX5_part_47 (by decide) rfl ?_
      exact x_sub [2, 3, 0] rfl (go_X5_part_L49 hO (uI r1.1 x0 2 ((0 : Int32))) x0 x1 ((1 : Int32)) hx0 hx1 hR)
  · refine x_aload_n hO 1 rfl rfl dX5_part_28 ?_
    refine y_HI (x_callV hO lv_RX5_45 hx0 vc_5 (by decide) (As := []) rfl (Nat.le_of_ble_eq_true rfl) (ok_X5_countWays (cG Γ) r1.1 x0 hx0) dX5_part_29 rfl (Nat.le_of_ble_eq_true rfl)) (fun r2 => ?_)
    refine x_goto hO (tg := 36) dX5_part_32 (by decide) ?_
    refine x_putI hO fl_RX5_19 hx0 dX5_part_36 ?_
    refine x_aload_n hO 1 rfl rfl dX5_part_39 ?_
    refine x_getI hO fl_RX5_19 hx0 dX5_part_40 ?_
    refine x_if_le hO (tg := 84) dX5_part_43 (by decide) ?_ ?_
    · refine x_aload_n hO 1 rfl rfl dX5_part_84 ?_
      refine x_getI hO fl_RX5_19 hx0 dX5_part_85 ?_
      exact x_iret hO rfl dX5_part_88 (hR _)
    · refine x_iconst hO (v := 1) (by decide) dX5_part_46 ?_
      refine x_istore hO [(5, .int ((1 : Int32))), (4, .int r1.2), (0, rf Γ x0), (1, rf Γ x1), (2, .int x2), (3, .int x3)] dX5_part_47 (by decide) rfl ?_
      exact x_sub [2, 3, 0] rfl (go_X5_part_L49 hO (uI r2.1 x0 2 r2.2) x0 x1 ((1 : Int32)) hx0 hx1 hR)
theorem ok_X5_part (G : Gl) (h : Hp) (x0 : Nat) (x1 : Nat) (x2 : Int32) (x3 : Int32) (hx0 : Is x0 5) (hx1 : Is x1 2) : CN G mX5_part [.ref (gb G + x0), .ref (gb G + x1), .int x2, .int x3] h ((F_X5_part h x0 x1 x2 x3).map (emHI)) := CN.fn pn_RX5 (Nat.le_of_ble_eq_true rfl) (fun Γ hG hO => by subst hG; exact go_X5_part hO h x0 x1 x2 x3 hx0 hx1 (fun _ q => q))
noncomputable def J_X6_searchRows_52 (h : Hp) (x0 : Nat) (x1 : Nat) (x2 : Nat) (x3 : Int32) (x4 : Int32) (x6 : Int32) (x7 : Int32) : Option ((Hp × Int32 × Int32) ⊕ (Hp × Int32)) :=
  gd (cpok ((0 : Int32)) ((0 : Int32)) x3 (LEN (GR x0 5)) (LEN (GR x0 10))) (bnd (sI (uI h x0 9 x7) (GR x0 10) (va_cpy (hI (uI h x0 9 x7) (GR x0 5)) (hI (uI h x0 9 x7) (GR x0 10)) (nx ((0 : Int32))) (nx ((0 : Int32))) (nx x3))) (fun h1 => some (.inl (h1, (1 : Int32), x6 + (1 : Int32)))))
set_option maxHeartbeats 4000000 in
set_option maxRecDepth 100000 in
theorem go_X6_searchRows_J52 {Γ : Cx} (hO : Ok Γ mX6_searchRows) (h : Hp) (x0 : Nat) (x1 : Nat) (x2 : Nat) (x3 : Int32) (x4 : Int32) (x6 : Int32) (x7 : Int32) (hx0 : Is x0 6) (hx1 : Is x1 2) (hx2 : Is x2 3) {K : (Hp × Int32 × Int32) ⊕ (Hp × Int32) → Prop} (hC : ∀ (h : Hp) (x5 : Int32) (x6 : Int32), K (.inl (h, x5, x6)) → EW Γ mX6_searchRows 6 [(0, rf Γ x0), (1, rf Γ x1), (2, rf Γ x2), (3, .int x3), (4, .int x4), (5, .int x5), (6, .int x6)] [] h) (hR : ∀ r, K (.inr r) → emHI r = tgt Γ) : EG Γ mX6_searchRows 52 [(0, rf Γ x0), (1, rf Γ x1), (2, rf Γ x2), (3, .int x3), (4, .int x4), (6, .int x6), (7, .int x7)] [] h (J_X6_searchRows_52 h x0 x1 x2 x3 x4 x6 x7) K := by
  unfold J_X6_searchRows_52
  refine x_iconst hO (v := 1) (by decide) dX6_searchRows_52 ?_
  refine x_istore hO [(5, .int ((1 : Int32))), (0, rf Γ x0), (1, rf Γ x1), (2, rf Γ x2), (3, .int x3), (4, .int x4), (6, .int x6), (7, .int x7)] dX6_searchRows_53 (by decide) rfl ?_
  refine x_aload_n hO 1 rfl rfl dX6_searchRows_55 ?_
  refine x_iload hO 7 rfl dX6_searchRows_56 ?_
  refine x_putI hO fl_RX6_41 hx0 dX6_searchRows_58 ?_
  refine x_aload_n hO 1 rfl rfl dX6_searchRows_61 ?_
  refine x_getR hO fl_RX6_28 hx0 dX6_searchRows_62 ?_
  refine x_iconst hO (v := 0) (by decide) dX6_searchRows_65 ?_
  refine x_aload_n hO 1 rfl rfl dX6_searchRows_66 ?_
  refine x_getR hO fl_RX6_44 hx0 dX6_searchRows_67 ?_
  refine x_iconst hO (v := 0) (by decide) dX6_searchRows_70 ?_
  refine x_iload_n hO 4 rfl rfl dX6_searchRows_71 ?_
  refine x_copyI hO lc_RX6_84 (gr_6_5 hx0) (gr_6_10 hx0) (Nat.le_of_ble_eq_true rfl) (Nat.le_of_ble_eq_true rfl) dX6_searchRows_72 ?_
  refine x_bnd ?_
  generalize sI (uI h x0 9 x7) (GR x0 10) (va_cpy (hI (uI h x0 9 x7) (GR x0 5)) (hI (uI h x0 9 x7) (GR x0 10)) (nx ((0 : Int32))) (nx ((0 : Int32))) (nx x3)) = h1
  refine x_iinc hO 6 (v := 1) [(6, .int (x6 + (1 : Int32))), (5, .int ((1 : Int32))), (0, rf Γ x0), (1, rf Γ x1), (2, rf Γ x2), (3, .int x3), (4, .int x4), (7, .int x7)] dX6_searchRows_75 rfl (by decide) (by decide) rfl ?_
  refine x_goto hO (tg := 6) dX6_searchRows_78 (by decide) ?_
  exact x_leafs [2, 3, 4, 5, 6, 1, 0] rfl (hC h1 ((1 : Int32)) (x6 + (1 : Int32)))
noncomputable def B_X6_searchRows_6 (h : Hp) (x0 : Nat) (x1 : Nat) (x2 : Nat) (x3 : Int32) (x4 : Int32) (x5 : Int32) (x6 : Int32) : Option ((Hp × Int32 × Int32) ⊕ (Hp × Int32)) :=
  if x4 ≤ x6 then some (.inr ((h, x5 &&& 1))) else (F_X6_layTrial h x0 x6 x3).bind (fun r1 => if r1.2 = 0 then some (.inl (r1.1, x5, x6 + (1 : Int32))) else (F_X6_tryRow r1.1 x0 x1 x2 x3).bind (fun r2 => if r2.2 = ((-1 : Int32)) then some (.inl (r2.1, x5, x6 + (1 : Int32))) else if x5 = 0 then J_X6_searchRows_52 r2.1 x0 x1 x2 x3 x4 x6 r2.2 else if (hI r2.1 x0 9) ≤ r2.2 then some (.inl (r2.1, x5, x6 + (1 : Int32))) else J_X6_searchRows_52 r2.1 x0 x1 x2 x3 x4 x6 r2.2))
noncomputable def L_X6_searchRows_6 (h : Hp) (x0 : Nat) (x1 : Nat) (x2 : Nat) (x3 : Int32) (x4 : Int32) (x5 : Int32) (x6 : Int32) : Option (Hp × Int32) := iterW (fun s : Hp × Int32 × Int32 => B_X6_searchRows_6 s.1 x0 x1 x2 x3 x4 s.2.1 s.2.2) (h, x5, x6)
set_option maxHeartbeats 4000000 in
set_option maxRecDepth 100000 in
theorem go_X6_searchRows_B6 {Γ : Cx} (hO : Ok Γ mX6_searchRows) (h : Hp) (x0 : Nat) (x1 : Nat) (x2 : Nat) (x3 : Int32) (x4 : Int32) (x5 : Int32) (x6 : Int32) (hx0 : Is x0 6) (hx1 : Is x1 2) (hx2 : Is x2 3) {K : (Hp × Int32 × Int32) ⊕ (Hp × Int32) → Prop} (hC : ∀ (h : Hp) (x5 : Int32) (x6 : Int32), K (.inl (h, x5, x6)) → EW Γ mX6_searchRows 6 [(0, rf Γ x0), (1, rf Γ x1), (2, rf Γ x2), (3, .int x3), (4, .int x4), (5, .int x5), (6, .int x6)] [] h) (hR : ∀ r, K (.inr r) → emHI r = tgt Γ) : EG Γ mX6_searchRows 6 [(0, rf Γ x0), (1, rf Γ x1), (2, rf Γ x2), (3, .int x3), (4, .int x4), (5, .int x5), (6, .int x6)] [] h (B_X6_searchRows_6 h x0 x1 x2 x3 x4 x5 x6) K := by
  unfold B_X6_searchRows_6
  refine x_iload hO 6 rfl dX6_searchRows_6 ?_
  refine x_iload hO 4 rfl dX6_searchRows_8 ?_
  refine x_icmp_ge hO (tg := 81) dX6_searchRows_10 (by decide) ?_ ?_
  · refine x_iload hO 5 rfl dX6_searchRows_81 ?_
    exact x_zret hO rfl dX6_searchRows_83 (hR _)
  · refine x_aload_n hO 0 rfl rfl dX6_searchRows_13 ?_
    refine x_iload hO 6 rfl dX6_searchRows_14 ?_
    refine x_iload_n hO 3 rfl rfl dX6_searchRows_16 ?_
    refine y_HI (x_callV hO lv_RX6_76 hx0 vc_6 (by decide) (As := [.int x6, .int x3]) rfl (Nat.le_of_ble_eq_true rfl) (ok_X6_layTrial (cG Γ) h x0 x6 x3 hx0) dX6_searchRows_17 rfl (Nat.le_of_ble_eq_true rfl)) (fun r1 => ?_)
    refine x_if_eq hO (tg := 75) dX6_searchRows_20 (by decide) ?_ ?_
    · refine x_iinc hO 6 (v := 1) [(6, .int (x6 + (1 : Int32))), (0, rf Γ x0), (1, rf Γ x1), (2, rf Γ x2), (3, .int x3), (4, .int x4), (5, .int x5)] dX6_searchRows_75 rfl (by decide) (by decide) rfl ?_
      refine x_goto hO (tg := 6) dX6_searchRows_78 (by decide) ?_
      exact x_leafs [1, 2, 3, 4, 5, 6, 0] rfl (hC r1.1 x5 (x6 + (1 : Int32)))
    · refine x_aload_n hO 0 rfl rfl dX6_searchRows_23 ?_
      refine x_aload_n hO 1 rfl rfl dX6_searchRows_24 ?_
      refine x_aload_n hO 2 rfl rfl dX6_searchRows_25 ?_
      refine x_iload_n hO 3 rfl rfl dX6_searchRows_26 ?_
      refine y_HI (x_callV hO lv_RX6_80 hx0 vc_6 (by decide) (As := [rf Γ x1, rf Γ x2, .int x3]) rfl (Nat.le_of_ble_eq_true rfl) (ok_X6_tryRow (cG Γ) r1.1 x0 x1 x2 x3 hx0 hx1 hx2) dX6_searchRows_27 rfl (Nat.le_of_ble_eq_true rfl)) (fun r2 => ?_)
      refine x_istore hO [(7, .int r2.2), (0, rf Γ x0), (1, rf Γ x1), (2, rf Γ x2), (3, .int x3), (4, .int x4), (5, .int x5), (6, .int x6)] dX6_searchRows_30 (by decide) rfl ?_
      refine x_iload hO 0 rfl dX6_searchRows_32 ?_
      refine x_iconst hO (v := -1) (by decide) dX6_searchRows_34 ?_
      refine x_icmp_eq hO (tg := 75) dX6_searchRows_35 (by decide) ?_ ?_
      · refine x_iinc hO 7 (v := 1) [(6, .int (x6 + (1 : Int32))), (7, .int r2.2), (0, rf Γ x0), (1, rf Γ x1), (2, rf Γ x2), (3, .int x3), (4, .int x4), (5, .int x5)] dX6_searchRows_75 rfl (by decide) (by decide) rfl ?_
        refine x_goto hO (tg := 6) dX6_searchRows_78 (by decide) ?_
        exact x_leafs [2, 3, 4, 5, 6, 7, 0] rfl (hC r2.1 x5 (x6 + (1 : Int32)))
      · refine x_iload hO 6 rfl dX6_searchRows_38 ?_
        refine x_if_eq hO (tg := 52) dX6_searchRows_40 (by decide) ?_ ?_
        · exact x_sub [1, 2, 3, 4, 5, 7, 0] rfl (go_X6_searchRows_J52 hO r2.1 x0 x1 x2 x3 x4 x6 r2.2 hx0 hx1 hx2 hC hR)
        · refine x_iload hO 0 rfl dX6_searchRows_43 ?_
          refine x_aload_n hO 1 rfl rfl dX6_searchRows_45 ?_
          refine x_getI hO fl_RX6_41 hx0 dX6_searchRows_46 ?_
          refine x_icmp_ge hO (tg := 75) dX6_searchRows_49 (by decide) ?_ ?_
          · refine x_iinc hO 7 (v := 1) [(6, .int (x6 + (1 : Int32))), (7, .int r2.2), (0, rf Γ x0), (1, rf Γ x1), (2, rf Γ x2), (3, .int x3), (4, .int x4), (5, .int x5)] dX6_searchRows_75 rfl (by decide) (by decide) rfl ?_
            refine x_goto hO (tg := 6) dX6_searchRows_78 (by decide) ?_
            exact x_leafs [2, 3, 4, 5, 6, 7, 0] rfl (hC r2.1 x5 (x6 + (1 : Int32)))
          · exact x_sub [1, 2, 3, 4, 5, 7, 0] rfl (go_X6_searchRows_J52 hO r2.1 x0 x1 x2 x3 x4 x6 r2.2 hx0 hx1 hx2 hC hR)
set_option maxHeartbeats 4000000 in
set_option maxRecDepth 100000 in
theorem go_X6_searchRows_L6 {Γ : Cx} (hO : Ok Γ mX6_searchRows) (h : Hp) (x0 : Nat) (x1 : Nat) (x2 : Nat) (x3 : Int32) (x4 : Int32) (x5 : Int32) (x6 : Int32) (hx0 : Is x0 6) (hx1 : Is x1 2) (hx2 : Is x2 3) {K : Hp × Int32 → Prop} (hR : ∀ r, K (r) → emHI r = tgt Γ) : EG Γ mX6_searchRows 6 [(0, rf Γ x0), (1, rf Γ x1), (2, rf Γ x2), (3, .int x3), (4, .int x4), (5, .int x5), (6, .int x6)] [] h (L_X6_searchRows_6 h x0 x1 x2 x3 x4 x5 x6) K := by
  have q := x_loop (Γ := Γ) (M := mX6_searchRows) (pc := 6) (B := fun s : Hp × Int32 × Int32 => B_X6_searchRows_6 s.1 x0 x1 x2 x3 x4 s.2.1 s.2.2) (lvf := fun s => [(0, rf Γ x0), (1, rf Γ x1), (2, rf Γ x2), (3, .int x3), (4, .int x4), (5, .int s.2.1), (6, .int s.2.2)]) (hf := fun s => s.1) (Ky := K) (fun s => go_X6_searchRows_B6 hO s.1 x0 x1 x2 x3 x4 s.2.1 s.2.2 hx0 hx1 hx2 (fun _ _ _ => id) hR) (h, x5, x6)
  exact q
noncomputable def F_X6_searchRows (h : Hp) (x0 : Nat) (x1 : Nat) (x2 : Nat) (x3 : Int32) (x4 : Int32) : Option (Hp × Int32) :=
  L_X6_searchRows_6 h x0 x1 x2 x3 x4 ((0 : Int32)) ((0 : Int32))
set_option maxHeartbeats 4000000 in
set_option maxRecDepth 100000 in
theorem go_X6_searchRows {Γ : Cx} (hO : Ok Γ mX6_searchRows) (h : Hp) (x0 : Nat) (x1 : Nat) (x2 : Nat) (x3 : Int32) (x4 : Int32) (hx0 : Is x0 6) (hx1 : Is x1 2) (hx2 : Is x2 3) {K : Hp × Int32 → Prop} (hR : ∀ r, K r → emHI r = tgt Γ) : EG Γ mX6_searchRows 0 [(0, rf Γ x0), (1, rf Γ x1), (2, rf Γ x2), (3, .int x3), (4, .int x4)] [] h (F_X6_searchRows h x0 x1 x2 x3 x4) K := by
  unfold F_X6_searchRows
  refine x_iconst hO (v := 0) (by decide) dX6_searchRows_0 ?_
  refine x_istore hO [(5, .int ((0 : Int32))), (0, rf Γ x0), (1, rf Γ x1), (2, rf Γ x2), (3, .int x3), (4, .int x4)] dX6_searchRows_1 (by decide) rfl ?_
  refine x_iconst hO (v := 0) (by decide) dX6_searchRows_3 ?_
  refine x_istore hO [(6, .int ((0 : Int32))), (5, .int ((0 : Int32))), (0, rf Γ x0), (1, rf Γ x1), (2, rf Γ x2), (3, .int x3), (4, .int x4)] dX6_searchRows_4 (by decide) rfl ?_
  exact x_sub [2, 3, 4, 5, 6, 1, 0] rfl (go_X6_searchRows_L6 hO h x0 x1 x2 x3 x4 ((0 : Int32)) ((0 : Int32)) hx0 hx1 hx2 hR)
theorem ok_X6_searchRows (G : Gl) (h : Hp) (x0 : Nat) (x1 : Nat) (x2 : Nat) (x3 : Int32) (x4 : Int32) (hx0 : Is x0 6) (hx1 : Is x1 2) (hx2 : Is x2 3) : CN G mX6_searchRows [.ref (gb G + x0), .ref (gb G + x1), .ref (gb G + x2), .int x3, .int x4] h ((F_X6_searchRows h x0 x1 x2 x3 x4).map (emHI)) := CN.fn pn_RX6 (Nat.le_of_ble_eq_true rfl) (fun Γ hG hO => by subst hG; exact go_X6_searchRows hO h x0 x1 x2 x3 x4 hx0 hx1 hx2 (fun _ q => q))
noncomputable def F_X8_readEnd (h : Hp) (x0 : Nat) : Option (Hp) :=
  if 0 < (hI h x0 3) then (F_X7_advance h (GR x0 0)).bind (fun r1 => (F_X7_takeSign r1 (GR x0 0)).bind (fun r2 => if r2.2 = 0 then some r2.1 else gd (ib (hI (uI r2.1 x0 3 ((hI r2.1 x0 3) - ((1 : Int32)))) x0 3) (LEN (GR x0 2))) ((F_X9_addEnd (uI r2.1 x0 3 ((hI r2.1 x0 3) - ((1 : Int32)))) (GR x0 1) (hI (uI r2.1 x0 3 ((hI r2.1 x0 3) - ((1 : Int32)))) (GR x0 2) (nx (hI (uI r2.1 x0 3 ((hI r2.1 x0 3) - ((1 : Int32)))) x0 3)))).bind (fun r3 => some r3)))) else (F_X7_misplaced h (GR x0 0)).bind (fun r4 => (F_X7_tell h (GR x0 0) r4).bind (fun r5 => some r5.1))
set_option maxHeartbeats 4000000 in
set_option maxRecDepth 100000 in
theorem go_X8_readEnd {Γ : Cx} (hO : Ok Γ mX8_readEnd) (h : Hp) (x0 : Nat) (hx0 : Is x0 8) {K : Hp → Prop} (hR : ∀ r, K r → emHV r = tgt Γ) : EG Γ mX8_readEnd 0 [(0, rf Γ x0)] [] h (F_X8_readEnd h x0) K := by
  unfold F_X8_readEnd
  refine x_aload_n hO 0 rfl rfl dX8_readEnd_0 ?_
  refine x_getI hO fl_RX8_29 hx0 dX8_readEnd_1 ?_
  refine x_if_gt hO (tg := 23) dX8_readEnd_4 (by decide) ?_ ?_
  · refine x_aload_n hO 0 rfl rfl dX8_readEnd_23 ?_
    refine x_getR hO fl_RX8_12 hx0 dX8_readEnd_24 ?_
    refine y_HV (x_callV hO lv_RX8_73 (gr_8_0 hx0) vc_7 (by decide) (As := []) rfl (Nat.le_of_ble_eq_true rfl) (ok_X7_advance (cG Γ) h (GR x0 0) (gr_8_0 hx0)) dX8_readEnd_27 rfl (Nat.le_of_ble_eq_true rfl)) (fun r1 => ?_)
    refine x_aload_n hO 0 rfl rfl dX8_readEnd_30 ?_
    refine x_getR hO fl_RX8_12 hx0 dX8_readEnd_31 ?_
    refine y_HI (x_callV hO lv_RX8_76 (gr_8_0 hx0) vc_7 (by decide) (As := []) rfl (Nat.le_of_ble_eq_true rfl) (ok_X7_takeSign (cG Γ) r1 (GR x0 0) (gr_8_0 hx0)) dX8_readEnd_34 rfl (Nat.le_of_ble_eq_true rfl)) (fun r2 => ?_)
    refine x_if_ne hO (tg := 41) dX8_readEnd_37 (by decide) ?_ ?_
    · refine x_aload_n hO 0 rfl rfl dX8_readEnd_41 ?_
      refine x_dup_r hO dX8_readEnd_42 ?_
      refine x_getI hO fl_RX8_29 hx0 dX8_readEnd_43 ?_
      refine x_iconst hO (v := 1) (by decide) dX8_readEnd_46 ?_
      refine x_isub hO dX8_readEnd_47 ?_
      refine x_putI hO fl_RX8_29 hx0 dX8_readEnd_48 ?_
      refine x_aload_n hO 0 rfl rfl dX8_readEnd_51 ?_
      refine x_getR hO fl_RX8_21 hx0 dX8_readEnd_52 ?_
      refine x_aload_n hO 0 rfl rfl dX8_readEnd_55 ?_
      refine x_getR hO fl_RX8_25 hx0 dX8_readEnd_56 ?_
      refine x_aload_n hO 0 rfl rfl dX8_readEnd_59 ?_
      refine x_getI hO fl_RX8_29 hx0 dX8_readEnd_60 ?_
      refine x_iald hO (gr_8_2 hx0) dX8_readEnd_63 ?_
      refine y_HV (x_callV hO lv_RX8_79 (gr_8_1 hx0) vc_9 (by decide) (As := [.int (hI (uI r2.1 x0 3 ((hI r2.1 x0 3) - ((1 : Int32)))) (GR x0 2) (nx (hI (uI r2.1 x0 3 ((hI r2.1 x0 3) - ((1 : Int32)))) x0 3)))]) rfl (Nat.le_of_ble_eq_true rfl) (ok_X9_addEnd (cG Γ) (uI r2.1 x0 3 ((hI r2.1 x0 3) - ((1 : Int32)))) (GR x0 1) (hI (uI r2.1 x0 3 ((hI r2.1 x0 3) - ((1 : Int32)))) (GR x0 2) (nx (hI (uI r2.1 x0 3 ((hI r2.1 x0 3) - ((1 : Int32)))) x0 3))) (gr_8_1 hx0)) dX8_readEnd_64 rfl (Nat.le_of_ble_eq_true rfl)) (fun r3 => ?_)
      exact x_vret hO rfl dX8_readEnd_67 (hR _)
    · exact x_vret hO rfl dX8_readEnd_40 (hR _)
  · refine x_aload_n hO 0 rfl rfl dX8_readEnd_7 ?_
    refine x_getR hO fl_RX8_12 hx0 dX8_readEnd_8 ?_
    refine x_aload_n hO 0 rfl rfl dX8_readEnd_11 ?_
    refine x_getR hO fl_RX8_12 hx0 dX8_readEnd_12 ?_
    refine y_PI (x_callV hO lv_RX8_62 (gr_8_0 hx0) vc_7 (by decide) (As := []) rfl (Nat.le_of_ble_eq_true rfl) (ok_X7_misplaced (cG Γ) h (GR x0 0) (gr_8_0 hx0)) dX8_readEnd_15 rfl (Nat.le_of_ble_eq_true rfl)) (fun r4 => ?_)
    refine y_HI (x_callV hO lv_RX8_66 (gr_8_0 hx0) vc_7 (by decide) (As := [.int r4]) rfl (Nat.le_of_ble_eq_true rfl) (ok_X7_tell (cG Γ) h (GR x0 0) r4 (gr_8_0 hx0)) dX8_readEnd_18 rfl (Nat.le_of_ble_eq_true rfl)) (fun r5 => ?_)
    refine x_pop_i hO dX8_readEnd_21 ?_
    exact x_vret hO rfl dX8_readEnd_22 (hR _)
theorem ok_X8_readEnd (G : Gl) (h : Hp) (x0 : Nat) (hx0 : Is x0 8) : CN G mX8_readEnd [.ref (gb G + x0)] h ((F_X8_readEnd h x0).map (emHV)) := CN.fn pn_RX8 (Nat.le_of_ble_eq_true rfl) (fun Γ hG hO => by subst hG; exact go_X8_readEnd hO h x0 hx0 (fun _ q => q))
noncomputable def F_X11_matched (h : Hp) (x0 : Nat) (x1 : Int32) (x2 : Int32) (x3 : Int32) : Option (Hp × Int32) :=
  (F_X11_isField h x1 x2).bind (fun r1 => if r1 = 0 then (F_X11_refuse h x0 ((1 : Int32))).bind (fun r2 => some ((r2.1, r2.2))) else if x3 < 0 then (F_X11_refuse h x0 ((1 : Int32))).bind (fun r3 => some ((r3.1, r3.2))) else if x3 ≤ ((2 : Int32)) then (F_X2_matchedBy h (GR x0 2) x1 x2 x3).bind (fun r4 => (F_X11_answer h x0 r4).bind (fun r5 => some ((r5.1, r5.2)))) else (F_X11_refuse h x0 ((1 : Int32))).bind (fun r6 => some ((r6.1, r6.2))))
set_option maxHeartbeats 4000000 in
set_option maxRecDepth 100000 in
theorem go_X11_matched {Γ : Cx} (hO : Ok Γ mX11_matched) (h : Hp) (x0 : Nat) (x1 : Int32) (x2 : Int32) (x3 : Int32) (hx0 : Is x0 11) {K : Hp × Int32 → Prop} (hR : ∀ r, K r → emHI r = tgt Γ) : EG Γ mX11_matched 0 [(0, rf Γ x0), (1, .int x1), (2, .int x2), (3, .int x3)] [] h (F_X11_matched h x0 x1 x2 x3) K := by
  unfold F_X11_matched
  refine x_iload_n hO 1 rfl rfl dX11_matched_0 ?_
  refine x_iload_n hO 2 rfl rfl dX11_matched_1 ?_
  refine y_PI (x_callS hO lt_RX11_277 (As := [.int x1, .int x2]) rfl (Nat.le_of_ble_eq_true rfl) (ok_X11_isField (cG Γ) h x1 x2) dX11_matched_2 rfl (Nat.le_of_ble_eq_true rfl)) (fun r1 => ?_)
  refine x_if_eq hO (tg := 17) dX11_matched_5 (by decide) ?_ ?_
  · refine x_aload_n hO 0 rfl rfl dX11_matched_17 ?_
    refine x_iconst hO (v := 1) (by decide) dX11_matched_18 ?_
    refine y_HI (x_callV hO lv_RX11_119 hx0 vc_11 (by decide) (As := [.int ((1 : Int32))]) rfl (Nat.le_of_ble_eq_true rfl) (ok_X11_refuse (cG Γ) h x0 ((1 : Int32)) hx0) dX11_matched_19 rfl (Nat.le_of_ble_eq_true rfl)) (fun r2 => ?_)
    exact x_iret hO rfl dX11_matched_22 (hR _)
  · refine x_iload_n hO 3 rfl rfl dX11_matched_8 ?_
    refine x_if_lt hO (tg := 17) dX11_matched_9 (by decide) ?_ ?_
    · refine x_aload_n hO 0 rfl rfl dX11_matched_17 ?_
      refine x_iconst hO (v := 1) (by decide) dX11_matched_18 ?_
      refine y_HI (x_callV hO lv_RX11_119 hx0 vc_11 (by decide) (As := [.int ((1 : Int32))]) rfl (Nat.le_of_ble_eq_true rfl) (ok_X11_refuse (cG Γ) h x0 ((1 : Int32)) hx0) dX11_matched_19 rfl (Nat.le_of_ble_eq_true rfl)) (fun r3 => ?_)
      exact x_iret hO rfl dX11_matched_22 (hR _)
    · refine x_iload_n hO 3 rfl rfl dX11_matched_12 ?_
      refine x_iconst hO (v := 2) (by decide) dX11_matched_13 ?_
      refine x_icmp_le hO (tg := 23) dX11_matched_14 (by decide) ?_ ?_
      · refine x_aload_n hO 0 rfl rfl dX11_matched_23 ?_
        refine x_aload_n hO 0 rfl rfl dX11_matched_24 ?_
        refine x_getR hO fl_RX11_22 hx0 dX11_matched_25 ?_
        refine x_iload_n hO 1 rfl rfl dX11_matched_28 ?_
        refine x_iload_n hO 2 rfl rfl dX11_matched_29 ?_
        refine x_iload_n hO 3 rfl rfl dX11_matched_30 ?_
        refine y_PI (x_callV hO lv_RX11_307 (gr_11_2 hx0) vc_2 (by decide) (As := [.int x1, .int x2, .int x3]) rfl (Nat.le_of_ble_eq_true rfl) (ok_X2_matchedBy (cG Γ) h (GR x0 2) x1 x2 x3 (gr_11_2 hx0)) dX11_matched_31 rfl (Nat.le_of_ble_eq_true rfl)) (fun r4 => ?_)
        refine y_HI (x_callV hO lv_RX11_157 hx0 vc_11 (by decide) (As := [.int r4]) rfl (Nat.le_of_ble_eq_true rfl) (ok_X11_answer (cG Γ) h x0 r4 hx0) dX11_matched_34 rfl (Nat.le_of_ble_eq_true rfl)) (fun r5 => ?_)
        exact x_iret hO rfl dX11_matched_37 (hR _)
      · refine x_aload_n hO 0 rfl rfl dX11_matched_17 ?_
        refine x_iconst hO (v := 1) (by decide) dX11_matched_18 ?_
        refine y_HI (x_callV hO lv_RX11_119 hx0 vc_11 (by decide) (As := [.int ((1 : Int32))]) rfl (Nat.le_of_ble_eq_true rfl) (ok_X11_refuse (cG Γ) h x0 ((1 : Int32)) hx0) dX11_matched_19 rfl (Nat.le_of_ble_eq_true rfl)) (fun r6 => ?_)
        exact x_iret hO rfl dX11_matched_22 (hR _)
theorem ok_X11_matched (G : Gl) (h : Hp) (x0 : Nat) (x1 : Int32) (x2 : Int32) (x3 : Int32) (hx0 : Is x0 11) : CN G mX11_matched [.ref (gb G + x0), .int x1, .int x2, .int x3] h ((F_X11_matched h x0 x1 x2 x3).map (emHI)) := CN.fn pn_RX11 (Nat.le_of_ble_eq_true rfl) (fun Γ hG hO => by subst hG; exact go_X11_matched hO h x0 x1 x2 x3 hx0 (fun _ q => q))
noncomputable def F_X11_parts (h : Hp) (x0 : Nat) (x1 : Int32) (x2 : Int32) : Option (Hp × Int32) :=
  (F_X11_isField h x1 x2).bind (fun r1 => if r1 = 0 then (F_X11_refuse h x0 ((1 : Int32))).bind (fun r4 => some ((r4.1, r4.2))) else (F_X5_part h (GR x0 9) (GR x0 2) x1 x2).bind (fun r2 => (F_X11_answer r2.1 x0 r2.2).bind (fun r3 => some ((r3.1, r3.2)))))
set_option maxHeartbeats 4000000 in
set_option maxRecDepth 100000 in
theorem go_X11_parts {Γ : Cx} (hO : Ok Γ mX11_parts) (h : Hp) (x0 : Nat) (x1 : Int32) (x2 : Int32) (hx0 : Is x0 11) {K : Hp × Int32 → Prop} (hR : ∀ r, K r → emHI r = tgt Γ) : EG Γ mX11_parts 0 [(0, rf Γ x0), (1, .int x1), (2, .int x2)] [] h (F_X11_parts h x0 x1 x2) K := by
  unfold F_X11_parts
  refine x_iload_n hO 1 rfl rfl dX11_parts_0 ?_
  refine x_iload_n hO 2 rfl rfl dX11_parts_1 ?_
  refine y_PI (x_callS hO lt_RX11_277 (As := [.int x1, .int x2]) rfl (Nat.le_of_ble_eq_true rfl) (ok_X11_isField (cG Γ) h x1 x2) dX11_parts_2 rfl (Nat.le_of_ble_eq_true rfl)) (fun r1 => ?_)
  refine x_if_ne hO (tg := 14) dX11_parts_5 (by decide) ?_ ?_
  · refine x_aload_n hO 0 rfl rfl dX11_parts_14 ?_
    refine x_aload_n hO 0 rfl rfl dX11_parts_15 ?_
    refine x_getR hO fl_RX11_68 hx0 dX11_parts_16 ?_
    refine x_aload_n hO 0 rfl rfl dX11_parts_19 ?_
    refine x_getR hO fl_RX11_22 hx0 dX11_parts_20 ?_
    refine x_iload_n hO 1 rfl rfl dX11_parts_23 ?_
    refine x_iload_n hO 2 rfl rfl dX11_parts_24 ?_
    refine y_HI (x_callV hO lv_RX11_350 (gr_11_9 hx0) vc_5 (by decide) (As := [rf Γ (GR x0 2), .int x1, .int x2]) rfl (Nat.le_of_ble_eq_true rfl) (ok_X5_part (cG Γ) h (GR x0 9) (GR x0 2) x1 x2 (gr_11_9 hx0) (gr_11_2 hx0)) dX11_parts_25 rfl (Nat.le_of_ble_eq_true rfl)) (fun r2 => ?_)
    refine y_HI (x_callV hO lv_RX11_157 hx0 vc_11 (by decide) (As := [.int r2.2]) rfl (Nat.le_of_ble_eq_true rfl) (ok_X11_answer (cG Γ) r2.1 x0 r2.2 hx0) dX11_parts_28 rfl (Nat.le_of_ble_eq_true rfl)) (fun r3 => ?_)
    exact x_iret hO rfl dX11_parts_31 (hR _)
  · refine x_aload_n hO 0 rfl rfl dX11_parts_8 ?_
    refine x_iconst hO (v := 1) (by decide) dX11_parts_9 ?_
    refine y_HI (x_callV hO lv_RX11_119 hx0 vc_11 (by decide) (As := [.int ((1 : Int32))]) rfl (Nat.le_of_ble_eq_true rfl) (ok_X11_refuse (cG Γ) h x0 ((1 : Int32)) hx0) dX11_parts_10 rfl (Nat.le_of_ble_eq_true rfl)) (fun r4 => ?_)
    exact x_iret hO rfl dX11_parts_13 (hR _)
theorem ok_X11_parts (G : Gl) (h : Hp) (x0 : Nat) (x1 : Int32) (x2 : Int32) (hx0 : Is x0 11) : CN G mX11_parts [.ref (gb G + x0), .int x1, .int x2] h ((F_X11_parts h x0 x1 x2).map (emHI)) := CN.fn pn_RX11 (Nat.le_of_ble_eq_true rfl) (fun Γ hG hO => by subst hG; exact go_X11_parts hO h x0 x1 x2 hx0 (fun _ q => q))
noncomputable def J_X12_collate_134 (h : Hp) (x0 : Nat) (x1 : Int32) (x2 : Int32) (x3 : Int32) (x4 : Int32) (x5 : Int32) (x6 : Int32) (x7 : Int32) (s0 : Nat) (s1 : Int32) (s2 : Nat) (s3 : Int32) : Option ((Hp × Int32 × Int32 × Int32) ⊕ (Hp × Int32)) :=
  gd (ib s3 (LEN s2)) (gd (ib s1 (LEN s0)) (if x7 = 0 then (F_X12_nextOf (uI h s0 (nx s1) (hI h s2 (nx s3))) x0 (x6 + ((1 : Int32))) ((1 : Int32)) x1 x2).bind (fun r1 => some (.inl (uI h s0 (nx s1) (hI h s2 (nx s3)), x4 + (1 : Int32), x5, r1))) else (F_X12_nextOf (uI h s0 (nx s1) (hI h s2 (nx s3))) x0 (x5 + ((1 : Int32))) ((0 : Int32)) x1 x2).bind (fun r2 => some (.inl (uI h s0 (nx s1) (hI h s2 (nx s3)), x4 + (1 : Int32), r2, x6)))))
set_option maxHeartbeats 4000000 in
set_option maxRecDepth 100000 in
theorem go_X12_collate_J134 {Γ : Cx} (hO : Ok Γ mX12_collate) (h : Hp) (x0 : Nat) (x1 : Int32) (x2 : Int32) (x3 : Int32) (x4 : Int32) (x5 : Int32) (x6 : Int32) (x7 : Int32) (s0 : Nat) (s1 : Int32) (s2 : Nat) (s3 : Int32) (hx0 : Is x0 12) (hs0 : Is s0 14) (hs2 : Is s2 14) {K : (Hp × Int32 × Int32 × Int32) ⊕ (Hp × Int32) → Prop} (hC : ∀ (h : Hp) (x4 : Int32) (x5 : Int32) (x6 : Int32), K (.inl (h, x4, x5, x6)) → EW Γ mX12_collate 48 [(0, rf Γ x0), (1, .int x1), (2, .int x2), (3, .int x3), (4, .int x4), (5, .int x5), (6, .int x6)] [] h) (hE176 : ∀ (h : Hp) (x4 : Int32), K (.inr ((h, x4))) → EW Γ mX12_collate 176 [(0, rf Γ x0), (1, .int x1), (2, .int x2), (3, .int x3), (4, .int x4)] [] h) : EG Γ mX12_collate 134 [(0, rf Γ x0), (1, .int x1), (2, .int x2), (3, .int x3), (4, .int x4), (5, .int x5), (6, .int x6), (7, .int x7)] [.int s3, rf Γ s2, .int s1, rf Γ s0] h (J_X12_collate_134 h x0 x1 x2 x3 x4 x5 x6 x7 s0 s1 s2 s3) K := by
  unfold J_X12_collate_134
  refine x_iald hO hs2 dX12_collate_134 ?_
  refine x_iast hO hs0 dX12_collate_135 ?_
  refine x_iinc hO 4 (v := 1) [(4, .int (x4 + (1 : Int32))), (0, rf Γ x0), (1, .int x1), (2, .int x2), (3, .int x3), (5, .int x5), (6, .int x6), (7, .int x7)] dX12_collate_136 rfl (by decide) (by decide) rfl ?_
  refine x_iload hO 7 rfl dX12_collate_139 ?_
  refine x_if_eq hO (tg := 160) dX12_collate_141 (by decide) ?_ ?_
  · refine x_aload_n hO 1 rfl rfl dX12_collate_160 ?_
    refine x_iload hO 6 rfl dX12_collate_161 ?_
    refine x_iconst hO (v := 1) (by decide) dX12_collate_163 ?_
    refine x_iadd hO dX12_collate_164 ?_
    refine x_iconst hO (v := 1) (by decide) dX12_collate_165 ?_
    refine x_iload_n hO 2 rfl rfl dX12_collate_166 ?_
    refine x_iload_n hO 3 rfl rfl dX12_collate_167 ?_
    refine y_PI (x_callV hO lv_RX12_336 hx0 vc_12 (by decide) (As := [.int (x6 + ((1 : Int32))), .int ((1 : Int32)), .int x1, .int x2]) rfl (Nat.le_of_ble_eq_true rfl) (ok_X12_nextOf (cG Γ) (uI h s0 (nx s1) (hI h s2 (nx s3))) x0 (x6 + ((1 : Int32))) ((1 : Int32)) x1 x2 hx0) dX12_collate_168 rfl (Nat.le_of_ble_eq_true rfl)) (fun r1 => ?_)
    refine x_istore hO [(6, .int r1), (4, .int (x4 + (1 : Int32))), (0, rf Γ x0), (1, .int x1), (2, .int x2), (3, .int x3), (5, .int x5), (7, .int x7)] dX12_collate_171 (by decide) rfl ?_
    refine x_goto hO (tg := 48) dX12_collate_173 (by decide) ?_
    exact x_leafs [2, 3, 4, 5, 1, 6, 0] rfl (hC (uI h s0 (nx s1) (hI h s2 (nx s3))) (x4 + (1 : Int32)) x5 r1)
  · refine x_aload_n hO 1 rfl rfl dX12_collate_144 ?_
    refine x_iload hO 5 rfl dX12_collate_145 ?_
    refine x_iconst hO (v := 1) (by decide) dX12_collate_147 ?_
    refine x_iadd hO dX12_collate_148 ?_
    refine x_iconst hO (v := 0) (by decide) dX12_collate_149 ?_
    refine x_iload_n hO 2 rfl rfl dX12_collate_150 ?_
    refine x_iload_n hO 3 rfl rfl dX12_collate_151 ?_
    refine y_PI (x_callV hO lv_RX12_336 hx0 vc_12 (by decide) (As := [.int (x5 + ((1 : Int32))), .int ((0 : Int32)), .int x1, .int x2]) rfl (Nat.le_of_ble_eq_true rfl) (ok_X12_nextOf (cG Γ) (uI h s0 (nx s1) (hI h s2 (nx s3))) x0 (x5 + ((1 : Int32))) ((0 : Int32)) x1 x2 hx0) dX12_collate_152 rfl (Nat.le_of_ble_eq_true rfl)) (fun r2 => ?_)
    refine x_istore hO [(5, .int r2), (4, .int (x4 + (1 : Int32))), (0, rf Γ x0), (1, .int x1), (2, .int x2), (3, .int x3), (6, .int x6), (7, .int x7)] dX12_collate_155 (by decide) rfl ?_
    refine x_goto hO (tg := 173) dX12_collate_157 (by decide) ?_
    refine x_goto hO (tg := 48) dX12_collate_173 (by decide) ?_
    exact x_leafs [2, 3, 4, 5, 1, 0, 6] rfl (hC (uI h s0 (nx s1) (hI h s2 (nx s3))) (x4 + (1 : Int32)) r2 x6)
noncomputable def J_X12_collate_106 (h : Hp) (x0 : Nat) (x1 : Int32) (x2 : Int32) (x3 : Int32) (x4 : Int32) (x5 : Int32) (x6 : Int32) (s0 : Int32) : Option ((Hp × Int32 × Int32 × Int32) ⊕ (Hp × Int32)) :=
  if s0 = 0 then J_X12_collate_134 h x0 x1 x2 x3 x4 x5 x6 s0 (GR x0 0) (((338 : Int32)) + x4) (GR x0 25) x6 else J_X12_collate_134 h x0 x1 x2 x3 x4 x5 x6 s0 (GR x0 0) (((338 : Int32)) + x4) (GR x0 25) x5
set_option maxHeartbeats 4000000 in
set_option maxRecDepth 100000 in
theorem go_X12_collate_J106 {Γ : Cx} (hO : Ok Γ mX12_collate) (h : Hp) (x0 : Nat) (x1 : Int32) (x2 : Int32) (x3 : Int32) (x4 : Int32) (x5 : Int32) (x6 : Int32) (s0 : Int32) (hx0 : Is x0 12) {K : (Hp × Int32 × Int32 × Int32) ⊕ (Hp × Int32) → Prop} (hC : ∀ (h : Hp) (x4 : Int32) (x5 : Int32) (x6 : Int32), K (.inl (h, x4, x5, x6)) → EW Γ mX12_collate 48 [(0, rf Γ x0), (1, .int x1), (2, .int x2), (3, .int x3), (4, .int x4), (5, .int x5), (6, .int x6)] [] h) (hE176 : ∀ (h : Hp) (x4 : Int32), K (.inr ((h, x4))) → EW Γ mX12_collate 176 [(0, rf Γ x0), (1, .int x1), (2, .int x2), (3, .int x3), (4, .int x4)] [] h) : EG Γ mX12_collate 106 [(0, rf Γ x0), (1, .int x1), (2, .int x2), (3, .int x3), (4, .int x4), (5, .int x5), (6, .int x6)] [.int s0] h (J_X12_collate_106 h x0 x1 x2 x3 x4 x5 x6 s0) K := by
  unfold J_X12_collate_106
  refine x_istore hO [(7, .int s0), (0, rf Γ x0), (1, .int x1), (2, .int x2), (3, .int x3), (4, .int x4), (5, .int x5), (6, .int x6)] dX12_collate_106 (by decide) rfl ?_
  refine x_aload_n hO 1 rfl rfl dX12_collate_108 ?_
  refine x_getR hO fl_RX12_7 hx0 dX12_collate_109 ?_
  refine x_sipush hO (v := 338) (by decide) dX12_collate_112 ?_
  refine x_iload hO 5 rfl dX12_collate_115 ?_
  refine x_iadd hO dX12_collate_117 ?_
  refine x_aload_n hO 1 rfl rfl dX12_collate_118 ?_
  refine x_getR hO fl_RX12_56 hx0 dX12_collate_119 ?_
  refine x_iload hO 0 rfl dX12_collate_122 ?_
  refine x_if_eq hO (tg := 132) dX12_collate_124 (by decide) ?_ ?_
  · refine x_iload hO 7 rfl dX12_collate_132 ?_
    exact x_sub [1, 2, 3, 4, 5, 6, 7, 0] rfl (go_X12_collate_J134 hO h x0 x1 x2 x3 x4 x5 x6 s0 (GR x0 0) (((338 : Int32)) + x4) (GR x0 25) x6 hx0 (gr_12_0 hx0) (gr_12_25 hx0) hC hE176)
  · refine x_iload hO 6 rfl dX12_collate_127 ?_
    refine x_goto hO (tg := 134) dX12_collate_129 (by decide) ?_
    exact x_sub [1, 2, 3, 4, 5, 6, 7, 0] rfl (go_X12_collate_J134 hO h x0 x1 x2 x3 x4 x5 x6 s0 (GR x0 0) (((338 : Int32)) + x4) (GR x0 25) x5 hx0 (gr_12_0 hx0) (gr_12_25 hx0) hC hE176)
noncomputable def J_X12_collate_101 (h : Hp) (x0 : Nat) (x1 : Int32) (x2 : Int32) (x3 : Int32) (x4 : Int32) (x5 : Int32) (x6 : Int32) : Option ((Hp × Int32 × Int32 × Int32) ⊕ (Hp × Int32)) :=
  J_X12_collate_106 h x0 x1 x2 x3 x4 x5 x6 ((1 : Int32))
set_option maxHeartbeats 4000000 in
set_option maxRecDepth 100000 in
theorem go_X12_collate_J101 {Γ : Cx} (hO : Ok Γ mX12_collate) (h : Hp) (x0 : Nat) (x1 : Int32) (x2 : Int32) (x3 : Int32) (x4 : Int32) (x5 : Int32) (x6 : Int32) (hx0 : Is x0 12) {K : (Hp × Int32 × Int32 × Int32) ⊕ (Hp × Int32) → Prop} (hC : ∀ (h : Hp) (x4 : Int32) (x5 : Int32) (x6 : Int32), K (.inl (h, x4, x5, x6)) → EW Γ mX12_collate 48 [(0, rf Γ x0), (1, .int x1), (2, .int x2), (3, .int x3), (4, .int x4), (5, .int x5), (6, .int x6)] [] h) (hE176 : ∀ (h : Hp) (x4 : Int32), K (.inr ((h, x4))) → EW Γ mX12_collate 176 [(0, rf Γ x0), (1, .int x1), (2, .int x2), (3, .int x3), (4, .int x4)] [] h) : EG Γ mX12_collate 101 [(0, rf Γ x0), (1, .int x1), (2, .int x2), (3, .int x3), (4, .int x4), (5, .int x5), (6, .int x6)] [] h (J_X12_collate_101 h x0 x1 x2 x3 x4 x5 x6) K := by
  unfold J_X12_collate_101
  refine x_iconst hO (v := 1) (by decide) dX12_collate_101 ?_
  refine x_goto hO (tg := 106) dX12_collate_102 (by decide) ?_
  exact x_sub [0, 1, 2, 3, 4, 5, 6] rfl (go_X12_collate_J106 hO h x0 x1 x2 x3 x4 x5 x6 ((1 : Int32)) hx0 hC hE176)
noncomputable def J_X12_collate_105 (h : Hp) (x0 : Nat) (x1 : Int32) (x2 : Int32) (x3 : Int32) (x4 : Int32) (x5 : Int32) (x6 : Int32) : Option ((Hp × Int32 × Int32 × Int32) ⊕ (Hp × Int32)) :=
  J_X12_collate_106 h x0 x1 x2 x3 x4 x5 x6 ((0 : Int32))
set_option maxHeartbeats 4000000 in
set_option maxRecDepth 100000 in
theorem go_X12_collate_J105 {Γ : Cx} (hO : Ok Γ mX12_collate) (h : Hp) (x0 : Nat) (x1 : Int32) (x2 : Int32) (x3 : Int32) (x4 : Int32) (x5 : Int32) (x6 : Int32) (hx0 : Is x0 12) {K : (Hp × Int32 × Int32 × Int32) ⊕ (Hp × Int32) → Prop} (hC : ∀ (h : Hp) (x4 : Int32) (x5 : Int32) (x6 : Int32), K (.inl (h, x4, x5, x6)) → EW Γ mX12_collate 48 [(0, rf Γ x0), (1, .int x1), (2, .int x2), (3, .int x3), (4, .int x4), (5, .int x5), (6, .int x6)] [] h) (hE176 : ∀ (h : Hp) (x4 : Int32), K (.inr ((h, x4))) → EW Γ mX12_collate 176 [(0, rf Γ x0), (1, .int x1), (2, .int x2), (3, .int x3), (4, .int x4)] [] h) : EG Γ mX12_collate 105 [(0, rf Γ x0), (1, .int x1), (2, .int x2), (3, .int x3), (4, .int x4), (5, .int x5), (6, .int x6)] [] h (J_X12_collate_105 h x0 x1 x2 x3 x4 x5 x6) K := by
  unfold J_X12_collate_105
  refine x_iconst hO (v := 0) (by decide) dX12_collate_105 ?_
  exact x_sub [0, 1, 2, 3, 4, 5, 6] rfl (go_X12_collate_J106 hO h x0 x1 x2 x3 x4 x5 x6 ((0 : Int32)) hx0 hC hE176)
noncomputable def J_X12_collate_60 (h : Hp) (x0 : Nat) (x1 : Int32) (x2 : Int32) (x3 : Int32) (x4 : Int32) (x5 : Int32) (x6 : Int32) : Option ((Hp × Int32 × Int32 × Int32) ⊕ (Hp × Int32)) :=
  if x6 = x3 then J_X12_collate_101 h x0 x1 x2 x3 x4 x5 x6 else if x3 ≤ x5 then J_X12_collate_105 h x0 x1 x2 x3 x4 x5 x6 else gd (ib x5 (LEN (GR x0 25))) ((F_X12_numberOf h x0 (hI h (GR x0 25) (nx x5)) x1 x2).bind (fun r1 => gd (ib x6 (LEN (GR x0 25))) ((F_X12_numberOf h x0 (hI h (GR x0 25) (nx x6)) x1 x2).bind (fun r2 => if r2 < r1 then J_X12_collate_105 h x0 x1 x2 x3 x4 x5 x6 else J_X12_collate_101 h x0 x1 x2 x3 x4 x5 x6))))
set_option maxHeartbeats 4000000 in
set_option maxRecDepth 100000 in
theorem go_X12_collate_J60 {Γ : Cx} (hO : Ok Γ mX12_collate) (h : Hp) (x0 : Nat) (x1 : Int32) (x2 : Int32) (x3 : Int32) (x4 : Int32) (x5 : Int32) (x6 : Int32) (hx0 : Is x0 12) {K : (Hp × Int32 × Int32 × Int32) ⊕ (Hp × Int32) → Prop} (hC : ∀ (h : Hp) (x4 : Int32) (x5 : Int32) (x6 : Int32), K (.inl (h, x4, x5, x6)) → EW Γ mX12_collate 48 [(0, rf Γ x0), (1, .int x1), (2, .int x2), (3, .int x3), (4, .int x4), (5, .int x5), (6, .int x6)] [] h) (hE176 : ∀ (h : Hp) (x4 : Int32), K (.inr ((h, x4))) → EW Γ mX12_collate 176 [(0, rf Γ x0), (1, .int x1), (2, .int x2), (3, .int x3), (4, .int x4)] [] h) : EG Γ mX12_collate 60 [(0, rf Γ x0), (1, .int x1), (2, .int x2), (3, .int x3), (4, .int x4), (5, .int x5), (6, .int x6)] [] h (J_X12_collate_60 h x0 x1 x2 x3 x4 x5 x6) K := by
  unfold J_X12_collate_60
  refine x_iload hO 6 rfl dX12_collate_60 ?_
  refine x_iload_n hO 3 rfl rfl dX12_collate_62 ?_
  refine x_icmp_eq hO (tg := 101) dX12_collate_63 (by decide) ?_ ?_
  · exact x_sub [0, 1, 2, 3, 4, 5, 6] rfl (go_X12_collate_J101 hO h x0 x1 x2 x3 x4 x5 x6 hx0 hC hE176)
  · refine x_iload hO 5 rfl dX12_collate_66 ?_
    refine x_iload_n hO 3 rfl rfl dX12_collate_68 ?_
    refine x_icmp_ge hO (tg := 105) dX12_collate_69 (by decide) ?_ ?_
    · exact x_sub [0, 1, 2, 3, 4, 5, 6] rfl (go_X12_collate_J105 hO h x0 x1 x2 x3 x4 x5 x6 hx0 hC hE176)
    · refine x_aload_n hO 0 rfl rfl dX12_collate_72 ?_
      refine x_aload_n hO 0 rfl rfl dX12_collate_73 ?_
      refine x_getR hO fl_RX12_56 hx0 dX12_collate_74 ?_
      refine x_iload hO 5 rfl dX12_collate_77 ?_
      refine x_iald hO (gr_12_25 hx0) dX12_collate_79 ?_
      refine x_iload_n hO 1 rfl rfl dX12_collate_80 ?_
      refine x_iload_n hO 2 rfl rfl dX12_collate_81 ?_
      refine y_PI (x_callV hO lv_RX12_321 hx0 vc_12 (by decide) (As := [.int (hI h (GR x0 25) (nx x5)), .int x1, .int x2]) rfl (Nat.le_of_ble_eq_true rfl) (ok_X12_numberOf (cG Γ) h x0 (hI h (GR x0 25) (nx x5)) x1 x2 hx0) dX12_collate_82 rfl (Nat.le_of_ble_eq_true rfl)) (fun r1 => ?_)
      refine x_aload_n hO 0 rfl rfl dX12_collate_85 ?_
      refine x_aload_n hO 0 rfl rfl dX12_collate_86 ?_
      refine x_getR hO fl_RX12_56 hx0 dX12_collate_87 ?_
      refine x_iload hO 6 rfl dX12_collate_90 ?_
      refine x_iald hO (gr_12_25 hx0) dX12_collate_92 ?_
      refine x_iload_n hO 1 rfl rfl dX12_collate_93 ?_
      refine x_iload_n hO 2 rfl rfl dX12_collate_94 ?_
      refine y_PI (x_callV hO lv_RX12_321 hx0 vc_12 (by decide) (As := [.int (hI h (GR x0 25) (nx x6)), .int x1, .int x2]) rfl (Nat.le_of_ble_eq_true rfl) (ok_X12_numberOf (cG Γ) h x0 (hI h (GR x0 25) (nx x6)) x1 x2 hx0) dX12_collate_95 rfl (Nat.le_of_ble_eq_true rfl)) (fun r2 => ?_)
      refine x_icmp_gt hO (tg := 105) dX12_collate_98 (by decide) ?_ ?_
      · exact x_sub [0, 1, 2, 3, 4, 5, 6] rfl (go_X12_collate_J105 hO h x0 x1 x2 x3 x4 x5 x6 hx0 hC hE176)
      · exact x_sub [0, 1, 2, 3, 4, 5, 6] rfl (go_X12_collate_J101 hO h x0 x1 x2 x3 x4 x5 x6 hx0 hC hE176)
noncomputable def B_X12_collate_48 (h : Hp) (x0 : Nat) (x1 : Int32) (x2 : Int32) (x3 : Int32) (x4 : Int32) (x5 : Int32) (x6 : Int32) : Option ((Hp × Int32 × Int32 × Int32) ⊕ (Hp × Int32)) :=
  if x5 < x3 then J_X12_collate_60 h x0 x1 x2 x3 x4 x5 x6 else if x3 ≤ x6 then some (.inr ((h, x4))) else J_X12_collate_60 h x0 x1 x2 x3 x4 x5 x6
noncomputable def L_X12_collate_48 (h : Hp) (x0 : Nat) (x1 : Int32) (x2 : Int32) (x3 : Int32) (x4 : Int32) (x5 : Int32) (x6 : Int32) : Option (Hp × Int32) := iterW (fun s : Hp × Int32 × Int32 × Int32 => B_X12_collate_48 s.1 x0 x1 x2 x3 s.2.1 s.2.2.1 s.2.2.2) (h, x4, x5, x6)
set_option maxHeartbeats 4000000 in
set_option maxRecDepth 100000 in
theorem go_X12_collate_B48 {Γ : Cx} (hO : Ok Γ mX12_collate) (h : Hp) (x0 : Nat) (x1 : Int32) (x2 : Int32) (x3 : Int32) (x4 : Int32) (x5 : Int32) (x6 : Int32) (hx0 : Is x0 12) {K : (Hp × Int32 × Int32 × Int32) ⊕ (Hp × Int32) → Prop} (hC : ∀ (h : Hp) (x4 : Int32) (x5 : Int32) (x6 : Int32), K (.inl (h, x4, x5, x6)) → EW Γ mX12_collate 48 [(0, rf Γ x0), (1, .int x1), (2, .int x2), (3, .int x3), (4, .int x4), (5, .int x5), (6, .int x6)] [] h) (hE176 : ∀ (h : Hp) (x4 : Int32), K (.inr ((h, x4))) → EW Γ mX12_collate 176 [(0, rf Γ x0), (1, .int x1), (2, .int x2), (3, .int x3), (4, .int x4)] [] h) : EG Γ mX12_collate 48 [(0, rf Γ x0), (1, .int x1), (2, .int x2), (3, .int x3), (4, .int x4), (5, .int x5), (6, .int x6)] [] h (B_X12_collate_48 h x0 x1 x2 x3 x4 x5 x6) K := by
  unfold B_X12_collate_48
  refine x_iload hO 5 rfl dX12_collate_48 ?_
  refine x_iload_n hO 3 rfl rfl dX12_collate_50 ?_
  refine x_icmp_lt hO (tg := 60) dX12_collate_51 (by decide) ?_ ?_
  · exact x_sub [0, 1, 2, 3, 4, 5, 6] rfl (go_X12_collate_J60 hO h x0 x1 x2 x3 x4 x5 x6 hx0 hC hE176)
  · refine x_iload hO 6 rfl dX12_collate_54 ?_
    refine x_iload_n hO 3 rfl rfl dX12_collate_56 ?_
    refine x_icmp_ge hO (tg := 176) dX12_collate_57 (by decide) ?_ ?_
    · exact x_leafs [0, 1, 2, 3, 4] rfl (hE176 h x4)
    · exact x_sub [0, 1, 2, 3, 4, 5, 6] rfl (go_X12_collate_J60 hO h x0 x1 x2 x3 x4 x5 x6 hx0 hC hE176)
set_option maxHeartbeats 4000000 in
set_option maxRecDepth 100000 in
theorem go_X12_collate_L48 {Γ : Cx} (hO : Ok Γ mX12_collate) (h : Hp) (x0 : Nat) (x1 : Int32) (x2 : Int32) (x3 : Int32) (x4 : Int32) (x5 : Int32) (x6 : Int32) (hx0 : Is x0 12) {K : Hp × Int32 → Prop} (hE176 : ∀ (h : Hp) (x4 : Int32), K ((h, x4)) → EW Γ mX12_collate 176 [(0, rf Γ x0), (1, .int x1), (2, .int x2), (3, .int x3), (4, .int x4)] [] h) : EG Γ mX12_collate 48 [(0, rf Γ x0), (1, .int x1), (2, .int x2), (3, .int x3), (4, .int x4), (5, .int x5), (6, .int x6)] [] h (L_X12_collate_48 h x0 x1 x2 x3 x4 x5 x6) K := by
  have q := x_loop (Γ := Γ) (M := mX12_collate) (pc := 48) (B := fun s : Hp × Int32 × Int32 × Int32 => B_X12_collate_48 s.1 x0 x1 x2 x3 s.2.1 s.2.2.1 s.2.2.2) (lvf := fun s => [(0, rf Γ x0), (1, .int x1), (2, .int x2), (3, .int x3), (4, .int s.2.1), (5, .int s.2.2.1), (6, .int s.2.2.2)]) (hf := fun s => s.1) (Ky := K) (fun s => go_X12_collate_B48 hO s.1 x0 x1 x2 x3 s.2.1 s.2.2.1 s.2.2.2 hx0 (fun _ _ _ _ => id) hE176) (h, x4, x5, x6)
  exact q
noncomputable def J_X12_collate_228 (h : Hp) (x0 : Nat) (x1 : Int32) (x2 : Int32) (x3 : Int32) (x4 : Int32) (x7 : Int32) (x8 : Int32) : Option ((Hp × Int32 × Int32) ⊕ (Hp × Int32)) :=
  gd (ib x8 (LEN (GR x0 25))) (gd (ib (((338 : Int32)) + x4) (LEN (GR x0 0))) (some (.inl (uI h (GR x0 0) (nx (((338 : Int32)) + x4)) (hI h (GR x0 25) (nx x8)), x4 + (1 : Int32), x8 + (1 : Int32)))))
set_option maxHeartbeats 4000000 in
set_option maxRecDepth 100000 in
theorem go_X12_collate_J228 {Γ : Cx} (hO : Ok Γ mX12_collate) (h : Hp) (x0 : Nat) (x1 : Int32) (x2 : Int32) (x3 : Int32) (x4 : Int32) (x7 : Int32) (x8 : Int32) (hx0 : Is x0 12) {K : (Hp × Int32 × Int32) ⊕ (Hp × Int32) → Prop} (hC : ∀ (h : Hp) (x4 : Int32) (x8 : Int32), K (.inl (h, x4, x8)) → EW Γ mX12_collate 185 [(0, rf Γ x0), (1, .int x1), (2, .int x2), (3, .int x3), (4, .int x4), (7, .int x7), (8, .int x8)] [] h) (hR : ∀ r, K (.inr r) → emHI r = tgt Γ) : EG Γ mX12_collate 228 [(0, rf Γ x0), (1, .int x1), (2, .int x2), (3, .int x3), (4, .int x4), (7, .int x7), (8, .int x8)] [] h (J_X12_collate_228 h x0 x1 x2 x3 x4 x7 x8) K := by
  unfold J_X12_collate_228
  refine x_aload_n hO 0 rfl rfl dX12_collate_228 ?_
  refine x_getR hO fl_RX12_7 hx0 dX12_collate_229 ?_
  refine x_sipush hO (v := 338) (by decide) dX12_collate_232 ?_
  refine x_iload hO 4 rfl dX12_collate_235 ?_
  refine x_iadd hO dX12_collate_237 ?_
  refine x_aload_n hO 0 rfl rfl dX12_collate_238 ?_
  refine x_getR hO fl_RX12_56 hx0 dX12_collate_239 ?_
  refine x_iload hO 6 rfl dX12_collate_242 ?_
  refine x_iald hO (gr_12_25 hx0) dX12_collate_244 ?_
  refine x_iast hO (gr_12_0 hx0) dX12_collate_245 ?_
  refine x_iinc hO 4 (v := 1) [(4, .int (x4 + (1 : Int32))), (0, rf Γ x0), (1, .int x1), (2, .int x2), (3, .int x3), (7, .int x7), (8, .int x8)] dX12_collate_246 rfl (by decide) (by decide) rfl ?_
  refine x_iinc hO 6 (v := 1) [(8, .int (x8 + (1 : Int32))), (4, .int (x4 + (1 : Int32))), (0, rf Γ x0), (1, .int x1), (2, .int x2), (3, .int x3), (7, .int x7)] dX12_collate_249 rfl (by decide) (by decide) rfl ?_
  refine x_goto hO (tg := 185) dX12_collate_252 (by decide) ?_
  exact x_leafs [2, 3, 4, 5, 1, 6, 0] rfl (hC (uI h (GR x0 0) (nx (((338 : Int32)) + x4)) (hI h (GR x0 25) (nx x8))) (x4 + (1 : Int32)) (x8 + (1 : Int32)))
noncomputable def B_X12_collate_185 (h : Hp) (x0 : Nat) (x1 : Int32) (x2 : Int32) (x3 : Int32) (x7 : Int32) (x4 : Int32) (x8 : Int32) : Option ((Hp × Int32 × Int32) ⊕ (Hp × Int32)) :=
  if x3 ≤ x8 then (F_X12_gives h x0 x7).bind (fun r1 => some (.inr ((r1.1, r1.2)))) else gd (ib x8 (LEN (GR x0 25))) ((F_X12_ofCard h x0 (hI h (GR x0 25) (nx x8)) ((9 : Int32))).bind (fun r2 => if r2 = ((-1 : Int32)) then J_X12_collate_228 h x0 x1 x2 x3 x4 x7 x8 else gd (ib x8 (LEN (GR x0 25))) ((F_X12_numberOf h x0 (hI h (GR x0 25) (nx x8)) x1 x2).bind (fun r3 => if r3 = ((-1 : Int32)) then J_X12_collate_228 h x0 x1 x2 x3 x4 x7 x8 else some (.inl (h, x4, x8 + (1 : Int32)))))))
noncomputable def L_X12_collate_185 (h : Hp) (x0 : Nat) (x1 : Int32) (x2 : Int32) (x3 : Int32) (x7 : Int32) (x4 : Int32) (x8 : Int32) : Option (Hp × Int32) := iterW (fun s : Hp × Int32 × Int32 => B_X12_collate_185 s.1 x0 x1 x2 x3 x7 s.2.1 s.2.2) (h, x4, x8)
set_option maxHeartbeats 4000000 in
set_option maxRecDepth 100000 in
theorem go_X12_collate_B185 {Γ : Cx} (hO : Ok Γ mX12_collate) (h : Hp) (x0 : Nat) (x1 : Int32) (x2 : Int32) (x3 : Int32) (x7 : Int32) (x4 : Int32) (x8 : Int32) (hx0 : Is x0 12) {K : (Hp × Int32 × Int32) ⊕ (Hp × Int32) → Prop} (hC : ∀ (h : Hp) (x4 : Int32) (x8 : Int32), K (.inl (h, x4, x8)) → EW Γ mX12_collate 185 [(0, rf Γ x0), (1, .int x1), (2, .int x2), (3, .int x3), (4, .int x4), (7, .int x7), (8, .int x8)] [] h) (hR : ∀ r, K (.inr r) → emHI r = tgt Γ) : EG Γ mX12_collate 185 [(0, rf Γ x0), (1, .int x1), (2, .int x2), (3, .int x3), (4, .int x4), (7, .int x7), (8, .int x8)] [] h (B_X12_collate_185 h x0 x1 x2 x3 x7 x4 x8) K := by
  unfold B_X12_collate_185
  refine x_iload hO 6 rfl dX12_collate_185 ?_
  refine x_iload_n hO 3 rfl rfl dX12_collate_187 ?_
  refine x_icmp_ge hO (tg := 255) dX12_collate_188 (by decide) ?_ ?_
  · refine x_aload_n hO 0 rfl rfl dX12_collate_255 ?_
    refine x_iload hO 5 rfl dX12_collate_256 ?_
    refine y_HI (x_callV hO lv_RX12_146 hx0 vc_12 (by decide) (As := [.int x7]) rfl (Nat.le_of_ble_eq_true rfl) (ok_X12_gives (cG Γ) h x0 x7 hx0) dX12_collate_258 rfl (Nat.le_of_ble_eq_true rfl)) (fun r1 => ?_)
    exact x_iret hO rfl dX12_collate_261 (hR _)
  · refine x_aload_n hO 0 rfl rfl dX12_collate_191 ?_
    refine x_aload_n hO 0 rfl rfl dX12_collate_192 ?_
    refine x_getR hO fl_RX12_56 hx0 dX12_collate_193 ?_
    refine x_iload hO 6 rfl dX12_collate_196 ?_
    refine x_iald hO (gr_12_25 hx0) dX12_collate_198 ?_
    refine x_bipush hO (v := 9) (by decide) dX12_collate_199 ?_
    refine y_PI (x_callV hO lv_RX12_130 hx0 vc_12 (by decide) (As := [.int (hI h (GR x0 25) (nx x8)), .int ((9 : Int32))]) rfl (Nat.le_of_ble_eq_true rfl) (ok_X12_ofCard (cG Γ) h x0 (hI h (GR x0 25) (nx x8)) ((9 : Int32)) hx0) dX12_collate_201 rfl (Nat.le_of_ble_eq_true rfl)) (fun r2 => ?_)
    refine x_iconst hO (v := -1) (by decide) dX12_collate_204 ?_
    refine x_icmp_eq hO (tg := 228) dX12_collate_205 (by decide) ?_ ?_
    · exact x_sub [0, 1, 2, 3, 4, 5, 6] rfl (go_X12_collate_J228 hO h x0 x1 x2 x3 x4 x7 x8 hx0 hC hR)
    · refine x_aload_n hO 0 rfl rfl dX12_collate_208 ?_
      refine x_aload_n hO 0 rfl rfl dX12_collate_209 ?_
      refine x_getR hO fl_RX12_56 hx0 dX12_collate_210 ?_
      refine x_iload hO 6 rfl dX12_collate_213 ?_
      refine x_iald hO (gr_12_25 hx0) dX12_collate_215 ?_
      refine x_iload_n hO 1 rfl rfl dX12_collate_216 ?_
      refine x_iload_n hO 2 rfl rfl dX12_collate_217 ?_
      refine y_PI (x_callV hO lv_RX12_321 hx0 vc_12 (by decide) (As := [.int (hI h (GR x0 25) (nx x8)), .int x1, .int x2]) rfl (Nat.le_of_ble_eq_true rfl) (ok_X12_numberOf (cG Γ) h x0 (hI h (GR x0 25) (nx x8)) x1 x2 hx0) dX12_collate_218 rfl (Nat.le_of_ble_eq_true rfl)) (fun r3 => ?_)
      refine x_iconst hO (v := -1) (by decide) dX12_collate_221 ?_
      refine x_icmp_eq hO (tg := 228) dX12_collate_222 (by decide) ?_ ?_
      · exact x_sub [0, 1, 2, 3, 4, 5, 6] rfl (go_X12_collate_J228 hO h x0 x1 x2 x3 x4 x7 x8 hx0 hC hR)
      · refine x_goto hO (tg := 249) dX12_collate_225 (by decide) ?_
        refine x_iinc hO 6 (v := 1) [(8, .int (x8 + (1 : Int32))), (0, rf Γ x0), (1, .int x1), (2, .int x2), (3, .int x3), (4, .int x4), (7, .int x7)] dX12_collate_249 rfl (by decide) (by decide) rfl ?_
        refine x_goto hO (tg := 185) dX12_collate_252 (by decide) ?_
        exact x_leafs [1, 2, 3, 4, 5, 6, 0] rfl (hC h x4 (x8 + (1 : Int32)))
set_option maxHeartbeats 4000000 in
set_option maxRecDepth 100000 in
theorem go_X12_collate_L185 {Γ : Cx} (hO : Ok Γ mX12_collate) (h : Hp) (x0 : Nat) (x1 : Int32) (x2 : Int32) (x3 : Int32) (x7 : Int32) (x4 : Int32) (x8 : Int32) (hx0 : Is x0 12) {K : Hp × Int32 → Prop} (hR : ∀ r, K (r) → emHI r = tgt Γ) : EG Γ mX12_collate 185 [(0, rf Γ x0), (1, .int x1), (2, .int x2), (3, .int x3), (4, .int x4), (7, .int x7), (8, .int x8)] [] h (L_X12_collate_185 h x0 x1 x2 x3 x7 x4 x8) K := by
  have q := x_loop (Γ := Γ) (M := mX12_collate) (pc := 185) (B := fun s : Hp × Int32 × Int32 => B_X12_collate_185 s.1 x0 x1 x2 x3 x7 s.2.1 s.2.2) (lvf := fun s => [(0, rf Γ x0), (1, .int x1), (2, .int x2), (3, .int x3), (4, .int s.2.1), (7, .int x7), (8, .int s.2.2)]) (hf := fun s => s.1) (Ky := K) (fun s => go_X12_collate_B185 hO s.1 x0 x1 x2 x3 x7 s.2.1 s.2.2 hx0 (fun _ _ _ => id) hR) (h, x4, x8)
  exact q
noncomputable def F_X12_collate (h : Hp) (x0 : Nat) (x1 : Int32) (x2 : Int32) : Option (Hp × Int32) :=
  (F_X12_isField h x1 x2).bind (fun r1 => if r1 = 0 then (F_X12_refuse h x0 ((1 : Int32))).bind (fun r6 => some ((r6.1, r6.2))) else (F_X12_takes h x0).bind (fun r2 => gd (ib ((0 : Int32)) (LEN (GR x0 0))) ((F_X12_nextOf r2 x0 ((0 : Int32)) ((0 : Int32)) x1 x2).bind (fun r3 => (F_X12_nextOf r2 x0 ((0 : Int32)) ((1 : Int32)) x1 x2).bind (fun r4 => (L_X12_collate_48 r2 x0 x1 x2 (hI r2 (GR x0 0) (nx ((0 : Int32)))) ((0 : Int32)) r3 r4).bind (fun e5 => L_X12_collate_185 e5.1 x0 x1 x2 (hI r2 (GR x0 0) (nx ((0 : Int32)))) ((hI r2 (GR x0 0) (nx ((0 : Int32)))) - e5.2) e5.2 ((0 : Int32))))))))
set_option maxHeartbeats 4000000 in
set_option maxRecDepth 100000 in
theorem go_X12_collate {Γ : Cx} (hO : Ok Γ mX12_collate) (h : Hp) (x0 : Nat) (x1 : Int32) (x2 : Int32) (hx0 : Is x0 12) {K : Hp × Int32 → Prop} (hR : ∀ r, K r → emHI r = tgt Γ) : EG Γ mX12_collate 0 [(0, rf Γ x0), (1, .int x1), (2, .int x2)] [] h (F_X12_collate h x0 x1 x2) K := by
  unfold F_X12_collate
  refine x_iload_n hO 1 rfl rfl dX12_collate_0 ?_
  refine x_iload_n hO 2 rfl rfl dX12_collate_1 ?_
  refine y_PI (x_callS hO lt_RX12_317 (As := [.int x1, .int x2]) rfl (Nat.le_of_ble_eq_true rfl) (ok_X12_isField (cG Γ) h x1 x2) dX12_collate_2 rfl (Nat.le_of_ble_eq_true rfl)) (fun r1 => ?_)
  refine x_if_ne hO (tg := 14) dX12_collate_5 (by decide) ?_ ?_
  · refine x_aload_n hO 0 rfl rfl dX12_collate_14 ?_
    refine y_HV (x_callV hO lv_RX12_283 hx0 vc_12 (by decide) (As := []) rfl (Nat.le_of_ble_eq_true rfl) (ok_X12_takes (cG Γ) h x0 hx0) dX12_collate_15 rfl (Nat.le_of_ble_eq_true rfl)) (fun r2 => ?_)
    refine x_aload_n hO 0 rfl rfl dX12_collate_18 ?_
    refine x_getR hO fl_RX12_7 hx0 dX12_collate_19 ?_
    refine x_iconst hO (v := 0) (by decide) dX12_collate_22 ?_
    refine x_iald hO (gr_12_0 hx0) dX12_collate_23 ?_
    refine x_istore_n hO rfl [(3, .int (hI r2 (GR x0 0) (nx ((0 : Int32))))), (0, rf Γ x0), (1, .int x1), (2, .int x2)] dX12_collate_24 (by decide) rfl ?_
    refine x_iconst hO (v := 0) (by decide) dX12_collate_25 ?_
    refine x_istore hO [(4, .int ((0 : Int32))), (3, .int (hI r2 (GR x0 0) (nx ((0 : Int32))))), (0, rf Γ x0), (1, .int x1), (2, .int x2)] dX12_collate_26 (by decide) rfl ?_
    refine x_aload_n hO 2 rfl rfl dX12_collate_28 ?_
    refine x_iconst hO (v := 0) (by decide) dX12_collate_29 ?_
    refine x_iconst hO (v := 0) (by decide) dX12_collate_30 ?_
    refine x_iload_n hO 3 rfl rfl dX12_collate_31 ?_
    refine x_iload_n hO 4 rfl rfl dX12_collate_32 ?_
    refine y_PI (x_callV hO lv_RX12_336 hx0 vc_12 (by decide) (As := [.int ((0 : Int32)), .int ((0 : Int32)), .int x1, .int x2]) rfl (Nat.le_of_ble_eq_true rfl) (ok_X12_nextOf (cG Γ) r2 x0 ((0 : Int32)) ((0 : Int32)) x1 x2 hx0) dX12_collate_33 rfl (Nat.le_of_ble_eq_true rfl)) (fun r3 => ?_)
    refine x_istore hO [(5, .int r3), (4, .int ((0 : Int32))), (3, .int (hI r2 (GR x0 0) (nx ((0 : Int32))))), (0, rf Γ x0), (1, .int x1), (2, .int x2)] dX12_collate_36 (by decide) rfl ?_
    refine x_aload_n hO 3 rfl rfl dX12_collate_38 ?_
    refine x_iconst hO (v := 0) (by decide) dX12_collate_39 ?_
    refine x_iconst hO (v := 1) (by decide) dX12_collate_40 ?_
    refine x_iload_n hO 4 rfl rfl dX12_collate_41 ?_
    refine x_iload_n hO 5 rfl rfl dX12_collate_42 ?_
    refine y_PI (x_callV hO lv_RX12_336 hx0 vc_12 (by decide) (As := [.int ((0 : Int32)), .int ((1 : Int32)), .int x1, .int x2]) rfl (Nat.le_of_ble_eq_true rfl) (ok_X12_nextOf (cG Γ) r2 x0 ((0 : Int32)) ((1 : Int32)) x1 x2 hx0) dX12_collate_43 rfl (Nat.le_of_ble_eq_true rfl)) (fun r4 => ?_)
    refine x_istore hO [(6, .int r4), (5, .int r3), (4, .int ((0 : Int32))), (3, .int (hI r2 (GR x0 0) (nx ((0 : Int32))))), (0, rf Γ x0), (1, .int x1), (2, .int x2)] dX12_collate_46 (by decide) rfl ?_
    refine x_bind (x_sub [4, 5, 6, 3, 2, 1, 0] rfl (go_X12_collate_L48 hO r2 x0 x1 x2 (hI r2 (GR x0 0) (nx ((0 : Int32)))) ((0 : Int32)) r3 r4 hx0 (fun y5_0 y5_1 hx => ?_)))
    refine x_run (t := (L_X12_collate_185 y5_0 x0 x1 x2 (hI r2 (GR x0 0) (nx ((0 : Int32)))) ((hI r2 (GR x0 0) (nx ((0 : Int32)))) - y5_1) y5_1 ((0 : Int32)) : Option (Hp × Int32))) hx ?_
    refine x_iload_n hO 3 rfl rfl dX12_collate_176 ?_
    refine x_iload hO 4 rfl dX12_collate_177 ?_
    refine x_isub hO dX12_collate_179 ?_
    refine x_istore hO [(7, .int ((hI r2 (GR x0 0) (nx ((0 : Int32)))) - y5_1)), (0, rf Γ x0), (1, .int x1), (2, .int x2), (3, .int (hI r2 (GR x0 0) (nx ((0 : Int32))))), (4, .int y5_1)] dX12_collate_180 (by decide) rfl ?_
    refine x_iconst hO (v := 0) (by decide) dX12_collate_182 ?_
    refine x_istore hO [(8, .int ((0 : Int32))), (7, .int ((hI r2 (GR x0 0) (nx ((0 : Int32)))) - y5_1)), (0, rf Γ x0), (1, .int x1), (2, .int x2), (3, .int (hI r2 (GR x0 0) (nx ((0 : Int32))))), (4, .int y5_1)] dX12_collate_183 (by decide) rfl ?_
    exact x_sub [2, 3, 4, 5, 6, 1, 0] rfl (go_X12_collate_L185 hO y5_0 x0 x1 x2 (hI r2 (GR x0 0) (nx ((0 : Int32)))) ((hI r2 (GR x0 0) (nx ((0 : Int32)))) - y5_1) y5_1 ((0 : Int32)) hx0 hR)
  · refine x_aload_n hO 0 rfl rfl dX12_collate_8 ?_
    refine x_iconst hO (v := 1) (by decide) dX12_collate_9 ?_
    refine y_HI (x_callV hO lv_RX12_137 hx0 vc_12 (by decide) (As := [.int ((1 : Int32))]) rfl (Nat.le_of_ble_eq_true rfl) (ok_X12_refuse (cG Γ) h x0 ((1 : Int32)) hx0) dX12_collate_10 rfl (Nat.le_of_ble_eq_true rfl)) (fun r6 => ?_)
    exact x_iret hO rfl dX12_collate_13 (hR _)
theorem ok_X12_collate (G : Gl) (h : Hp) (x0 : Nat) (x1 : Int32) (x2 : Int32) (hx0 : Is x0 12) : CN G mX12_collate [.ref (gb G + x0), .int x1, .int x2] h ((F_X12_collate h x0 x1 x2).map (emHI)) := CN.fn pn_RX12 (Nat.le_of_ble_eq_true rfl) (fun Γ hG hO => by subst hG; exact go_X12_collate hO h x0 x1 x2 hx0 (fun _ q => q))
