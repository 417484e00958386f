noncomputable def F_X11_feed (h : Hp) (x0 : Nat) (x1 : Int32) (x2 : Int32) (x3 : Int32) (x4 : Int32) (x5 : Int32) : Option (Hp × Int32) :=
  if ((hI h x0 13) + ((20 : Int32))) ≤ ((500 : Int32)) then (F_X11_feedInt h x0 x1).bind (fun r1 => (F_X11_feedInt r1 x0 x2).bind (fun r2 => (F_X11_feedInt r2 x0 x3).bind (fun r3 => (F_X11_feedInt r3 x0 x4).bind (fun r4 => (F_X11_feedInt r4 x0 x5).bind (fun r5 => some ((r5, hI r5 x0 13))))))) else some ((h, (-1 : Int32)))
set_option maxHeartbeats 4000000 in
set_option maxRecDepth 100000 in
theorem go_X11_feed {Γ : Cx} (hO : Ok Γ mX11_feed) (h : Hp) (x0 : Nat) (x1 : Int32) (x2 : Int32) (x3 : Int32) (x4 : Int32) (x5 : Int32) (hx0 : Is x0 11) {K : Hp × Int32 → Prop} (hR : ∀ r, K r → emHI r = tgt Γ) : EG Γ mX11_feed 0 [(0, rf Γ x0), (1, .int x1), (2, .int x2), (3, .int x3), (4, .int x4), (5, .int x5)] [] h (F_X11_feed h x0 x1 x2 x3 x4 x5) K := by
  unfold F_X11_feed
  refine x_aload_n hO 0 rfl rfl dX11_feed_0 ?_
  refine x_getI hO fl_RX11_83 hx0 dX11_feed_1 ?_
  refine x_bipush hO (v := 20) (by decide) dX11_feed_4 ?_
  refine x_iadd hO dX11_feed_6 ?_
  refine x_sipush hO (v := 500) (by decide) dX11_feed_7 ?_
  refine x_icmp_le hO (tg := 15) dX11_feed_10 (by decide) ?_ ?_
  · refine x_aload_n hO 0 rfl rfl dX11_feed_15 ?_
    refine x_iload_n hO 1 rfl rfl dX11_feed_16 ?_
    refine y_HV (x_callV hO lv_RX11_191 hx0 vc_11 (by decide) (As := [.int x1]) rfl (Nat.le_of_ble_eq_true rfl) (ok_X11_feedInt (cG Γ) h x0 x1 hx0) dX11_feed_17 rfl (Nat.le_of_ble_eq_true rfl)) (fun r1 => ?_)
    refine x_aload_n hO 0 rfl rfl dX11_feed_20 ?_
    refine x_iload_n hO 2 rfl rfl dX11_feed_21 ?_
    refine y_HV (x_callV hO lv_RX11_191 hx0 vc_11 (by decide) (As := [.int x2]) rfl (Nat.le_of_ble_eq_true rfl) (ok_X11_feedInt (cG Γ) r1 x0 x2 hx0) dX11_feed_22 rfl (Nat.le_of_ble_eq_true rfl)) (fun r2 => ?_)
    refine x_aload_n hO 0 rfl rfl dX11_feed_25 ?_
    refine x_iload_n hO 3 rfl rfl dX11_feed_26 ?_
    refine y_HV (x_callV hO lv_RX11_191 hx0 vc_11 (by decide) (As := [.int x3]) rfl (Nat.le_of_ble_eq_true rfl) (ok_X11_feedInt (cG Γ) r2 x0 x3 hx0) dX11_feed_27 rfl (Nat.le_of_ble_eq_true rfl)) (fun r3 => ?_)
    refine x_aload_n hO 0 rfl rfl dX11_feed_30 ?_
    refine x_iload hO 4 rfl dX11_feed_31 ?_
    refine y_HV (x_callV hO lv_RX11_191 hx0 vc_11 (by decide) (As := [.int x4]) rfl (Nat.le_of_ble_eq_true rfl) (ok_X11_feedInt (cG Γ) r3 x0 x4 hx0) dX11_feed_33 rfl (Nat.le_of_ble_eq_true rfl)) (fun r4 => ?_)
    refine x_aload_n hO 0 rfl rfl dX11_feed_36 ?_
    refine x_iload hO 5 rfl dX11_feed_37 ?_
    refine y_HV (x_callV hO lv_RX11_191 hx0 vc_11 (by decide) (As := [.int x5]) rfl (Nat.le_of_ble_eq_true rfl) (ok_X11_feedInt (cG Γ) r4 x0 x5 hx0) dX11_feed_39 rfl (Nat.le_of_ble_eq_true rfl)) (fun r5 => ?_)
    refine x_aload_n hO 0 rfl rfl dX11_feed_42 ?_
    refine x_getI hO fl_RX11_83 hx0 dX11_feed_43 ?_
    exact x_iret hO rfl dX11_feed_46 (hR _)
  · refine x_iconst hO (v := -1) (by decide) dX11_feed_13 ?_
    exact x_iret hO rfl dX11_feed_14 (hR _)
theorem ok_X11_feed (G : Gl) (h : Hp) (x0 : Nat) (x1 : Int32) (x2 : Int32) (x3 : Int32) (x4 : Int32) (x5 : Int32) (hx0 : Is x0 11) : CN G mX11_feed [.ref (gb G + x0), .int x1, .int x2, .int x3, .int x4, .int x5] h ((F_X11_feed h x0 x1 x2 x3 x4 x5).map (emHI)) := CN.fn pn_RX11 (Nat.le_of_ble_eq_true rfl) (fun Γ hG hO => by subst hG; exact go_X11_feed hO h x0 x1 x2 x3 x4 x5 hx0 (fun _ q => q))
noncomputable def F_X11_isField (h : Hp) (x0 : Int32) (x1 : Int32) : Option (Int32) :=
  (F_X11_isColumn h x0).bind (fun r1 => if r1 = 0 then some ((0 : Int32)) else (F_X11_isColumn h x1).bind (fun r2 => if r2 = 0 then some ((0 : Int32)) else if x1 < x0 then some ((0 : Int32)) else if ((6 : Int32)) ≤ (x1 - x0) then some ((0 : Int32)) else some ((1 : Int32))))
set_option maxHeartbeats 4000000 in
set_option maxRecDepth 100000 in
theorem go_X11_isField {Γ : Cx} (hO : Ok Γ mX11_isField) (h : Hp) (x0 : Int32) (x1 : Int32) {K : Int32 → Prop} (hR : ∀ r, K r → emPI h r = tgt Γ) : EG Γ mX11_isField 0 [(0, .int x0), (1, .int x1)] [] h (F_X11_isField h x0 x1) K := by
  unfold F_X11_isField
  refine x_iload_n hO 0 rfl rfl dX11_isField_0 ?_
  refine y_PI (x_callS hO lt_RX11_163 (As := [.int x0]) rfl (Nat.le_of_ble_eq_true rfl) (ok_X11_isColumn (cG Γ) h x0) dX11_isField_1 rfl (Nat.le_of_ble_eq_true rfl)) (fun r1 => ?_)
  refine x_if_eq hO (tg := 31) dX11_isField_4 (by decide) ?_ ?_
  · refine x_iconst hO (v := 0) (by decide) dX11_isField_31 ?_
    exact x_zretv hO rfl (by decide) dX11_isField_32 (hR _)
  · refine x_iload_n hO 1 rfl rfl dX11_isField_7 ?_
    refine y_PI (x_callS hO lt_RX11_163 (As := [.int x1]) rfl (Nat.le_of_ble_eq_true rfl) (ok_X11_isColumn (cG Γ) h x1) dX11_isField_8 rfl (Nat.le_of_ble_eq_true rfl)) (fun r2 => ?_)
    refine x_if_eq hO (tg := 31) dX11_isField_11 (by decide) ?_ ?_
    · refine x_iconst hO (v := 0) (by decide) dX11_isField_31 ?_
      exact x_zretv hO rfl (by decide) dX11_isField_32 (hR _)
    · refine x_iload_n hO 0 rfl rfl dX11_isField_14 ?_
      refine x_iload_n hO 1 rfl rfl dX11_isField_15 ?_
      refine x_icmp_gt hO (tg := 31) dX11_isField_16 (by decide) ?_ ?_
      · refine x_iconst hO (v := 0) (by decide) dX11_isField_31 ?_
        exact x_zretv hO rfl (by decide) dX11_isField_32 (hR _)
      · refine x_iload_n hO 1 rfl rfl dX11_isField_19 ?_
        refine x_iload_n hO 0 rfl rfl dX11_isField_20 ?_
        refine x_isub hO dX11_isField_21 ?_
        refine x_bipush hO (v := 6) (by decide) dX11_isField_22 ?_
        refine x_icmp_ge hO (tg := 31) dX11_isField_24 (by decide) ?_ ?_
        · refine x_iconst hO (v := 0) (by decide) dX11_isField_31 ?_
          exact x_zretv hO rfl (by decide) dX11_isField_32 (hR _)
        · refine x_iconst hO (v := 1) (by decide) dX11_isField_27 ?_
          refine x_goto hO (tg := 32) dX11_isField_28 (by decide) ?_
          exact x_zretv hO rfl (by decide) dX11_isField_32 (hR _)
theorem ok_X11_isField (G : Gl) (h : Hp) (x0 : Int32) (x1 : Int32) : CN G mX11_isField [.int x0, .int x1] h ((F_X11_isField h x0 x1).map (emPI h)) := CN.fn pn_RX11 (Nat.le_of_ble_eq_true rfl) (fun Γ hG hO => by subst hG; exact go_X11_isField hO h x0 x1 (fun _ q => q))
noncomputable def F_X11_joined (h : Hp) (x0 : Nat) (x1 : Int32) (x2 : Int32) : Option (Hp × Int32) :=
  (F_X0_isMean h (GR (GR x0 2) 8) x1).bind (fun r1 => if r1 = 0 then (F_X11_refuse h x0 ((1 : Int32))).bind (fun r2 => some ((r2.1, r2.2))) else (F_X0_isCode h (GR (GR x0 2) 8) x2).bind (fun r3 => if r3 = 0 then (F_X11_refuse h x0 ((1 : Int32))).bind (fun r7 => some ((r7.1, r7.2))) else (F_X0_joinOf h (GR (GR x0 2) 8) x1 x2).bind (fun r4 => if r4 = ((-1 : Int32)) then (F_X11_refuse h x0 ((6 : Int32))).bind (fun r6 => some ((r6.1, r6.2))) else (F_X11_answer h x0 r4).bind (fun r5 => some ((r5.1, r5.2))))))
set_option maxHeartbeats 4000000 in
set_option maxRecDepth 100000 in
theorem go_X11_joined {Γ : Cx} (hO : Ok Γ mX11_joined) (h : Hp) (x0 : Nat) (x1 : Int32) (x2 : Int32) (hx0 : Is x0 11) {K : Hp × Int32 → Prop} (hR : ∀ r, K r → emHI r = tgt Γ) : EG Γ mX11_joined 0 [(0, rf Γ x0), (1, .int x1), (2, .int x2)] [] h (F_X11_joined h x0 x1 x2) K := by
  unfold F_X11_joined
  refine x_aload_n hO 0 rfl rfl dX11_joined_0 ?_
  refine x_getR hO fl_RX11_22 hx0 dX11_joined_1 ?_
  refine x_getR hO fl_RX11_207 (gr_11_2 hx0) dX11_joined_4 ?_
  refine x_iload_n hO 1 rfl rfl dX11_joined_7 ?_
  refine y_PI (x_callV hO lv_RX11_239 (gr_2_8 (gr_11_2 hx0)) vc_0 (by decide) (As := [.int x1]) rfl (Nat.le_of_ble_eq_true rfl) (ok_X0_isMean (cG Γ) h (GR (GR x0 2) 8) x1 (gr_2_8 (gr_11_2 hx0))) dX11_joined_8 rfl (Nat.le_of_ble_eq_true rfl)) (fun r1 => ?_)
  refine x_if_eq hO (tg := 28) dX11_joined_11 (by decide) ?_ ?_
  · refine x_aload_n hO 0 rfl rfl dX11_joined_28 ?_
    refine x_iconst hO (v := 1) (by decide) dX11_joined_29 ?_
    refine y_HI (x_callV hO lv_RX11_119 hx0 vc_11 (by decide) (As := [.int ((1 : Int32))]) rfl (Nat.le_of_ble_eq_true rfl) (ok_X11_refuse (cG Γ) h x0 ((1 : Int32)) hx0) dX11_joined_30 rfl (Nat.le_of_ble_eq_true rfl)) (fun r2 => ?_)
    exact x_iret hO rfl dX11_joined_33 (hR _)
  · refine x_aload_n hO 0 rfl rfl dX11_joined_14 ?_
    refine x_getR hO fl_RX11_22 hx0 dX11_joined_15 ?_
    refine x_getR hO fl_RX11_207 (gr_11_2 hx0) dX11_joined_18 ?_
    refine x_iload_n hO 2 rfl rfl dX11_joined_21 ?_
    refine y_PI (x_callV hO lv_RX11_227 (gr_2_8 (gr_11_2 hx0)) vc_0 (by decide) (As := [.int x2]) rfl (Nat.le_of_ble_eq_true rfl) (ok_X0_isCode (cG Γ) h (GR (GR x0 2) 8) x2 (gr_2_8 (gr_11_2 hx0))) dX11_joined_22 rfl (Nat.le_of_ble_eq_true rfl)) (fun r3 => ?_)
    refine x_if_ne hO (tg := 34) dX11_joined_25 (by decide) ?_ ?_
    · refine x_aload_n hO 0 rfl rfl dX11_joined_34 ?_
      refine x_getR hO fl_RX11_22 hx0 dX11_joined_35 ?_
      refine x_getR hO fl_RX11_207 (gr_11_2 hx0) dX11_joined_38 ?_
      refine x_iload_n hO 1 rfl rfl dX11_joined_41 ?_
      refine x_iload_n hO 2 rfl rfl dX11_joined_42 ?_
      refine y_PI (x_callV hO lv_RX11_369 (gr_2_8 (gr_11_2 hx0)) vc_0 (by decide) (As := [.int x1, .int x2]) rfl (Nat.le_of_ble_eq_true rfl) (ok_X0_joinOf (cG Γ) h (GR (GR x0 2) 8) x1 x2 (gr_2_8 (gr_11_2 hx0))) dX11_joined_43 rfl (Nat.le_of_ble_eq_true rfl)) (fun r4 => ?_)
      refine x_istore_n hO rfl [(3, .int r4), (0, rf Γ x0), (1, .int x1), (2, .int x2)] dX11_joined_46 (by decide) rfl ?_
      refine x_iload_n hO 0 rfl rfl dX11_joined_47 ?_
      refine x_iconst hO (v := -1) (by decide) dX11_joined_48 ?_
      refine x_icmp_ne hO (tg := 61) dX11_joined_49 (by decide) ?_ ?_
      · refine x_aload_n hO 1 rfl rfl dX11_joined_61 ?_
        refine x_iload_n hO 0 rfl rfl dX11_joined_62 ?_
        refine y_HI (x_callV hO lv_RX11_157 hx0 vc_11 (by decide) (As := [.int r4]) rfl (Nat.le_of_ble_eq_true rfl) (ok_X11_answer (cG Γ) h x0 r4 hx0) dX11_joined_63 rfl (Nat.le_of_ble_eq_true rfl)) (fun r5 => ?_)
        exact x_iret hO rfl dX11_joined_66 (hR _)
      · refine x_aload_n hO 1 rfl rfl dX11_joined_52 ?_
        refine x_bipush hO (v := 6) (by decide) dX11_joined_53 ?_
        refine y_HI (x_callV hO lv_RX11_119 hx0 vc_11 (by decide) (As := [.int ((6 : Int32))]) rfl (Nat.le_of_ble_eq_true rfl) (ok_X11_refuse (cG Γ) h x0 ((6 : Int32)) hx0) dX11_joined_55 rfl (Nat.le_of_ble_eq_true rfl)) (fun r6 => ?_)
        refine x_goto hO (tg := 66) dX11_joined_58 (by decide) ?_
        exact x_iret hO rfl dX11_joined_66 (hR _)
    · refine x_aload_n hO 0 rfl rfl dX11_joined_28 ?_
      refine x_iconst hO (v := 1) (by decide) dX11_joined_29 ?_
      refine y_HI (x_callV hO lv_RX11_119 hx0 vc_11 (by decide) (As := [.int ((1 : Int32))]) rfl (Nat.le_of_ble_eq_true rfl) (ok_X11_refuse (cG Γ) h x0 ((1 : Int32)) hx0) dX11_joined_30 rfl (Nat.le_of_ble_eq_true rfl)) (fun r7 => ?_)
      exact x_iret hO rfl dX11_joined_33 (hR _)
theorem ok_X11_joined (G : Gl) (h : Hp) (x0 : Nat) (x1 : Int32) (x2 : Int32) (hx0 : Is x0 11) : CN G mX11_joined [.ref (gb G + x0), .int x1, .int x2] h ((F_X11_joined h x0 x1 x2).map (emHI)) := CN.fn pn_RX11 (Nat.le_of_ble_eq_true rfl) (fun Γ hG hO => by subst hG; exact go_X11_joined hO h x0 x1 x2 hx0 (fun _ q => q))
noncomputable def F_X11_keyStatus (h : Hp) (x0 : Nat) (x1 : Int32) (x2 : Int32) : Option (Int32) :=
  (F_X11_isTray h x1).bind (fun r1 => if r1 = 0 then some ((1 : Int32)) else if x2 < ((1 : Int32)) then some ((1 : Int32)) else if x2 ≤ ((4 : Int32)) then (F_X11_rowStatus h x0 x1 x2).bind (fun r2 => if r2 = 0 then gd (ib x1 (LEN (GR x0 0))) ((F_X10_allWithin h (GR (GR x0 0) (nx x1)) x2 ((23 : Int32))).bind (fun r4 => if r4 = 0 then some ((5 : Int32)) else some ((0 : Int32)))) else some r2) else some ((1 : Int32)))
set_option maxHeartbeats 4000000 in
set_option maxRecDepth 100000 in
theorem go_X11_keyStatus {Γ : Cx} (hO : Ok Γ mX11_keyStatus) (h : Hp) (x0 : Nat) (x1 : Int32) (x2 : Int32) (hx0 : Is x0 11) {K : Int32 → Prop} (hR : ∀ r, K r → emPI h r = tgt Γ) : EG Γ mX11_keyStatus 0 [(0, rf Γ x0), (1, .int x1), (2, .int x2)] [] h (F_X11_keyStatus h x0 x1 x2) K := by
  unfold F_X11_keyStatus
  refine x_iload_n hO 1 rfl rfl dX11_keyStatus_0 ?_
  refine y_PI (x_callS hO lt_RX11_96 (As := [.int x1]) rfl (Nat.le_of_ble_eq_true rfl) (ok_X11_isTray (cG Γ) h x1) dX11_keyStatus_1 rfl (Nat.le_of_ble_eq_true rfl)) (fun r1 => ?_)
  refine x_if_eq hO (tg := 17) dX11_keyStatus_4 (by decide) ?_ ?_
  · refine x_iconst hO (v := 1) (by decide) dX11_keyStatus_17 ?_
    exact x_iret hO rfl dX11_keyStatus_18 (hR _)
  · refine x_iload_n hO 2 rfl rfl dX11_keyStatus_7 ?_
    refine x_iconst hO (v := 1) (by decide) dX11_keyStatus_8 ?_
    refine x_icmp_lt hO (tg := 17) dX11_keyStatus_9 (by decide) ?_ ?_
    · refine x_iconst hO (v := 1) (by decide) dX11_keyStatus_17 ?_
      exact x_iret hO rfl dX11_keyStatus_18 (hR _)
    · refine x_iload_n hO 2 rfl rfl dX11_keyStatus_12 ?_
      refine x_iconst hO (v := 4) (by decide) dX11_keyStatus_13 ?_
      refine x_icmp_le hO (tg := 19) dX11_keyStatus_14 (by decide) ?_ ?_
      · refine x_aload_n hO 0 rfl rfl dX11_keyStatus_19 ?_
        refine x_iload_n hO 1 rfl rfl dX11_keyStatus_20 ?_
        refine x_iload_n hO 2 rfl rfl dX11_keyStatus_21 ?_
        refine y_PI (x_callV hO lv_RX11_144 hx0 vc_11 (by decide) (As := [.int x1, .int x2]) rfl (Nat.le_of_ble_eq_true rfl) (ok_X11_rowStatus (cG Γ) h x0 x1 x2 hx0) dX11_keyStatus_22 rfl (Nat.le_of_ble_eq_true rfl)) (fun r2 => ?_)
        refine x_istore_n hO rfl [(3, .int r2), (0, rf Γ x0), (1, .int x1), (2, .int x2)] dX11_keyStatus_25 (by decide) rfl ?_
        refine x_iload_n hO 0 rfl rfl dX11_keyStatus_26 ?_
        refine x_if_eq hO (tg := 32) dX11_keyStatus_27 (by decide) ?_ ?_
        · refine x_aload_n hO 1 rfl rfl dX11_keyStatus_32 ?_
          refine x_getR hO fl_RX11_11 hx0 dX11_keyStatus_33 ?_
          refine x_iload_n hO 2 rfl rfl dX11_keyStatus_36 ?_
          refine x_aaldT hO (gr_11_0 hx0) dX11_keyStatus_37 (fun q3 => ?_)
          refine x_iload_n hO 3 rfl rfl dX11_keyStatus_38 ?_
          refine x_bipush hO (v := 23) (by decide) dX11_keyStatus_39 ?_
          refine y_PI (x_callV hO lv_RX11_147 q3 vc_10 (by decide) (As := [.int x2, .int ((23 : Int32))]) rfl (Nat.le_of_ble_eq_true rfl) (ok_X10_allWithin (cG Γ) h (GR (GR x0 0) (nx x1)) x2 ((23 : Int32)) q3) dX11_keyStatus_41 rfl (Nat.le_of_ble_eq_true rfl)) (fun r4 => ?_)
          refine x_if_eq hO (tg := 51) dX11_keyStatus_44 (by decide) ?_ ?_
          · refine x_iconst hO (v := 5) (by decide) dX11_keyStatus_51 ?_
            exact x_iret hO rfl dX11_keyStatus_52 (hR _)
          · refine x_iconst hO (v := 0) (by decide) dX11_keyStatus_47 ?_
            refine x_goto hO (tg := 52) dX11_keyStatus_48 (by decide) ?_
            exact x_iret hO rfl dX11_keyStatus_52 (hR _)
        · refine x_iload_n hO 0 rfl rfl dX11_keyStatus_30 ?_
          exact x_iret hO rfl dX11_keyStatus_31 (hR _)
      · refine x_iconst hO (v := 1) (by decide) dX11_keyStatus_17 ?_
        exact x_iret hO rfl dX11_keyStatus_18 (hR _)
theorem ok_X11_keyStatus (G : Gl) (h : Hp) (x0 : Nat) (x1 : Int32) (x2 : Int32) (hx0 : Is x0 11) : CN G mX11_keyStatus [.ref (gb G + x0), .int x1, .int x2] h ((F_X11_keyStatus h x0 x1 x2).map (emPI h)) := CN.fn pn_RX11 (Nat.le_of_ble_eq_true rfl) (fun Γ hG hO => by subst hG; exact go_X11_keyStatus hO h x0 x1 x2 hx0 (fun _ q => q))
noncomputable def F_X11_lies (h : Hp) (x0 : Nat) (x1 : Int32) : Option (Hp × Int32) :=
  if 0 ≤ x1 then if x1 < (hI h (GR x0 2) 0) then gd (ib x1 (LEN (GR (GR x0 2) 7))) ((F_X11_answer h x0 (hI h (GR (GR x0 2) 7) (nx x1))).bind (fun r1 => some ((r1.1, r1.2)))) else (F_X11_refuse h x0 ((6 : Int32))).bind (fun r2 => some ((r2.1, r2.2))) else (F_X11_refuse h x0 ((1 : Int32))).bind (fun r3 => some ((r3.1, r3.2)))
set_option maxHeartbeats 4000000 in
set_option maxRecDepth 100000 in
theorem go_X11_lies {Γ : Cx} (hO : Ok Γ mX11_lies) (h : Hp) (x0 : Nat) (x1 : Int32) (hx0 : Is x0 11) {K : Hp × Int32 → Prop} (hR : ∀ r, K r → emHI r = tgt Γ) : EG Γ mX11_lies 0 [(0, rf Γ x0), (1, .int x1)] [] h (F_X11_lies h x0 x1) K := by
  unfold F_X11_lies
  refine x_iload_n hO 1 rfl rfl dX11_lies_0 ?_
  refine x_if_ge hO (tg := 10) dX11_lies_1 (by decide) ?_ ?_
  · refine x_iload_n hO 1 rfl rfl dX11_lies_10 ?_
    refine x_aload_n hO 0 rfl rfl dX11_lies_11 ?_
    refine x_getR hO fl_RX11_22 hx0 dX11_lies_12 ?_
    refine x_getI hO fl_RX11_150 (gr_11_2 hx0) dX11_lies_15 ?_
    refine x_icmp_lt hO (tg := 28) dX11_lies_18 (by decide) ?_ ?_
    · refine x_aload_n hO 0 rfl rfl dX11_lies_28 ?_
      refine x_aload_n hO 0 rfl rfl dX11_lies_29 ?_
      refine x_getR hO fl_RX11_22 hx0 dX11_lies_30 ?_
      refine x_getR hO fl_RX11_188 (gr_11_2 hx0) dX11_lies_33 ?_
      refine x_iload_n hO 1 rfl rfl dX11_lies_36 ?_
      refine x_iald hO (gr_2_7 (gr_11_2 hx0)) dX11_lies_37 ?_
      refine y_HI (x_callV hO lv_RX11_157 hx0 vc_11 (by decide) (As := [.int (hI h (GR (GR x0 2) 7) (nx x1))]) rfl (Nat.le_of_ble_eq_true rfl) (ok_X11_answer (cG Γ) h x0 (hI h (GR (GR x0 2) 7) (nx x1)) hx0) dX11_lies_38 rfl (Nat.le_of_ble_eq_true rfl)) (fun r1 => ?_)
      exact x_iret hO rfl dX11_lies_41 (hR _)
    · refine x_aload_n hO 0 rfl rfl dX11_lies_21 ?_
      refine x_bipush hO (v := 6) (by decide) dX11_lies_22 ?_
      refine y_HI (x_callV hO lv_RX11_119 hx0 vc_11 (by decide) (As := [.int ((6 : Int32))]) rfl (Nat.le_of_ble_eq_true rfl) (ok_X11_refuse (cG Γ) h x0 ((6 : Int32)) hx0) dX11_lies_24 rfl (Nat.le_of_ble_eq_true rfl)) (fun r2 => ?_)
      exact x_iret hO rfl dX11_lies_27 (hR _)
  · refine x_aload_n hO 0 rfl rfl dX11_lies_4 ?_
    refine x_iconst hO (v := 1) (by decide) dX11_lies_5 ?_
    refine y_HI (x_callV hO lv_RX11_119 hx0 vc_11 (by decide) (As := [.int ((1 : Int32))]) rfl (Nat.le_of_ble_eq_true rfl) (ok_X11_refuse (cG Γ) h x0 ((1 : Int32)) hx0) dX11_lies_6 rfl (Nat.le_of_ble_eq_true rfl)) (fun r3 => ?_)
    exact x_iret hO rfl dX11_lies_9 (hR _)
theorem ok_X11_lies (G : Gl) (h : Hp) (x0 : Nat) (x1 : Int32) (hx0 : Is x0 11) : CN G mX11_lies [.ref (gb G + x0), .int x1] h ((F_X11_lies h x0 x1).map (emHI)) := CN.fn pn_RX11 (Nat.le_of_ble_eq_true rfl) (fun Γ hG hO => by subst hG; exact go_X11_lies hO h x0 x1 hx0 (fun _ q => q))
noncomputable def J_X11_list_26 (h : Hp) (x0 : Nat) (x1 : Int32) (x2 : Int32) (x3 : Int32) (s0 : Int32) : Option (Hp × Int32) :=
  if s0 = 0 then (F_X11_refuse h x0 ((1 : Int32))).bind (fun r1 => some ((r1.1, r1.2))) else if x3 < 0 then (F_X11_refuse h x0 ((1 : Int32))).bind (fun r2 => some ((r2.1, r2.2))) else if x3 ≤ ((1 : Int32)) then if x2 ≤ x1 then (F_X2_wornAbove h (GR x0 2) (x1 - x2)).bind (fun r3 => if x3 = 0 then (F_J6_bitCount_0f7a4 h r3).bind (fun r5 => (F_X11_answer h x0 r5).bind (fun r6 => some ((r6.1, r6.2)))) else (F_X11_answer h x0 r3).bind (fun r4 => some ((r4.1, r4.2)))) else (F_X11_refuse h x0 ((6 : Int32))).bind (fun r7 => some ((r7.1, r7.2))) else (F_X11_refuse h x0 ((1 : Int32))).bind (fun r8 => some ((r8.1, r8.2)))
set_option maxHeartbeats 4000000 in
set_option maxRecDepth 100000 in
theorem go_X11_list_J26 {Γ : Cx} (hO : Ok Γ mX11_list) (h : Hp) (x0 : Nat) (x1 : Int32) (x2 : Int32) (x3 : Int32) (s0 : Int32) (hx0 : Is x0 11) {K : Hp × Int32 → Prop} (hR : ∀ r, K r → emHI r = tgt Γ) : EG Γ mX11_list 26 [(0, rf Γ x0), (1, .int x1), (2, .int x2), (3, .int x3)] [.int s0] h (J_X11_list_26 h x0 x1 x2 x3 s0) K := by
  unfold J_X11_list_26
  refine x_istore hO [(4, .int s0), (0, rf Γ x0), (1, .int x1), (2, .int x2), (3, .int x3)] dX11_list_26 (by decide) rfl ?_
  refine x_iload hO 0 rfl dX11_list_28 ?_
  refine x_if_eq hO (tg := 42) dX11_list_30 (by decide) ?_ ?_
  · refine x_aload_n hO 1 rfl rfl dX11_list_42 ?_
    refine x_iconst hO (v := 1) (by decide) dX11_list_43 ?_
    refine y_HI (x_callV hO lv_RX11_119 hx0 vc_11 (by decide) (As := [.int ((1 : Int32))]) rfl (Nat.le_of_ble_eq_true rfl) (ok_X11_refuse (cG Γ) h x0 ((1 : Int32)) hx0) dX11_list_44 rfl (Nat.le_of_ble_eq_true rfl)) (fun r1 => ?_)
    exact x_iret hO rfl dX11_list_47 (hR _)
  · refine x_iload_n hO 4 rfl rfl dX11_list_33 ?_
    refine x_if_lt hO (tg := 42) dX11_list_34 (by decide) ?_ ?_
    · refine x_aload_n hO 1 rfl rfl dX11_list_42 ?_
      refine x_iconst hO (v := 1) (by decide) dX11_list_43 ?_
      refine y_HI (x_callV hO lv_RX11_119 hx0 vc_11 (by decide) (As := [.int ((1 : Int32))]) rfl (Nat.le_of_ble_eq_true rfl) (ok_X11_refuse (cG Γ) h x0 ((1 : Int32)) hx0) dX11_list_44 rfl (Nat.le_of_ble_eq_true rfl)) (fun r2 => ?_)
      exact x_iret hO rfl dX11_list_47 (hR _)
    · refine x_iload_n hO 4 rfl rfl dX11_list_37 ?_
      refine x_iconst hO (v := 1) (by decide) dX11_list_38 ?_
      refine x_icmp_le hO (tg := 48) dX11_list_39 (by decide) ?_ ?_
      · refine x_iload_n hO 3 rfl rfl dX11_list_48 ?_
        refine x_iload_n hO 2 rfl rfl dX11_list_49 ?_
        refine x_icmp_le hO (tg := 60) dX11_list_50 (by decide) ?_ ?_
        · refine x_aload_n hO 1 rfl rfl dX11_list_60 ?_
          refine x_getR hO fl_RX11_22 hx0 dX11_list_61 ?_
          refine x_iload_n hO 2 rfl rfl dX11_list_64 ?_
          refine x_iload_n hO 3 rfl rfl dX11_list_65 ?_
          refine x_isub hO dX11_list_66 ?_
          refine y_PI (x_callV hO lv_RX11_378 (gr_11_2 hx0) vc_2 (by decide) (As := [.int (x1 - x2)]) rfl (Nat.le_of_ble_eq_true rfl) (ok_X2_wornAbove (cG Γ) h (GR x0 2) (x1 - x2) (gr_11_2 hx0)) dX11_list_67 rfl (Nat.le_of_ble_eq_true rfl)) (fun r3 => ?_)
          refine x_istore hO [(5, .int r3), (4, .int s0), (0, rf Γ x0), (1, .int x1), (2, .int x2), (3, .int x3)] dX11_list_70 (by decide) rfl ?_
          refine x_aload_n hO 2 rfl rfl dX11_list_72 ?_
          refine x_iload_n hO 5 rfl rfl dX11_list_73 ?_
          refine x_if_ne hO (tg := 85) dX11_list_74 (by decide) ?_ ?_
          · refine x_iload hO 0 rfl dX11_list_85 ?_
            refine y_HI (x_callV hO lv_RX11_157 hx0 vc_11 (by decide) (As := [.int r3]) rfl (Nat.le_of_ble_eq_true rfl) (ok_X11_answer (cG Γ) h x0 r3 hx0) dX11_list_87 rfl (Nat.le_of_ble_eq_true rfl)) (fun r4 => ?_)
            exact x_iret hO rfl dX11_list_90 (hR _)
          · refine x_iload hO 0 rfl dX11_list_77 ?_
            refine y_PI (x_callS hO lt_RX11_381 (As := [.int r3]) rfl (Nat.le_of_ble_eq_true rfl) (ok_J6_bitCount_0f7a4 (cG Γ) h r3) dX11_list_79 rfl (Nat.le_of_ble_eq_true rfl)) (fun r5 => ?_)
            refine x_goto hO (tg := 87) dX11_list_82 (by decide) ?_
            refine y_HI (x_callV hO lv_RX11_157 hx0 vc_11 (by decide) (As := [.int r5]) rfl (Nat.le_of_ble_eq_true rfl) (ok_X11_answer (cG Γ) h x0 r5 hx0) dX11_list_87 rfl (Nat.le_of_ble_eq_true rfl)) (fun r6 => ?_)
            exact x_iret hO rfl dX11_list_90 (hR _)
        · refine x_aload_n hO 1 rfl rfl dX11_list_53 ?_
          refine x_bipush hO (v := 6) (by decide) dX11_list_54 ?_
          refine y_HI (x_callV hO lv_RX11_119 hx0 vc_11 (by decide) (As := [.int ((6 : Int32))]) rfl (Nat.le_of_ble_eq_true rfl) (ok_X11_refuse (cG Γ) h x0 ((6 : Int32)) hx0) dX11_list_56 rfl (Nat.le_of_ble_eq_true rfl)) (fun r7 => ?_)
          exact x_iret hO rfl dX11_list_59 (hR _)
      · refine x_aload_n hO 1 rfl rfl dX11_list_42 ?_
        refine x_iconst hO (v := 1) (by decide) dX11_list_43 ?_
        refine y_HI (x_callV hO lv_RX11_119 hx0 vc_11 (by decide) (As := [.int ((1 : Int32))]) rfl (Nat.le_of_ble_eq_true rfl) (ok_X11_refuse (cG Γ) h x0 ((1 : Int32)) hx0) dX11_list_44 rfl (Nat.le_of_ble_eq_true rfl)) (fun r8 => ?_)
        exact x_iret hO rfl dX11_list_47 (hR _)
noncomputable def J_X11_list_25 (h : Hp) (x0 : Nat) (x1 : Int32) (x2 : Int32) (x3 : Int32) : Option (Hp × Int32) :=
  J_X11_list_26 h x0 x1 x2 x3 ((0 : Int32))
set_option maxHeartbeats 4000000 in
set_option maxRecDepth 100000 in
theorem go_X11_list_J25 {Γ : Cx} (hO : Ok Γ mX11_list) (h : Hp) (x0 : Nat) (x1 : Int32) (x2 : Int32) (x3 : Int32) (hx0 : Is x0 11) {K : Hp × Int32 → Prop} (hR : ∀ r, K r → emHI r = tgt Γ) : EG Γ mX11_list 25 [(0, rf Γ x0), (1, .int x1), (2, .int x2), (3, .int x3)] [] h (J_X11_list_25 h x0 x1 x2 x3) K := by
  unfold J_X11_list_25
  refine x_iconst hO (v := 0) (by decide) dX11_list_25 ?_
  exact x_sub [0, 1, 2, 3] rfl (go_X11_list_J26 hO h x0 x1 x2 x3 ((0 : Int32)) hx0 hR)
noncomputable def F_X11_list (h : Hp) (x0 : Nat) (x1 : Int32) (x2 : Int32) (x3 : Int32) : Option (Hp × Int32) :=
  if x1 < ((1 : Int32)) then J_X11_list_25 h x0 x1 x2 x3 else if ((20 : Int32)) < x1 then J_X11_list_25 h x0 x1 x2 x3 else if x2 < 0 then J_X11_list_25 h x0 x1 x2 x3 else if ((20 : Int32)) < x2 then J_X11_list_25 h x0 x1 x2 x3 else J_X11_list_26 h x0 x1 x2 x3 ((1 : Int32))
set_option maxHeartbeats 4000000 in
set_option maxRecDepth 100000 in
theorem go_X11_list {Γ : Cx} (hO : Ok Γ mX11_list) (h : Hp) (x0 : Nat) (x1 : Int32) (x2 : Int32) (x3 : Int32) (hx0 : Is x0 11) {K : Hp × Int32 → Prop} (hR : ∀ r, K r → emHI r = tgt Γ) : EG Γ mX11_list 0 [(0, rf Γ x0), (1, .int x1), (2, .int x2), (3, .int x3)] [] h (F_X11_list h x0 x1 x2 x3) K := by
  unfold F_X11_list
  refine x_iload_n hO 1 rfl rfl dX11_list_0 ?_
  refine x_iconst hO (v := 1) (by decide) dX11_list_1 ?_
  refine x_icmp_lt hO (tg := 25) dX11_list_2 (by decide) ?_ ?_
  · exact x_sub [0, 1, 2, 3] rfl (go_X11_list_J25 hO h x0 x1 x2 x3 hx0 hR)
  · refine x_iload_n hO 1 rfl rfl dX11_list_5 ?_
    refine x_bipush hO (v := 20) (by decide) dX11_list_6 ?_
    refine x_icmp_gt hO (tg := 25) dX11_list_8 (by decide) ?_ ?_
    · exact x_sub [0, 1, 2, 3] rfl (go_X11_list_J25 hO h x0 x1 x2 x3 hx0 hR)
    · refine x_iload_n hO 2 rfl rfl dX11_list_11 ?_
      refine x_if_lt hO (tg := 25) dX11_list_12 (by decide) ?_ ?_
      · exact x_sub [0, 1, 2, 3] rfl (go_X11_list_J25 hO h x0 x1 x2 x3 hx0 hR)
      · refine x_iload_n hO 2 rfl rfl dX11_list_15 ?_
        refine x_bipush hO (v := 20) (by decide) dX11_list_16 ?_
        refine x_icmp_gt hO (tg := 25) dX11_list_18 (by decide) ?_ ?_
        · exact x_sub [0, 1, 2, 3] rfl (go_X11_list_J25 hO h x0 x1 x2 x3 hx0 hR)
        · refine x_iconst hO (v := 1) (by decide) dX11_list_21 ?_
          refine x_goto hO (tg := 26) dX11_list_22 (by decide) ?_
          exact x_sub [0, 1, 2, 3] rfl (go_X11_list_J26 hO h x0 x1 x2 x3 ((1 : Int32)) hx0 hR)
theorem ok_X11_list (G : Gl) (h : Hp) (x0 : Nat) (x1 : Int32) (x2 : Int32) (x3 : Int32) (hx0 : Is x0 11) : CN G mX11_list [.ref (gb G + x0), .int x1, .int x2, .int x3] h ((F_X11_list h x0 x1 x2 x3).map (emHI)) := CN.fn pn_RX11 (Nat.le_of_ble_eq_true rfl) (fun Γ hG hO => by subst hG; exact go_X11_list hO h x0 x1 x2 x3 hx0 (fun _ q => q))
noncomputable def F_X11_many (h : Hp) (x0 : Nat) (x1 : Int32) : Option (Hp × Int32) :=
  swt x1 0 [(F_X11_answer h x0 (hI h (GR x0 2) 0)).bind (fun r1 => some ((r1.1, r1.2))), (F_X11_answer h x0 (hI h (GR (GR x0 2) 8) 0)).bind (fun r2 => some ((r2.1, r2.2))), (F_X11_answer h x0 (hI h (GR (GR x0 2) 8) 1)).bind (fun r3 => some ((r3.1, r3.2))), (F_X11_answer h x0 (hI h (GR x0 2) 1)).bind (fun r4 => some ((r4.1, r4.2)))] ((F_X11_refuse h x0 ((1 : Int32))).bind (fun r5 => some ((r5.1, r5.2))))
set_option maxHeartbeats 4000000 in
set_option maxRecDepth 100000 in
theorem go_X11_many {Γ : Cx} (hO : Ok Γ mX11_many) (h : Hp) (x0 : Nat) (x1 : Int32) (hx0 : Is x0 11) {K : Hp × Int32 → Prop} (hR : ∀ r, K r → emHI r = tgt Γ) : EG Γ mX11_many 0 [(0, rf Γ x0), (1, .int x1)] [] h (F_X11_many h x0 x1) K := by
  unfold F_X11_many
  refine x_iload_n hO 1 rfl rfl dX11_many_0 ?_
  refine x_tsw hO (tgs := [32, 44, 59, 74]) (dt := 86) dX11_many_1 rfl (by decide) (by decide) ⟨?_, ?_, ?_, ?_, trivial⟩ ?_
  · refine x_aload_n hO 0 rfl rfl dX11_many_32 ?_
    refine x_aload_n hO 0 rfl rfl dX11_many_33 ?_
    refine x_getR hO fl_RX11_22 hx0 dX11_many_34 ?_
    refine x_getI hO fl_RX11_150 (gr_11_2 hx0) dX11_many_37 ?_
    refine y_HI (x_callV hO lv_RX11_157 hx0 vc_11 (by decide) (As := [.int (hI h (GR x0 2) 0)]) rfl (Nat.le_of_ble_eq_true rfl) (ok_X11_answer (cG Γ) h x0 (hI h (GR x0 2) 0) hx0) dX11_many_40 rfl (Nat.le_of_ble_eq_true rfl)) (fun r1 => ?_)
    exact x_iret hO rfl dX11_many_43 (hR _)
  · refine x_aload_n hO 0 rfl rfl dX11_many_44 ?_
    refine x_aload_n hO 0 rfl rfl dX11_many_45 ?_
    refine x_getR hO fl_RX11_22 hx0 dX11_many_46 ?_
    refine x_getR hO fl_RX11_207 (gr_11_2 hx0) dX11_many_49 ?_
    refine x_getI hO fl_RX11_221 (gr_2_8 (gr_11_2 hx0)) dX11_many_52 ?_
    refine y_HI (x_callV hO lv_RX11_157 hx0 vc_11 (by decide) (As := [.int (hI h (GR (GR x0 2) 8) 0)]) rfl (Nat.le_of_ble_eq_true rfl) (ok_X11_answer (cG Γ) h x0 (hI h (GR (GR x0 2) 8) 0) hx0) dX11_many_55 rfl (Nat.le_of_ble_eq_true rfl)) (fun r2 => ?_)
    exact x_iret hO rfl dX11_many_58 (hR _)
  · refine x_aload_n hO 0 rfl rfl dX11_many_59 ?_
    refine x_aload_n hO 0 rfl rfl dX11_many_60 ?_
    refine x_getR hO fl_RX11_22 hx0 dX11_many_61 ?_
    refine x_getR hO fl_RX11_207 (gr_11_2 hx0) dX11_many_64 ?_
    refine x_getI hO fl_RX11_218 (gr_2_8 (gr_11_2 hx0)) dX11_many_67 ?_
    refine y_HI (x_callV hO lv_RX11_157 hx0 vc_11 (by decide) (As := [.int (hI h (GR (GR x0 2) 8) 1)]) rfl (Nat.le_of_ble_eq_true rfl) (ok_X11_answer (cG Γ) h x0 (hI h (GR (GR x0 2) 8) 1) hx0) dX11_many_70 rfl (Nat.le_of_ble_eq_true rfl)) (fun r3 => ?_)
    exact x_iret hO rfl dX11_many_73 (hR _)
  · refine x_aload_n hO 0 rfl rfl dX11_many_74 ?_
    refine x_aload_n hO 0 rfl rfl dX11_many_75 ?_
    refine x_getR hO fl_RX11_22 hx0 dX11_many_76 ?_
    refine x_getI hO fl_RX11_224 (gr_11_2 hx0) dX11_many_79 ?_
    refine y_HI (x_callV hO lv_RX11_157 hx0 vc_11 (by decide) (As := [.int (hI h (GR x0 2) 1)]) rfl (Nat.le_of_ble_eq_true rfl) (ok_X11_answer (cG Γ) h x0 (hI h (GR x0 2) 1) hx0) dX11_many_82 rfl (Nat.le_of_ble_eq_true rfl)) (fun r4 => ?_)
    exact x_iret hO rfl dX11_many_85 (hR _)
  · refine x_aload_n hO 0 rfl rfl dX11_many_86 ?_
    refine x_iconst hO (v := 1) (by decide) dX11_many_87 ?_
    refine y_HI (x_callV hO lv_RX11_119 hx0 vc_11 (by decide) (As := [.int ((1 : Int32))]) rfl (Nat.le_of_ble_eq_true rfl) (ok_X11_refuse (cG Γ) h x0 ((1 : Int32)) hx0) dX11_many_88 rfl (Nat.le_of_ble_eq_true rfl)) (fun r5 => ?_)
    exact x_iret hO rfl dX11_many_91 (hR _)
theorem ok_X11_many (G : Gl) (h : Hp) (x0 : Nat) (x1 : Int32) (hx0 : Is x0 11) : CN G mX11_many [.ref (gb G + x0), .int x1] h ((F_X11_many h x0 x1).map (emHI)) := CN.fn pn_RX11 (Nat.le_of_ble_eq_true rfl) (fun Γ hG hO => by subst hG; exact go_X11_many hO h x0 x1 hx0 (fun _ q => q))
noncomputable def F_X11_mean (h : Hp) (x0 : Nat) (x1 : Int32) (x2 : Int32) : Option (Hp × Int32) :=
  (F_X0_isMean h (GR (GR x0 2) 8) x1).bind (fun r1 => if r1 = 0 then (F_X11_refuse h x0 ((1 : Int32))).bind (fun r2 => some ((r2.1, r2.2))) else if x2 < 0 then (F_X11_refuse h x0 ((1 : Int32))).bind (fun r3 => some ((r3.1, r3.2))) else if x2 ≤ ((1 : Int32)) then if x2 = 0 then gd (ib x1 (LEN (GR (GR (GR x0 2) 8) 3))) ((F_X11_answer h x0 (hI h (GR (GR (GR x0 2) 8) 3) (nx x1))).bind (fun r5 => some ((r5.1, r5.2)))) else gd (ib x1 (LEN (GR (GR (GR x0 2) 8) 4))) ((F_X11_answer h x0 (hI h (GR (GR (GR x0 2) 8) 4) (nx x1))).bind (fun r4 => some ((r4.1, r4.2)))) else (F_X11_refuse h x0 ((1 : Int32))).bind (fun r6 => some ((r6.1, r6.2))))
set_option maxHeartbeats 4000000 in
set_option maxRecDepth 100000 in
theorem go_X11_mean {Γ : Cx} (hO : Ok Γ mX11_mean) (h : Hp) (x0 : Nat) (x1 : Int32) (x2 : Int32) (hx0 : Is x0 11) {K : Hp × Int32 → Prop} (hR : ∀ r, K r → emHI r = tgt Γ) : EG Γ mX11_mean 0 [(0, rf Γ x0), (1, .int x1), (2, .int x2)] [] h (F_X11_mean h x0 x1 x2) K := by
  unfold F_X11_mean
  refine x_aload_n hO 0 rfl rfl dX11_mean_0 ?_
  refine x_getR hO fl_RX11_22 hx0 dX11_mean_1 ?_
  refine x_getR hO fl_RX11_207 (gr_11_2 hx0) dX11_mean_4 ?_
  refine x_astore_n hO rfl [(3, rf Γ (GR (GR x0 2) 8)), (0, rf Γ x0), (1, .int x1), (2, .int x2)] dX11_mean_7 (by decide) rfl ?_
  refine x_aload_n hO 0 rfl rfl dX11_mean_8 ?_
  refine x_iload_n hO 2 rfl rfl dX11_mean_9 ?_
  refine y_PI (x_callV hO lv_RX11_239 (gr_2_8 (gr_11_2 hx0)) vc_0 (by decide) (As := [.int x1]) rfl (Nat.le_of_ble_eq_true rfl) (ok_X0_isMean (cG Γ) h (GR (GR x0 2) 8) x1 (gr_2_8 (gr_11_2 hx0))) dX11_mean_10 rfl (Nat.le_of_ble_eq_true rfl)) (fun r1 => ?_)
  refine x_if_eq hO (tg := 25) dX11_mean_13 (by decide) ?_ ?_
  · refine x_aload_n hO 1 rfl rfl dX11_mean_25 ?_
    refine x_iconst hO (v := 1) (by decide) dX11_mean_26 ?_
    refine y_HI (x_callV hO lv_RX11_119 hx0 vc_11 (by decide) (As := [.int ((1 : Int32))]) rfl (Nat.le_of_ble_eq_true rfl) (ok_X11_refuse (cG Γ) h x0 ((1 : Int32)) hx0) dX11_mean_27 rfl (Nat.le_of_ble_eq_true rfl)) (fun r2 => ?_)
    exact x_iret hO rfl dX11_mean_30 (hR _)
  · refine x_iload_n hO 3 rfl rfl dX11_mean_16 ?_
    refine x_if_lt hO (tg := 25) dX11_mean_17 (by decide) ?_ ?_
    · refine x_aload_n hO 1 rfl rfl dX11_mean_25 ?_
      refine x_iconst hO (v := 1) (by decide) dX11_mean_26 ?_
      refine y_HI (x_callV hO lv_RX11_119 hx0 vc_11 (by decide) (As := [.int ((1 : Int32))]) rfl (Nat.le_of_ble_eq_true rfl) (ok_X11_refuse (cG Γ) h x0 ((1 : Int32)) hx0) dX11_mean_27 rfl (Nat.le_of_ble_eq_true rfl)) (fun r3 => ?_)
      exact x_iret hO rfl dX11_mean_30 (hR _)
    · refine x_iload_n hO 3 rfl rfl dX11_mean_20 ?_
      refine x_iconst hO (v := 1) (by decide) dX11_mean_21 ?_
      refine x_icmp_le hO (tg := 31) dX11_mean_22 (by decide) ?_ ?_
      · refine x_aload_n hO 1 rfl rfl dX11_mean_31 ?_
        refine x_iload_n hO 3 rfl rfl dX11_mean_32 ?_
        refine x_if_ne hO (tg := 45) dX11_mean_33 (by decide) ?_ ?_
        · refine x_aload_n hO 0 rfl rfl dX11_mean_45 ?_
          refine x_getR hO fl_RX11_245 (gr_2_8 (gr_11_2 hx0)) dX11_mean_46 ?_
          refine x_iload_n hO 2 rfl rfl dX11_mean_49 ?_
          refine x_iald hO (gr_0_4 (gr_2_8 (gr_11_2 hx0))) dX11_mean_50 ?_
          refine y_HI (x_callV hO lv_RX11_157 hx0 vc_11 (by decide) (As := [.int (hI h (GR (GR (GR x0 2) 8) 4) (nx x1))]) rfl (Nat.le_of_ble_eq_true rfl) (ok_X11_answer (cG Γ) h x0 (hI h (GR (GR (GR x0 2) 8) 4) (nx x1)) hx0) dX11_mean_51 rfl (Nat.le_of_ble_eq_true rfl)) (fun r4 => ?_)
          exact x_iret hO rfl dX11_mean_54 (hR _)
        · refine x_aload_n hO 0 rfl rfl dX11_mean_36 ?_
          refine x_getR hO fl_RX11_242 (gr_2_8 (gr_11_2 hx0)) dX11_mean_37 ?_
          refine x_iload_n hO 2 rfl rfl dX11_mean_40 ?_
          refine x_iald hO (gr_0_3 (gr_2_8 (gr_11_2 hx0))) dX11_mean_41 ?_
          refine x_goto hO (tg := 51) dX11_mean_42 (by decide) ?_
          refine y_HI (x_callV hO lv_RX11_157 hx0 vc_11 (by decide) (As := [.int (hI h (GR (GR (GR x0 2) 8) 3) (nx x1))]) rfl (Nat.le_of_ble_eq_true rfl) (ok_X11_answer (cG Γ) h x0 (hI h (GR (GR (GR x0 2) 8) 3) (nx x1)) hx0) dX11_mean_51 rfl (Nat.le_of_ble_eq_true rfl)) (fun r5 => ?_)
          exact x_iret hO rfl dX11_mean_54 (hR _)
      · refine x_aload_n hO 1 rfl rfl dX11_mean_25 ?_
        refine x_iconst hO (v := 1) (by decide) dX11_mean_26 ?_
        refine y_HI (x_callV hO lv_RX11_119 hx0 vc_11 (by decide) (As := [.int ((1 : Int32))]) rfl (Nat.le_of_ble_eq_true rfl) (ok_X11_refuse (cG Γ) h x0 ((1 : Int32)) hx0) dX11_mean_27 rfl (Nat.le_of_ble_eq_true rfl)) (fun r6 => ?_)
        exact x_iret hO rfl dX11_mean_30 (hR _)
theorem ok_X11_mean (G : Gl) (h : Hp) (x0 : Nat) (x1 : Int32) (x2 : Int32) (hx0 : Is x0 11) : CN G mX11_mean [.ref (gb G + x0), .int x1, .int x2] h ((F_X11_mean h x0 x1 x2).map (emHI)) := CN.fn pn_RX11 (Nat.le_of_ble_eq_true rfl) (fun Γ hG hO => by subst hG; exact go_X11_mean hO h x0 x1 x2 hx0 (fun _ q => q))
noncomputable def F_X11_meaning (h : Hp) (x0 : Nat) (x1 : Int32) (x2 : Int32) (x3 : Int32) : Option (Hp × Int32) :=
  (F_X2_isCard h (GR x0 2) x1).bind (fun r1 => if r1 = 0 then (F_X11_refuse h x0 ((1 : Int32))).bind (fun r2 => some ((r2.1, r2.2))) else (F_X11_isColumn h x2).bind (fun r3 => if r3 = 0 then (F_X11_refuse h x0 ((1 : Int32))).bind (fun r4 => some ((r4.1, r4.2))) else (F_X0_isCode h (GR (GR x0 2) 8) x3).bind (fun r5 => if r5 = 0 then (F_X11_refuse h x0 ((1 : Int32))).bind (fun r10 => some ((r10.1, r10.2))) else (F_X2_holesOf h (GR x0 2) x1 x2).bind (fun r6 => (F_X0_meanWith h (GR (GR x0 2) 8) x3 r6).bind (fun r7 => if r7 = ((-1 : Int32)) then (F_X11_refuse h x0 ((6 : Int32))).bind (fun r9 => some ((r9.1, r9.2))) else (F_X11_answer h x0 r7).bind (fun r8 => some ((r8.1, r8.2))))))))
set_option maxHeartbeats 4000000 in
set_option maxRecDepth 100000 in
theorem go_X11_meaning {Γ : Cx} (hO : Ok Γ mX11_meaning) (h : Hp) (x0 : Nat) (x1 : Int32) (x2 : Int32) (x3 : Int32) (hx0 : Is x0 11) {K : Hp × Int32 → Prop} (hR : ∀ r, K r → emHI r = tgt Γ) : EG Γ mX11_meaning 0 [(0, rf Γ x0), (1, .int x1), (2, .int x2), (3, .int x3)] [] h (F_X11_meaning h x0 x1 x2 x3) K := by
  unfold F_X11_meaning
  refine x_aload_n hO 0 rfl rfl dX11_meaning_0 ?_
  refine x_getR hO fl_RX11_22 hx0 dX11_meaning_1 ?_
  refine x_iload_n hO 1 rfl rfl dX11_meaning_4 ?_
  refine y_PI (x_callV hO lv_RX11_160 (gr_11_2 hx0) vc_2 (by decide) (As := [.int x1]) rfl (Nat.le_of_ble_eq_true rfl) (ok_X2_isCard (cG Γ) h (GR x0 2) x1 (gr_11_2 hx0)) dX11_meaning_5 rfl (Nat.le_of_ble_eq_true rfl)) (fun r1 => ?_)
  refine x_if_eq hO (tg := 32) dX11_meaning_8 (by decide) ?_ ?_
  · refine x_aload_n hO 0 rfl rfl dX11_meaning_32 ?_
    refine x_iconst hO (v := 1) (by decide) dX11_meaning_33 ?_
    refine y_HI (x_callV hO lv_RX11_119 hx0 vc_11 (by decide) (As := [.int ((1 : Int32))]) rfl (Nat.le_of_ble_eq_true rfl) (ok_X11_refuse (cG Γ) h x0 ((1 : Int32)) hx0) dX11_meaning_34 rfl (Nat.le_of_ble_eq_true rfl)) (fun r2 => ?_)
    exact x_iret hO rfl dX11_meaning_37 (hR _)
  · refine x_iload_n hO 2 rfl rfl dX11_meaning_11 ?_
    refine y_PI (x_callS hO lt_RX11_163 (As := [.int x2]) rfl (Nat.le_of_ble_eq_true rfl) (ok_X11_isColumn (cG Γ) h x2) dX11_meaning_12 rfl (Nat.le_of_ble_eq_true rfl)) (fun r3 => ?_)
    refine x_if_eq hO (tg := 32) dX11_meaning_15 (by decide) ?_ ?_
    · refine x_aload_n hO 0 rfl rfl dX11_meaning_32 ?_
      refine x_iconst hO (v := 1) (by decide) dX11_meaning_33 ?_
      refine y_HI (x_callV hO lv_RX11_119 hx0 vc_11 (by decide) (As := [.int ((1 : Int32))]) rfl (Nat.le_of_ble_eq_true rfl) (ok_X11_refuse (cG Γ) h x0 ((1 : Int32)) hx0) dX11_meaning_34 rfl (Nat.le_of_ble_eq_true rfl)) (fun r4 => ?_)
      exact x_iret hO rfl dX11_meaning_37 (hR _)
    · refine x_aload_n hO 0 rfl rfl dX11_meaning_18 ?_
      refine x_getR hO fl_RX11_22 hx0 dX11_meaning_19 ?_
      refine x_getR hO fl_RX11_207 (gr_11_2 hx0) dX11_meaning_22 ?_
      refine x_iload_n hO 3 rfl rfl dX11_meaning_25 ?_
      refine y_PI (x_callV hO lv_RX11_227 (gr_2_8 (gr_11_2 hx0)) vc_0 (by decide) (As := [.int x3]) rfl (Nat.le_of_ble_eq_true rfl) (ok_X0_isCode (cG Γ) h (GR (GR x0 2) 8) x3 (gr_2_8 (gr_11_2 hx0))) dX11_meaning_26 rfl (Nat.le_of_ble_eq_true rfl)) (fun r5 => ?_)
      refine x_if_ne hO (tg := 38) dX11_meaning_29 (by decide) ?_ ?_
      · refine x_aload_n hO 0 rfl rfl dX11_meaning_38 ?_
        refine x_getR hO fl_RX11_22 hx0 dX11_meaning_39 ?_
        refine x_getR hO fl_RX11_207 (gr_11_2 hx0) dX11_meaning_42 ?_
        refine x_iload_n hO 3 rfl rfl dX11_meaning_45 ?_
        refine x_aload_n hO 0 rfl rfl dX11_meaning_46 ?_
        refine x_getR hO fl_RX11_22 hx0 dX11_meaning_47 ?_
        refine x_iload_n hO 1 rfl rfl dX11_meaning_50 ?_
        refine x_iload_n hO 2 rfl rfl dX11_meaning_51 ?_
        refine y_PI (x_callV hO lv_RX11_170 (gr_11_2 hx0) vc_2 (by decide) (As := [.int x1, .int x2]) rfl (Nat.le_of_ble_eq_true rfl) (ok_X2_holesOf (cG Γ) h (GR x0 2) x1 x2 (gr_11_2 hx0)) dX11_meaning_52 rfl (Nat.le_of_ble_eq_true rfl)) (fun r6 => ?_)
        refine y_PI (x_callV hO lv_RX11_366 (gr_2_8 (gr_11_2 hx0)) vc_0 (by decide) (As := [.int x3, .int r6]) rfl (Nat.le_of_ble_eq_true rfl) (ok_X0_meanWith (cG Γ) h (GR (GR x0 2) 8) x3 r6 (gr_2_8 (gr_11_2 hx0))) dX11_meaning_55 rfl (Nat.le_of_ble_eq_true rfl)) (fun r7 => ?_)
        refine x_istore hO [(4, .int r7), (0, rf Γ x0), (1, .int x1), (2, .int x2), (3, .int x3)] dX11_meaning_58 (by decide) rfl ?_
        refine x_iload hO 0 rfl dX11_meaning_60 ?_
        refine x_iconst hO (v := -1) (by decide) dX11_meaning_62 ?_
        refine x_icmp_ne hO (tg := 75) dX11_meaning_63 (by decide) ?_ ?_
        · refine x_aload_n hO 1 rfl rfl dX11_meaning_75 ?_
          refine x_iload hO 0 rfl dX11_meaning_76 ?_
          refine y_HI (x_callV hO lv_RX11_157 hx0 vc_11 (by decide) (As := [.int r7]) rfl (Nat.le_of_ble_eq_true rfl) (ok_X11_answer (cG Γ) h x0 r7 hx0) dX11_meaning_78 rfl (Nat.le_of_ble_eq_true rfl)) (fun r8 => ?_)
          exact x_iret hO rfl dX11_meaning_81 (hR _)
        · refine x_aload_n hO 1 rfl rfl dX11_meaning_66 ?_
          refine x_bipush hO (v := 6) (by decide) dX11_meaning_67 ?_
          refine y_HI (x_callV hO lv_RX11_119 hx0 vc_11 (by decide) (As := [.int ((6 : Int32))]) rfl (Nat.le_of_ble_eq_true rfl) (ok_X11_refuse (cG Γ) h x0 ((6 : Int32)) hx0) dX11_meaning_69 rfl (Nat.le_of_ble_eq_true rfl)) (fun r9 => ?_)
          refine x_goto hO (tg := 81) dX11_meaning_72 (by decide) ?_
          exact x_iret hO rfl dX11_meaning_81 (hR _)
      · refine x_aload_n hO 0 rfl rfl dX11_meaning_32 ?_
        refine x_iconst hO (v := 1) (by decide) dX11_meaning_33 ?_
        refine y_HI (x_callV hO lv_RX11_119 hx0 vc_11 (by decide) (As := [.int ((1 : Int32))]) rfl (Nat.le_of_ble_eq_true rfl) (ok_X11_refuse (cG Γ) h x0 ((1 : Int32)) hx0) dX11_meaning_34 rfl (Nat.le_of_ble_eq_true rfl)) (fun r10 => ?_)
        exact x_iret hO rfl dX11_meaning_37 (hR _)
theorem ok_X11_meaning (G : Gl) (h : Hp) (x0 : Nat) (x1 : Int32) (x2 : Int32) (x3 : Int32) (hx0 : Is x0 11) : CN G mX11_meaning [.ref (gb G + x0), .int x1, .int x2, .int x3] h ((F_X11_meaning h x0 x1 x2 x3).map (emHI)) := CN.fn pn_RX11 (Nat.le_of_ble_eq_true rfl) (fun Γ hG hO => by subst hG; exact go_X11_meaning hO h x0 x1 x2 x3 hx0 (fun _ q => q))
noncomputable def F_X11_misread (h : Hp) (x0 : Nat) (x1 : Int32) : Option (Hp × Int32) :=
  if x1 < 0 then (F_X11_refuse h x0 ((1 : Int32))).bind (fun r1 => some ((r1.1, r1.2))) else if x1 ≤ ((4 : Int32)) then if (hI h (GR x0 8) 0) = 0 then (F_X11_refuse h x0 ((6 : Int32))).bind (fun r2 => some ((r2.1, r2.2))) else if x1 ≤ (((2 : Int32)) * (hI h (GR x0 8) 1)) then if x1 = 0 then (F_X11_answer h x0 (hI h (GR x0 8) 2)).bind (fun r4 => some ((r4.1, r4.2))) else gd (ib (x1 - ((1 : Int32))) (LEN (GR (GR x0 8) 3))) ((F_X11_answer h x0 (hI h (GR (GR x0 8) 3) (nx (x1 - ((1 : Int32)))))).bind (fun r3 => some ((r3.1, r3.2)))) else (F_X11_refuse h x0 ((6 : Int32))).bind (fun r5 => some ((r5.1, r5.2))) else (F_X11_refuse h x0 ((1 : Int32))).bind (fun r6 => some ((r6.1, r6.2)))
set_option maxHeartbeats 4000000 in
set_option maxRecDepth 100000 in
theorem go_X11_misread {Γ : Cx} (hO : Ok Γ mX11_misread) (h : Hp) (x0 : Nat) (x1 : Int32) (hx0 : Is x0 11) {K : Hp × Int32 → Prop} (hR : ∀ r, K r → emHI r = tgt Γ) : EG Γ mX11_misread 0 [(0, rf Γ x0), (1, .int x1)] [] h (F_X11_misread h x0 x1) K := by
  unfold F_X11_misread
  refine x_iload_n hO 1 rfl rfl dX11_misread_0 ?_
  refine x_if_lt hO (tg := 9) dX11_misread_1 (by decide) ?_ ?_
  · refine x_aload_n hO 0 rfl rfl dX11_misread_9 ?_
    refine x_iconst hO (v := 1) (by decide) dX11_misread_10 ?_
    refine y_HI (x_callV hO lv_RX11_119 hx0 vc_11 (by decide) (As := [.int ((1 : Int32))]) rfl (Nat.le_of_ble_eq_true rfl) (ok_X11_refuse (cG Γ) h x0 ((1 : Int32)) hx0) dX11_misread_11 rfl (Nat.le_of_ble_eq_true rfl)) (fun r1 => ?_)
    exact x_iret hO rfl dX11_misread_14 (hR _)
  · refine x_iload_n hO 1 rfl rfl dX11_misread_4 ?_
    refine x_iconst hO (v := 4) (by decide) dX11_misread_5 ?_
    refine x_icmp_le hO (tg := 15) dX11_misread_6 (by decide) ?_ ?_
    · refine x_aload_n hO 0 rfl rfl dX11_misread_15 ?_
      refine x_getR hO fl_RX11_61 hx0 dX11_misread_16 ?_
      refine x_getI hO fl_RX11_343 (gr_11_8 hx0) dX11_misread_19 ?_
      refine x_if_eq hO (tg := 38) dX11_misread_22 (by decide) ?_ ?_
      · refine x_aload_n hO 0 rfl rfl dX11_misread_38 ?_
        refine x_bipush hO (v := 6) (by decide) dX11_misread_39 ?_
        refine y_HI (x_callV hO lv_RX11_119 hx0 vc_11 (by decide) (As := [.int ((6 : Int32))]) rfl (Nat.le_of_ble_eq_true rfl) (ok_X11_refuse (cG Γ) h x0 ((6 : Int32)) hx0) dX11_misread_41 rfl (Nat.le_of_ble_eq_true rfl)) (fun r2 => ?_)
        exact x_iret hO rfl dX11_misread_44 (hR _)
      · refine x_iload_n hO 1 rfl rfl dX11_misread_25 ?_
        refine x_iconst hO (v := 2) (by decide) dX11_misread_26 ?_
        refine x_aload_n hO 0 rfl rfl dX11_misread_27 ?_
        refine x_getR hO fl_RX11_61 hx0 dX11_misread_28 ?_
        refine x_getI hO fl_RX11_340 (gr_11_8 hx0) dX11_misread_31 ?_
        refine x_imul hO dX11_misread_34 ?_
        refine x_icmp_le hO (tg := 45) dX11_misread_35 (by decide) ?_ ?_
        · refine x_aload_n hO 0 rfl rfl dX11_misread_45 ?_
          refine x_iload_n hO 1 rfl rfl dX11_misread_46 ?_
          refine x_if_ne hO (tg := 60) dX11_misread_47 (by decide) ?_ ?_
          · refine x_aload_n hO 0 rfl rfl dX11_misread_60 ?_
            refine x_getR hO fl_RX11_61 hx0 dX11_misread_61 ?_
            refine x_getR hO fl_RX11_347 (gr_11_8 hx0) dX11_misread_64 ?_
            refine x_iload_n hO 1 rfl rfl dX11_misread_67 ?_
            refine x_iconst hO (v := 1) (by decide) dX11_misread_68 ?_
            refine x_isub hO dX11_misread_69 ?_
            refine x_iald hO (gr_4_3 (gr_11_8 hx0)) dX11_misread_70 ?_
            refine y_HI (x_callV hO lv_RX11_157 hx0 vc_11 (by decide) (As := [.int (hI h (GR (GR x0 8) 3) (nx (x1 - ((1 : Int32)))))]) rfl (Nat.le_of_ble_eq_true rfl) (ok_X11_answer (cG Γ) h x0 (hI h (GR (GR x0 8) 3) (nx (x1 - ((1 : Int32))))) hx0) dX11_misread_71 rfl (Nat.le_of_ble_eq_true rfl)) (fun r3 => ?_)
            exact x_iret hO rfl dX11_misread_74 (hR _)
          · refine x_aload_n hO 0 rfl rfl dX11_misread_50 ?_
            refine x_getR hO fl_RX11_61 hx0 dX11_misread_51 ?_
            refine x_getI hO fl_RX11_344 (gr_11_8 hx0) dX11_misread_54 ?_
            refine x_goto hO (tg := 71) dX11_misread_57 (by decide) ?_
            refine y_HI (x_callV hO lv_RX11_157 hx0 vc_11 (by decide) (As := [.int (hI h (GR x0 8) 2)]) rfl (Nat.le_of_ble_eq_true rfl) (ok_X11_answer (cG Γ) h x0 (hI h (GR x0 8) 2) hx0) dX11_misread_71 rfl (Nat.le_of_ble_eq_true rfl)) (fun r4 => ?_)
            exact x_iret hO rfl dX11_misread_74 (hR _)
        · refine x_aload_n hO 0 rfl rfl dX11_misread_38 ?_
          refine x_bipush hO (v := 6) (by decide) dX11_misread_39 ?_
          refine y_HI (x_callV hO lv_RX11_119 hx0 vc_11 (by decide) (As := [.int ((6 : Int32))]) rfl (Nat.le_of_ble_eq_true rfl) (ok_X11_refuse (cG Γ) h x0 ((6 : Int32)) hx0) dX11_misread_41 rfl (Nat.le_of_ble_eq_true rfl)) (fun r5 => ?_)
          exact x_iret hO rfl dX11_misread_44 (hR _)
    · refine x_aload_n hO 0 rfl rfl dX11_misread_9 ?_
      refine x_iconst hO (v := 1) (by decide) dX11_misread_10 ?_
      refine y_HI (x_callV hO lv_RX11_119 hx0 vc_11 (by decide) (As := [.int ((1 : Int32))]) rfl (Nat.le_of_ble_eq_true rfl) (ok_X11_refuse (cG Γ) h x0 ((1 : Int32)) hx0) dX11_misread_11 rfl (Nat.le_of_ble_eq_true rfl)) (fun r6 => ?_)
      exact x_iret hO rfl dX11_misread_14 (hR _)
theorem ok_X11_misread (G : Gl) (h : Hp) (x0 : Nat) (x1 : Int32) (hx0 : Is x0 11) : CN G mX11_misread [.ref (gb G + x0), .int x1] h ((F_X11_misread h x0 x1).map (emHI)) := CN.fn pn_RX11 (Nat.le_of_ble_eq_true rfl) (fun Γ hG hO => by subst hG; exact go_X11_misread hO h x0 x1 hx0 (fun _ q => q))
noncomputable def F_X11_parted (h : Hp) (x0 : Nat) (x1 : Int32) : Option (Hp × Int32) :=
  if (hI h (GR x0 9) 0) = 0 then (F_X11_refuse h x0 ((6 : Int32))).bind (fun r1 => some ((r1.1, r1.2))) else if (hI h (GR x0 9) 2) = 0 then (F_X11_refuse h x0 ((6 : Int32))).bind (fun r5 => some ((r5.1, r5.2))) else if x1 < 0 then (F_X11_refuse h x0 ((1 : Int32))).bind (fun r2 => some ((r2.1, r2.2))) else if x1 < (hI h (GR x0 9) 1) then gd (ib x1 (LEN (GR (GR x0 9) 3))) ((F_X11_answer h x0 (hI h (GR (GR x0 9) 3) (nx x1))).bind (fun r3 => some ((r3.1, r3.2)))) else (F_X11_refuse h x0 ((1 : Int32))).bind (fun r4 => some ((r4.1, r4.2)))
set_option maxHeartbeats 4000000 in
set_option maxRecDepth 100000 in
theorem go_X11_parted {Γ : Cx} (hO : Ok Γ mX11_parted) (h : Hp) (x0 : Nat) (x1 : Int32) (hx0 : Is x0 11) {K : Hp × Int32 → Prop} (hR : ∀ r, K r → emHI r = tgt Γ) : EG Γ mX11_parted 0 [(0, rf Γ x0), (1, .int x1)] [] h (F_X11_parted h x0 x1) K := by
  unfold F_X11_parted
  refine x_aload_n hO 0 rfl rfl dX11_parted_0 ?_
  refine x_getR hO fl_RX11_68 hx0 dX11_parted_1 ?_
  refine x_getI hO fl_RX11_353 (gr_11_9 hx0) dX11_parted_4 ?_
  refine x_if_eq hO (tg := 20) dX11_parted_7 (by decide) ?_ ?_
  · refine x_aload_n hO 0 rfl rfl dX11_parted_20 ?_
    refine x_bipush hO (v := 6) (by decide) dX11_parted_21 ?_
    refine y_HI (x_callV hO lv_RX11_119 hx0 vc_11 (by decide) (As := [.int ((6 : Int32))]) rfl (Nat.le_of_ble_eq_true rfl) (ok_X11_refuse (cG Γ) h x0 ((6 : Int32)) hx0) dX11_parted_23 rfl (Nat.le_of_ble_eq_true rfl)) (fun r1 => ?_)
    exact x_iret hO rfl dX11_parted_26 (hR _)
  · refine x_aload_n hO 0 rfl rfl dX11_parted_10 ?_
    refine x_getR hO fl_RX11_68 hx0 dX11_parted_11 ?_
    refine x_getI hO fl_RX11_354 (gr_11_9 hx0) dX11_parted_14 ?_
    refine x_if_ne hO (tg := 27) dX11_parted_17 (by decide) ?_ ?_
    · refine x_iload_n hO 1 rfl rfl dX11_parted_27 ?_
      refine x_if_lt hO (tg := 42) dX11_parted_28 (by decide) ?_ ?_
      · refine x_aload_n hO 0 rfl rfl dX11_parted_42 ?_
        refine x_iconst hO (v := 1) (by decide) dX11_parted_43 ?_
        refine y_HI (x_callV hO lv_RX11_119 hx0 vc_11 (by decide) (As := [.int ((1 : Int32))]) rfl (Nat.le_of_ble_eq_true rfl) (ok_X11_refuse (cG Γ) h x0 ((1 : Int32)) hx0) dX11_parted_44 rfl (Nat.le_of_ble_eq_true rfl)) (fun r2 => ?_)
        exact x_iret hO rfl dX11_parted_47 (hR _)
      · refine x_iload_n hO 1 rfl rfl dX11_parted_31 ?_
        refine x_aload_n hO 0 rfl rfl dX11_parted_32 ?_
        refine x_getR hO fl_RX11_68 hx0 dX11_parted_33 ?_
        refine x_getI hO fl_RX11_357 (gr_11_9 hx0) dX11_parted_36 ?_
        refine x_icmp_lt hO (tg := 48) dX11_parted_39 (by decide) ?_ ?_
        · refine x_aload_n hO 0 rfl rfl dX11_parted_48 ?_
          refine x_aload_n hO 0 rfl rfl dX11_parted_49 ?_
          refine x_getR hO fl_RX11_68 hx0 dX11_parted_50 ?_
          refine x_getR hO fl_RX11_358 (gr_11_9 hx0) dX11_parted_53 ?_
          refine x_iload_n hO 1 rfl rfl dX11_parted_56 ?_
          refine x_iald hO (gr_5_3 (gr_11_9 hx0)) dX11_parted_57 ?_
          refine y_HI (x_callV hO lv_RX11_157 hx0 vc_11 (by decide) (As := [.int (hI h (GR (GR x0 9) 3) (nx x1))]) rfl (Nat.le_of_ble_eq_true rfl) (ok_X11_answer (cG Γ) h x0 (hI h (GR (GR x0 9) 3) (nx x1)) hx0) dX11_parted_58 rfl (Nat.le_of_ble_eq_true rfl)) (fun r3 => ?_)
          exact x_iret hO rfl dX11_parted_61 (hR _)
        · refine x_aload_n hO 0 rfl rfl dX11_parted_42 ?_
          refine x_iconst hO (v := 1) (by decide) dX11_parted_43 ?_
          refine y_HI (x_callV hO lv_RX11_119 hx0 vc_11 (by decide) (As := [.int ((1 : Int32))]) rfl (Nat.le_of_ble_eq_true rfl) (ok_X11_refuse (cG Γ) h x0 ((1 : Int32)) hx0) dX11_parted_44 rfl (Nat.le_of_ble_eq_true rfl)) (fun r4 => ?_)
          exact x_iret hO rfl dX11_parted_47 (hR _)
    · refine x_aload_n hO 0 rfl rfl dX11_parted_20 ?_
      refine x_bipush hO (v := 6) (by decide) dX11_parted_21 ?_
      refine y_HI (x_callV hO lv_RX11_119 hx0 vc_11 (by decide) (As := [.int ((6 : Int32))]) rfl (Nat.le_of_ble_eq_true rfl) (ok_X11_refuse (cG Γ) h x0 ((6 : Int32)) hx0) dX11_parted_23 rfl (Nat.le_of_ble_eq_true rfl)) (fun r5 => ?_)
      exact x_iret hO rfl dX11_parted_26 (hR _)
theorem ok_X11_parted (G : Gl) (h : Hp) (x0 : Nat) (x1 : Int32) (hx0 : Is x0 11) : CN G mX11_parted [.ref (gb G + x0), .int x1] h ((F_X11_parted h x0 x1).map (emHI)) := CN.fn pn_RX11 (Nat.le_of_ble_eq_true rfl) (fun Γ hG hO => by subst hG; exact go_X11_parted hO h x0 x1 hx0 (fun _ q => q))
noncomputable def F_X11_placeStatus (h : Hp) (x0 : Nat) (x1 : Int32) (x2 : Int32) : Option (Int32) :=
  (F_X11_isTray h x1).bind (fun r1 => if r1 = 0 then some ((1 : Int32)) else gd (ib x1 (LEN (GR x0 0))) (if (hI h (GR (GR x0 0) (nx x1)) 0) = 0 then if x2 < 0 then some ((3 : Int32)) else gd (ib x1 (LEN (GR x0 0))) (if (hI h (GR (GR x0 0) (nx x1)) 2) ≤ x2 then some ((3 : Int32)) else some ((0 : Int32))) else some ((2 : Int32))))
set_option maxHeartbeats 4000000 in
set_option maxRecDepth 100000 in
theorem go_X11_placeStatus {Γ : Cx} (hO : Ok Γ mX11_placeStatus) (h : Hp) (x0 : Nat) (x1 : Int32) (x2 : Int32) (hx0 : Is x0 11) {K : Int32 → Prop} (hR : ∀ r, K r → emPI h r = tgt Γ) : EG Γ mX11_placeStatus 0 [(0, rf Γ x0), (1, .int x1), (2, .int x2)] [] h (F_X11_placeStatus h x0 x1 x2) K := by
  unfold F_X11_placeStatus
  refine x_iload_n hO 1 rfl rfl dX11_placeStatus_0 ?_
  refine y_PI (x_callS hO lt_RX11_96 (As := [.int x1]) rfl (Nat.le_of_ble_eq_true rfl) (ok_X11_isTray (cG Γ) h x1) dX11_placeStatus_1 rfl (Nat.le_of_ble_eq_true rfl)) (fun r1 => ?_)
  refine x_if_ne hO (tg := 9) dX11_placeStatus_4 (by decide) ?_ ?_
  · refine x_aload_n hO 0 rfl rfl dX11_placeStatus_9 ?_
    refine x_getR hO fl_RX11_11 hx0 dX11_placeStatus_10 ?_
    refine x_iload_n hO 1 rfl rfl dX11_placeStatus_13 ?_
    refine x_aaldT hO (gr_11_0 hx0) dX11_placeStatus_14 (fun q2 => ?_)
    refine x_getI hO fl_RX11_127 q2 dX11_placeStatus_15 ?_
    refine x_if_eq hO (tg := 23) dX11_placeStatus_18 (by decide) ?_ ?_
    · refine x_iload_n hO 2 rfl rfl dX11_placeStatus_23 ?_
      refine x_if_lt hO (tg := 44) dX11_placeStatus_24 (by decide) ?_ ?_
      · refine x_iconst hO (v := 3) (by decide) dX11_placeStatus_44 ?_
        exact x_iret hO rfl dX11_placeStatus_45 (hR _)
      · refine x_iload_n hO 2 rfl rfl dX11_placeStatus_27 ?_
        refine x_aload_n hO 0 rfl rfl dX11_placeStatus_28 ?_
        refine x_getR hO fl_RX11_11 hx0 dX11_placeStatus_29 ?_
        refine x_iload_n hO 1 rfl rfl dX11_placeStatus_32 ?_
        refine x_aaldT hO (gr_11_0 hx0) dX11_placeStatus_33 (fun q3 => ?_)
        refine x_getI hO fl_RX11_398 q3 dX11_placeStatus_34 ?_
        refine x_icmp_ge hO (tg := 44) dX11_placeStatus_37 (by decide) ?_ ?_
        · refine x_iconst hO (v := 3) (by decide) dX11_placeStatus_44 ?_
          exact x_iret hO rfl dX11_placeStatus_45 (hR _)
        · refine x_iconst hO (v := 0) (by decide) dX11_placeStatus_40 ?_
          refine x_goto hO (tg := 45) dX11_placeStatus_41 (by decide) ?_
          exact x_iret hO rfl dX11_placeStatus_45 (hR _)
    · refine x_iconst hO (v := 2) (by decide) dX11_placeStatus_21 ?_
      exact x_iret hO rfl dX11_placeStatus_22 (hR _)
  · refine x_iconst hO (v := 1) (by decide) dX11_placeStatus_7 ?_
    exact x_iret hO rfl dX11_placeStatus_8 (hR _)
theorem ok_X11_placeStatus (G : Gl) (h : Hp) (x0 : Nat) (x1 : Int32) (x2 : Int32) (hx0 : Is x0 11) : CN G mX11_placeStatus [.ref (gb G + x0), .int x1, .int x2] h ((F_X11_placeStatus h x0 x1 x2).map (emPI h)) := CN.fn pn_RX11 (Nat.le_of_ble_eq_true rfl) (fun Γ hG hO => by subst hG; exact go_X11_placeStatus hO h x0 x1 x2 hx0 (fun _ q => q))
noncomputable def F_X11_planned (h : Hp) (x0 : Nat) (x1 : Int32) : Option (Hp × Int32) :=
  if ((-1 : Int32)) ≤ x1 then if (hI h (GR x0 7) 7) = 0 then (F_X11_refuse h x0 ((6 : Int32))).bind (fun r1 => some ((r1.1, r1.2))) else if x1 < (hI h (GR x0 7) 8) then if x1 = ((-1 : Int32)) then (F_X11_answer h x0 (hI h (GR x0 7) 9)).bind (fun r3 => some ((r3.1, r3.2))) else gd (ib x1 (LEN (GR (GR x0 7) 10))) ((F_X11_answer h x0 (hI h (GR (GR x0 7) 10) (nx x1))).bind (fun r2 => some ((r2.1, r2.2)))) else (F_X11_refuse h x0 ((6 : Int32))).bind (fun r4 => some ((r4.1, r4.2))) else (F_X11_refuse h x0 ((1 : Int32))).bind (fun r5 => some ((r5.1, r5.2)))
set_option maxHeartbeats 4000000 in
set_option maxRecDepth 100000 in
theorem go_X11_planned {Γ : Cx} (hO : Ok Γ mX11_planned) (h : Hp) (x0 : Nat) (x1 : Int32) (hx0 : Is x0 11) {K : Hp × Int32 → Prop} (hR : ∀ r, K r → emHI r = tgt Γ) : EG Γ mX11_planned 0 [(0, rf Γ x0), (1, .int x1)] [] h (F_X11_planned h x0 x1) K := by
  unfold F_X11_planned
  refine x_iload_n hO 1 rfl rfl dX11_planned_0 ?_
  refine x_iconst hO (v := -1) (by decide) dX11_planned_1 ?_
  refine x_icmp_ge hO (tg := 11) dX11_planned_2 (by decide) ?_ ?_
  · refine x_aload_n hO 0 rfl rfl dX11_planned_11 ?_
    refine x_getR hO fl_RX11_54 hx0 dX11_planned_12 ?_
    refine x_getI hO fl_RX11_268 (gr_11_7 hx0) dX11_planned_15 ?_
    refine x_if_eq hO (tg := 32) dX11_planned_18 (by decide) ?_ ?_
    · refine x_aload_n hO 0 rfl rfl dX11_planned_32 ?_
      refine x_bipush hO (v := 6) (by decide) dX11_planned_33 ?_
      refine y_HI (x_callV hO lv_RX11_119 hx0 vc_11 (by decide) (As := [.int ((6 : Int32))]) rfl (Nat.le_of_ble_eq_true rfl) (ok_X11_refuse (cG Γ) h x0 ((6 : Int32)) hx0) dX11_planned_35 rfl (Nat.le_of_ble_eq_true rfl)) (fun r1 => ?_)
      exact x_iret hO rfl dX11_planned_38 (hR _)
    · refine x_iload_n hO 1 rfl rfl dX11_planned_21 ?_
      refine x_aload_n hO 0 rfl rfl dX11_planned_22 ?_
      refine x_getR hO fl_RX11_54 hx0 dX11_planned_23 ?_
      refine x_getI hO fl_RX11_265 (gr_11_7 hx0) dX11_planned_26 ?_
      refine x_icmp_lt hO (tg := 39) dX11_planned_29 (by decide) ?_ ?_
      · refine x_aload_n hO 0 rfl rfl dX11_planned_39 ?_
        refine x_iload_n hO 1 rfl rfl dX11_planned_40 ?_
        refine x_iconst hO (v := -1) (by decide) dX11_planned_41 ?_
        refine x_icmp_ne hO (tg := 55) dX11_planned_42 (by decide) ?_ ?_
        · refine x_aload_n hO 0 rfl rfl dX11_planned_55 ?_
          refine x_getR hO fl_RX11_54 hx0 dX11_planned_56 ?_
          refine x_getR hO fl_RX11_274 (gr_11_7 hx0) dX11_planned_59 ?_
          refine x_iload_n hO 1 rfl rfl dX11_planned_62 ?_
          refine x_iald hO (gr_6_10 (gr_11_7 hx0)) dX11_planned_63 ?_
          refine y_HI (x_callV hO lv_RX11_157 hx0 vc_11 (by decide) (As := [.int (hI h (GR (GR x0 7) 10) (nx x1))]) rfl (Nat.le_of_ble_eq_true rfl) (ok_X11_answer (cG Γ) h x0 (hI h (GR (GR x0 7) 10) (nx x1)) hx0) dX11_planned_64 rfl (Nat.le_of_ble_eq_true rfl)) (fun r2 => ?_)
          exact x_iret hO rfl dX11_planned_67 (hR _)
        · refine x_aload_n hO 0 rfl rfl dX11_planned_45 ?_
          refine x_getR hO fl_RX11_54 hx0 dX11_planned_46 ?_
          refine x_getI hO fl_RX11_271 (gr_11_7 hx0) dX11_planned_49 ?_
          refine x_goto hO (tg := 64) dX11_planned_52 (by decide) ?_
          refine y_HI (x_callV hO lv_RX11_157 hx0 vc_11 (by decide) (As := [.int (hI h (GR x0 7) 9)]) rfl (Nat.le_of_ble_eq_true rfl) (ok_X11_answer (cG Γ) h x0 (hI h (GR x0 7) 9) hx0) dX11_planned_64 rfl (Nat.le_of_ble_eq_true rfl)) (fun r3 => ?_)
          exact x_iret hO rfl dX11_planned_67 (hR _)
      · refine x_aload_n hO 0 rfl rfl dX11_planned_32 ?_
        refine x_bipush hO (v := 6) (by decide) dX11_planned_33 ?_
        refine y_HI (x_callV hO lv_RX11_119 hx0 vc_11 (by decide) (As := [.int ((6 : Int32))]) rfl (Nat.le_of_ble_eq_true rfl) (ok_X11_refuse (cG Γ) h x0 ((6 : Int32)) hx0) dX11_planned_35 rfl (Nat.le_of_ble_eq_true rfl)) (fun r4 => ?_)
        exact x_iret hO rfl dX11_planned_38 (hR _)
  · refine x_aload_n hO 0 rfl rfl dX11_planned_5 ?_
    refine x_iconst hO (v := 1) (by decide) dX11_planned_6 ?_
    refine y_HI (x_callV hO lv_RX11_119 hx0 vc_11 (by decide) (As := [.int ((1 : Int32))]) rfl (Nat.le_of_ble_eq_true rfl) (ok_X11_refuse (cG Γ) h x0 ((1 : Int32)) hx0) dX11_planned_7 rfl (Nat.le_of_ble_eq_true rfl)) (fun r5 => ?_)
    exact x_iret hO rfl dX11_planned_10 (hR _)
theorem ok_X11_planned (G : Gl) (h : Hp) (x0 : Nat) (x1 : Int32) (hx0 : Is x0 11) : CN G mX11_planned [.ref (gb G + x0), .int x1] h ((F_X11_planned h x0 x1).map (emHI)) := CN.fn pn_RX11 (Nat.le_of_ble_eq_true rfl) (fun Γ hG hO => by subst hG; exact go_X11_planned hO h x0 x1 hx0 (fun _ q => q))
noncomputable def F_X11_pour (h : Hp) (x0 : Nat) (x1 : Int32) (x2 : Int32) (x3 : Int32) (x4 : Int32) (x5 : Int32) : Option (Hp × Int32) :=
  (F_X11_isTray h x1).bind (fun r1 => if r1 = 0 then (F_X11_deny h x0 ((1 : Int32))).bind (fun r2 => some ((r2.1, r2.2 &&& 1))) else (F_X11_isTray h x3).bind (fun r3 => if r3 = 0 then (F_X11_deny h x0 ((1 : Int32))).bind (fun r4 => some ((r4.1, r4.2 &&& 1))) else if x2 < 0 then (F_X11_deny h x0 ((1 : Int32))).bind (fun r5 => some ((r5.1, r5.2 &&& 1))) else if x4 < 0 then (F_X11_deny h x0 ((1 : Int32))).bind (fun r6 => some ((r6.1, r6.2 &&& 1))) else if 0 ≤ x5 then gd (ib x1 (LEN (GR x0 0))) (gd (ib x3 (LEN (GR x0 0))) (if (hI h (GR (GR x0 0) (nx x1)) 0) = 0 then if (hI h (GR (GR x0 0) (nx x3)) 0) = 0 then if (hI h (GR (GR x0 0) (nx x1)) 1) = (hI h (GR (GR x0 0) (nx x3)) 1) then (F_X10_holds h (GR (GR x0 0) (nx x1)) x2 x5).bind (fun r10 => if r10 = 0 then (F_X11_deny h x0 ((3 : Int32))).bind (fun r11 => some ((r11.1, r11.2 &&& 1))) else (F_X10_holds h (GR (GR x0 0) (nx x3)) x4 x5).bind (fun r12 => if r12 = 0 then (F_X11_deny h x0 ((3 : Int32))).bind (fun r15 => some ((r15.1, r15.2 &&& 1))) else gd (cpok x2 x4 x5 (LEN (GR (GR (GR x0 0) (nx x1)) 3)) (LEN (GR (GR (GR x0 0) (nx x3)) 3))) (bnd (sL h (GR (GR (GR x0 0) (nx x3)) 3) (va_cpy (hL h (GR (GR (GR x0 0) (nx x1)) 3)) (hL h (GR (GR (GR x0 0) (nx x3)) 3)) (nx x2) (nx x4) (nx x5))) (fun h13 => (F_X11_agree h13 x0).bind (fun r14 => some ((r14.1, r14.2 &&& 1))))))) else (F_X11_deny h x0 ((8 : Int32))).bind (fun r16 => some ((r16.1, r16.2 &&& 1))) else (F_X11_deny h x0 ((2 : Int32))).bind (fun r17 => some ((r17.1, r17.2 &&& 1))) else (F_X11_deny h x0 ((2 : Int32))).bind (fun r9 => some ((r9.1, r9.2 &&& 1))))) else (F_X11_deny h x0 ((1 : Int32))).bind (fun r18 => some ((r18.1, r18.2 &&& 1)))))
set_option maxHeartbeats 4000000 in
set_option maxRecDepth 100000 in
theorem go_X11_pour {Γ : Cx} (hO : Ok Γ mX11_pour) (h : Hp) (x0 : Nat) (x1 : Int32) (x2 : Int32) (x3 : Int32) (x4 : Int32) (x5 : Int32) (hx0 : Is x0 11) {K : Hp × Int32 → Prop} (hR : ∀ r, K r → emHI r = tgt Γ) : EG Γ mX11_pour 0 [(0, rf Γ x0), (1, .int x1), (2, .int x2), (3, .int x3), (4, .int x4), (5, .int x5)] [] h (F_X11_pour h x0 x1 x2 x3 x4 x5) K := by
  unfold F_X11_pour
  refine x_iload_n hO 1 rfl rfl dX11_pour_0 ?_
  refine y_PI (x_callS hO lt_RX11_96 (As := [.int x1]) rfl (Nat.le_of_ble_eq_true rfl) (ok_X11_isTray (cG Γ) h x1) dX11_pour_1 rfl (Nat.le_of_ble_eq_true rfl)) (fun r1 => ?_)
  refine x_if_eq hO (tg := 28) dX11_pour_4 (by decide) ?_ ?_
  · refine x_aload_n hO 0 rfl rfl dX11_pour_28 ?_
    refine x_iconst hO (v := 1) (by decide) dX11_pour_29 ?_
    refine y_HI (x_callV hO lv_RX11_100 hx0 vc_11 (by decide) (As := [.int ((1 : Int32))]) rfl (Nat.le_of_ble_eq_true rfl) (ok_X11_deny (cG Γ) h x0 ((1 : Int32)) hx0) dX11_pour_30 rfl (Nat.le_of_ble_eq_true rfl)) (fun r2 => ?_)
    exact x_zret hO rfl dX11_pour_33 (hR _)
  · refine x_iload_n hO 3 rfl rfl dX11_pour_7 ?_
    refine y_PI (x_callS hO lt_RX11_96 (As := [.int x3]) rfl (Nat.le_of_ble_eq_true rfl) (ok_X11_isTray (cG Γ) h x3) dX11_pour_8 rfl (Nat.le_of_ble_eq_true rfl)) (fun r3 => ?_)
    refine x_if_eq hO (tg := 28) dX11_pour_11 (by decide) ?_ ?_
    · refine x_aload_n hO 0 rfl rfl dX11_pour_28 ?_
      refine x_iconst hO (v := 1) (by decide) dX11_pour_29 ?_
      refine y_HI (x_callV hO lv_RX11_100 hx0 vc_11 (by decide) (As := [.int ((1 : Int32))]) rfl (Nat.le_of_ble_eq_true rfl) (ok_X11_deny (cG Γ) h x0 ((1 : Int32)) hx0) dX11_pour_30 rfl (Nat.le_of_ble_eq_true rfl)) (fun r4 => ?_)
      exact x_zret hO rfl dX11_pour_33 (hR _)
    · refine x_iload_n hO 2 rfl rfl dX11_pour_14 ?_
      refine x_if_lt hO (tg := 28) dX11_pour_15 (by decide) ?_ ?_
      · refine x_aload_n hO 0 rfl rfl dX11_pour_28 ?_
        refine x_iconst hO (v := 1) (by decide) dX11_pour_29 ?_
        refine y_HI (x_callV hO lv_RX11_100 hx0 vc_11 (by decide) (As := [.int ((1 : Int32))]) rfl (Nat.le_of_ble_eq_true rfl) (ok_X11_deny (cG Γ) h x0 ((1 : Int32)) hx0) dX11_pour_30 rfl (Nat.le_of_ble_eq_true rfl)) (fun r5 => ?_)
        exact x_zret hO rfl dX11_pour_33 (hR _)
      · refine x_iload hO 4 rfl dX11_pour_18 ?_
        refine x_if_lt hO (tg := 28) dX11_pour_20 (by decide) ?_ ?_
        · refine x_aload_n hO 0 rfl rfl dX11_pour_28 ?_
          refine x_iconst hO (v := 1) (by decide) dX11_pour_29 ?_
          refine y_HI (x_callV hO lv_RX11_100 hx0 vc_11 (by decide) (As := [.int ((1 : Int32))]) rfl (Nat.le_of_ble_eq_true rfl) (ok_X11_deny (cG Γ) h x0 ((1 : Int32)) hx0) dX11_pour_30 rfl (Nat.le_of_ble_eq_true rfl)) (fun r6 => ?_)
          exact x_zret hO rfl dX11_pour_33 (hR _)
        · refine x_iload hO 5 rfl dX11_pour_23 ?_
          refine x_if_ge hO (tg := 34) dX11_pour_25 (by decide) ?_ ?_
          · refine x_aload_n hO 0 rfl rfl dX11_pour_34 ?_
            refine x_getR hO fl_RX11_11 hx0 dX11_pour_35 ?_
            refine x_iload_n hO 1 rfl rfl dX11_pour_38 ?_
            refine x_aaldT hO (gr_11_0 hx0) dX11_pour_39 (fun q7 => ?_)
            refine x_astore hO [(6, rf Γ (GR (GR x0 0) (nx x1))), (0, rf Γ x0), (1, .int x1), (2, .int x2), (3, .int x3), (4, .int x4), (5, .int x5)] dX11_pour_40 (by decide) rfl ?_
            refine x_aload_n hO 1 rfl rfl dX11_pour_42 ?_
            refine x_getR hO fl_RX11_11 hx0 dX11_pour_43 ?_
            refine x_iload_n hO 4 rfl rfl dX11_pour_46 ?_
            refine x_aaldT hO (gr_11_0 hx0) dX11_pour_47 (fun q8 => ?_)
            refine x_astore hO [(7, rf Γ (GR (GR x0 0) (nx x3))), (6, rf Γ (GR (GR x0 0) (nx x1))), (0, rf Γ x0), (1, .int x1), (2, .int x2), (3, .int x3), (4, .int x4), (5, .int x5)] dX11_pour_48 (by decide) rfl ?_
            refine x_aload hO 1 rfl dX11_pour_50 ?_
            refine x_getI hO fl_RX11_127 q7 dX11_pour_52 ?_
            refine x_if_ne hO (tg := 66) dX11_pour_55 (by decide) ?_ ?_
            · refine x_aload_n hO 2 rfl rfl dX11_pour_66 ?_
              refine x_iconst hO (v := 2) (by decide) dX11_pour_67 ?_
              refine y_HI (x_callV hO lv_RX11_100 hx0 vc_11 (by decide) (As := [.int ((2 : Int32))]) rfl (Nat.le_of_ble_eq_true rfl) (ok_X11_deny (cG Γ) h x0 ((2 : Int32)) hx0) dX11_pour_68 rfl (Nat.le_of_ble_eq_true rfl)) (fun r9 => ?_)
              exact x_zret hO rfl dX11_pour_71 (hR _)
            · refine x_aload hO 0 rfl dX11_pour_58 ?_
              refine x_getI hO fl_RX11_127 q8 dX11_pour_60 ?_
              refine x_if_eq hO (tg := 72) dX11_pour_63 (by decide) ?_ ?_
              · refine x_aload hO 1 rfl dX11_pour_72 ?_
                refine x_getI hO fl_RX11_131 q7 dX11_pour_74 ?_
                refine x_aload hO 0 rfl dX11_pour_77 ?_
                refine x_getI hO fl_RX11_131 q8 dX11_pour_79 ?_
                refine x_icmp_eq hO (tg := 92) dX11_pour_82 (by decide) ?_ ?_
                · refine x_aload hO 1 rfl dX11_pour_92 ?_
                  refine x_iload_n hO 4 rfl rfl dX11_pour_94 ?_
                  refine x_iload hO 7 rfl dX11_pour_95 ?_
                  refine y_PI (x_callV hO lv_RX11_134 q7 vc_10 (by decide) (As := [.int x2, .int x5]) rfl (Nat.le_of_ble_eq_true rfl) (ok_X10_holds (cG Γ) h (GR (GR x0 0) (nx x1)) x2 x5 q7) dX11_pour_97 rfl (Nat.le_of_ble_eq_true rfl)) (fun r10 => ?_)
                  refine x_if_eq hO (tg := 115) dX11_pour_100 (by decide) ?_ ?_
                  · refine x_aload_n hO 2 rfl rfl dX11_pour_115 ?_
                    refine x_iconst hO (v := 3) (by decide) dX11_pour_116 ?_
                    refine y_HI (x_callV hO lv_RX11_100 hx0 vc_11 (by decide) (As := [.int ((3 : Int32))]) rfl (Nat.le_of_ble_eq_true rfl) (ok_X11_deny (cG Γ) h x0 ((3 : Int32)) hx0) dX11_pour_117 rfl (Nat.le_of_ble_eq_true rfl)) (fun r11 => ?_)
                    exact x_zret hO rfl dX11_pour_120 (hR _)
                  · refine x_aload hO 0 rfl dX11_pour_103 ?_
                    refine x_iload hO 6 rfl dX11_pour_105 ?_
                    refine x_iload hO 7 rfl dX11_pour_107 ?_
                    refine y_PI (x_callV hO lv_RX11_134 q8 vc_10 (by decide) (As := [.int x4, .int x5]) rfl (Nat.le_of_ble_eq_true rfl) (ok_X10_holds (cG Γ) h (GR (GR x0 0) (nx x3)) x4 x5 q8) dX11_pour_109 rfl (Nat.le_of_ble_eq_true rfl)) (fun r12 => ?_)
                    refine x_if_ne hO (tg := 121) dX11_pour_112 (by decide) ?_ ?_
                    · refine x_aload hO 1 rfl dX11_pour_121 ?_
                      refine x_getR hO fl_RX11_123 q7 dX11_pour_123 ?_
                      refine x_iload_n hO 4 rfl rfl dX11_pour_126 ?_
                      refine x_aload hO 0 rfl dX11_pour_127 ?_
                      refine x_getR hO fl_RX11_123 q8 dX11_pour_129 ?_
                      refine x_iload hO 6 rfl dX11_pour_132 ?_
                      refine x_iload hO 7 rfl dX11_pour_134 ?_
                      refine x_copyL hO lc_RX11_138 (gr_10_3 q7) (gr_10_3 q8) (Nat.le_of_ble_eq_true rfl) (Nat.le_of_ble_eq_true rfl) dX11_pour_136 ?_
                      refine x_bnd ?_
                      generalize sL h (GR (GR (GR x0 0) (nx x3)) 3) (va_cpy (hL h (GR (GR (GR x0 0) (nx x1)) 3)) (hL h (GR (GR (GR x0 0) (nx x3)) 3)) (nx x2) (nx x4) (nx x5)) = h13
                      refine x_aload_n hO 2 rfl rfl dX11_pour_139 ?_
                      refine y_HI (x_callV hO lv_RX11_107 hx0 vc_11 (by decide) (As := []) rfl (Nat.le_of_ble_eq_true rfl) (ok_X11_agree (cG Γ) h13 x0 hx0) dX11_pour_140 rfl (Nat.le_of_ble_eq_true rfl)) (fun r14 => ?_)
                      exact x_zret hO rfl dX11_pour_143 (hR _)
                    · refine x_aload_n hO 2 rfl rfl dX11_pour_115 ?_
                      refine x_iconst hO (v := 3) (by decide) dX11_pour_116 ?_
                      refine y_HI (x_callV hO lv_RX11_100 hx0 vc_11 (by decide) (As := [.int ((3 : Int32))]) rfl (Nat.le_of_ble_eq_true rfl) (ok_X11_deny (cG Γ) h x0 ((3 : Int32)) hx0) dX11_pour_117 rfl (Nat.le_of_ble_eq_true rfl)) (fun r15 => ?_)
                      exact x_zret hO rfl dX11_pour_120 (hR _)
                · refine x_aload_n hO 2 rfl rfl dX11_pour_85 ?_
                  refine x_bipush hO (v := 8) (by decide) dX11_pour_86 ?_
                  refine y_HI (x_callV hO lv_RX11_100 hx0 vc_11 (by decide) (As := [.int ((8 : Int32))]) rfl (Nat.le_of_ble_eq_true rfl) (ok_X11_deny (cG Γ) h x0 ((8 : Int32)) hx0) dX11_pour_88 rfl (Nat.le_of_ble_eq_true rfl)) (fun r16 => ?_)
                  exact x_zret hO rfl dX11_pour_91 (hR _)
              · refine x_aload_n hO 2 rfl rfl dX11_pour_66 ?_
                refine x_iconst hO (v := 2) (by decide) dX11_pour_67 ?_
                refine y_HI (x_callV hO lv_RX11_100 hx0 vc_11 (by decide) (As := [.int ((2 : Int32))]) rfl (Nat.le_of_ble_eq_true rfl) (ok_X11_deny (cG Γ) h x0 ((2 : Int32)) hx0) dX11_pour_68 rfl (Nat.le_of_ble_eq_true rfl)) (fun r17 => ?_)
                exact x_zret hO rfl dX11_pour_71 (hR _)
          · refine x_aload_n hO 0 rfl rfl dX11_pour_28 ?_
            refine x_iconst hO (v := 1) (by decide) dX11_pour_29 ?_
            refine y_HI (x_callV hO lv_RX11_100 hx0 vc_11 (by decide) (As := [.int ((1 : Int32))]) rfl (Nat.le_of_ble_eq_true rfl) (ok_X11_deny (cG Γ) h x0 ((1 : Int32)) hx0) dX11_pour_30 rfl (Nat.le_of_ble_eq_true rfl)) (fun r18 => ?_)
            exact x_zret hO rfl dX11_pour_33 (hR _)
theorem ok_X11_pour (G : Gl) (h : Hp) (x0 : Nat) (x1 : Int32) (x2 : Int32) (x3 : Int32) (x4 : Int32) (x5 : Int32) (hx0 : Is x0 11) : CN G mX11_pour [.ref (gb G + x0), .int x1, .int x2, .int x3, .int x4, .int x5] h ((F_X11_pour h x0 x1 x2 x3 x4 x5).map (emHI)) := CN.fn pn_RX11 (Nat.le_of_ble_eq_true rfl) (fun Γ hG hO => by subst hG; exact go_X11_pour hO h x0 x1 x2 x3 x4 x5 hx0 (fun _ q => q))
noncomputable def F_X11_ran (h : Hp) (x0 : Nat) (x1 : Int32) : Option (Hp × Int64) :=
  if x1 < 0 then (F_X11_refuse h x0 ((1 : Int32))).bind (fun r1 => some ((r1.1, r1.2.toInt64))) else if x1 ≤ ((2 : Int32)) then if (hI h (GR x0 6) 3) = 0 then (F_X11_refuse h x0 ((6 : Int32))).bind (fun r2 => some ((r2.1, r2.2.toInt64))) else if x1 = 0 then some ((uI h x0 10 ((0 : Int32)), hL (uI h x0 10 ((0 : Int32))) (GR x0 6) 4)) else if x1 = ((1 : Int32)) then some ((uI h x0 10 ((0 : Int32)), (hI (uI h x0 10 ((0 : Int32))) (GR x0 6) 5).toInt64)) else if (hI (uI h x0 10 ((0 : Int32))) (GR x0 6) 6) = 0 then some ((uI h x0 10 ((0 : Int32)), (0 : Int64))) else some ((uI h x0 10 ((0 : Int32)), (1 : Int64))) else (F_X11_refuse h x0 ((1 : Int32))).bind (fun r3 => some ((r3.1, r3.2.toInt64)))
set_option maxHeartbeats 4000000 in
set_option maxRecDepth 100000 in
theorem go_X11_ran {Γ : Cx} (hO : Ok Γ mX11_ran) (h : Hp) (x0 : Nat) (x1 : Int32) (hx0 : Is x0 11) {K : Hp × Int64 → Prop} (hR : ∀ r, K r → emHL r = tgt Γ) : EG Γ mX11_ran 0 [(0, rf Γ x0), (1, .int x1)] [] h (F_X11_ran h x0 x1) K := by
  unfold F_X11_ran
  refine x_iload_n hO 1 rfl rfl dX11_ran_0 ?_
  refine x_if_lt hO (tg := 9) dX11_ran_1 (by decide) ?_ ?_
  · refine x_aload_n hO 0 rfl rfl dX11_ran_9 ?_
    refine x_iconst hO (v := 1) (by decide) dX11_ran_10 ?_
    refine y_HI (x_callV hO lv_RX11_119 hx0 vc_11 (by decide) (As := [.int ((1 : Int32))]) rfl (Nat.le_of_ble_eq_true rfl) (ok_X11_refuse (cG Γ) h x0 ((1 : Int32)) hx0) dX11_ran_11 rfl (Nat.le_of_ble_eq_true rfl)) (fun r1 => ?_)
    refine x_i2l hO dX11_ran_14 ?_
    exact x_lret hO rfl dX11_ran_15 (hR _)
  · refine x_iload_n hO 1 rfl rfl dX11_ran_4 ?_
    refine x_iconst hO (v := 2) (by decide) dX11_ran_5 ?_
    refine x_icmp_le hO (tg := 16) dX11_ran_6 (by decide) ?_ ?_
    · refine x_aload_n hO 0 rfl rfl dX11_ran_16 ?_
      refine x_getR hO fl_RX11_47 hx0 dX11_ran_17 ?_
      refine x_getI hO fl_RX11_329 (gr_11_6 hx0) dX11_ran_20 ?_
      refine x_if_ne hO (tg := 34) dX11_ran_23 (by decide) ?_ ?_
      · refine x_aload_n hO 0 rfl rfl dX11_ran_34 ?_
        refine x_iconst hO (v := 0) (by decide) dX11_ran_35 ?_
        refine x_putI hO fl_RX11_72 hx0 dX11_ran_36 ?_
        refine x_iload_n hO 1 rfl rfl dX11_ran_39 ?_
        refine x_if_ne hO (tg := 51) dX11_ran_40 (by decide) ?_ ?_
        · refine x_iload_n hO 1 rfl rfl dX11_ran_51 ?_
          refine x_iconst hO (v := 1) (by decide) dX11_ran_52 ?_
          refine x_icmp_ne hO (tg := 67) dX11_ran_53 (by decide) ?_ ?_
          · refine x_aload_n hO 0 rfl rfl dX11_ran_67 ?_
            refine x_getR hO fl_RX11_47 hx0 dX11_ran_68 ?_
            refine x_getI hO fl_RX11_334 (gr_11_6 hx0) dX11_ran_71 ?_
            refine x_if_eq hO (tg := 81) dX11_ran_74 (by decide) ?_ ?_
            · refine x_lconst hO (v := 0) (by decide) dX11_ran_81 ?_
              exact x_lret hO rfl dX11_ran_82 (hR _)
            · refine x_lconst hO (v := 1) (by decide) dX11_ran_77 ?_
              refine x_goto hO (tg := 82) dX11_ran_78 (by decide) ?_
              exact x_lret hO rfl dX11_ran_82 (hR _)
          · refine x_aload_n hO 0 rfl rfl dX11_ran_56 ?_
            refine x_getR hO fl_RX11_47 hx0 dX11_ran_57 ?_
            refine x_getI hO fl_RX11_333 (gr_11_6 hx0) dX11_ran_60 ?_
            refine x_i2l hO dX11_ran_63 ?_
            refine x_goto hO (tg := 82) dX11_ran_64 (by decide) ?_
            exact x_lret hO rfl dX11_ran_82 (hR _)
        · refine x_aload_n hO 0 rfl rfl dX11_ran_43 ?_
          refine x_getR hO fl_RX11_47 hx0 dX11_ran_44 ?_
          refine x_getL hO fl_RX11_330 (gr_11_6 hx0) dX11_ran_47 ?_
          exact x_lret hO rfl dX11_ran_50 (hR _)
      · refine x_aload_n hO 0 rfl rfl dX11_ran_26 ?_
        refine x_bipush hO (v := 6) (by decide) dX11_ran_27 ?_
        refine y_HI (x_callV hO lv_RX11_119 hx0 vc_11 (by decide) (As := [.int ((6 : Int32))]) rfl (Nat.le_of_ble_eq_true rfl) (ok_X11_refuse (cG Γ) h x0 ((6 : Int32)) hx0) dX11_ran_29 rfl (Nat.le_of_ble_eq_true rfl)) (fun r2 => ?_)
        refine x_i2l hO dX11_ran_32 ?_
        exact x_lret hO rfl dX11_ran_33 (hR _)
    · refine x_aload_n hO 0 rfl rfl dX11_ran_9 ?_
      refine x_iconst hO (v := 1) (by decide) dX11_ran_10 ?_
      refine y_HI (x_callV hO lv_RX11_119 hx0 vc_11 (by decide) (As := [.int ((1 : Int32))]) rfl (Nat.le_of_ble_eq_true rfl) (ok_X11_refuse (cG Γ) h x0 ((1 : Int32)) hx0) dX11_ran_11 rfl (Nat.le_of_ble_eq_true rfl)) (fun r3 => ?_)
      refine x_i2l hO dX11_ran_14 ?_
      exact x_lret hO rfl dX11_ran_15 (hR _)
theorem ok_X11_ran (G : Gl) (h : Hp) (x0 : Nat) (x1 : Int32) (hx0 : Is x0 11) : CN G mX11_ran [.ref (gb G + x0), .int x1] h ((F_X11_ran h x0 x1).map (emHL)) := CN.fn pn_RX11 (Nat.le_of_ble_eq_true rfl) (fun Γ hG hO => by subst hG; exact go_X11_ran hO h x0 x1 hx0 (fun _ q => q))
noncomputable def B_X12_ahead_0 (h : Hp) (x0 : Nat) : Option ((Hp) ⊕ (Hp)) :=
  (F_X12_byteAt h x0 (hI h x0 13)).bind (fun r1 => if r1 = ((32 : Int32)) then some (.inl (uI h x0 13 ((hI h x0 13) + ((1 : Int32))))) else (F_X12_byteAt h x0 (hI h x0 13)).bind (fun r2 => if r2 = ((10 : Int32)) then some (.inl (uI h x0 13 ((hI h x0 13) + ((1 : Int32))))) else some (.inr h)))
noncomputable def L_X12_ahead_0 (h : Hp) (x0 : Nat) : Option (Hp) := iterW (fun s : Hp => B_X12_ahead_0 s x0) h
set_option maxHeartbeats 4000000 in
set_option maxRecDepth 100000 in
theorem go_X12_ahead_B0 {Γ : Cx} (hO : Ok Γ mX12_ahead) (h : Hp) (x0 : Nat) (hx0 : Is x0 12) {K : (Hp) ⊕ (Hp) → Prop} (hC : ∀ (h : Hp), K (.inl h) → EW Γ mX12_ahead 0 [(0, rf Γ x0)] [] h) (hE39 : ∀ (h : Hp), K (.inr h) → EW Γ mX12_ahead 39 [(0, rf Γ x0)] [] h) : EG Γ mX12_ahead 0 [(0, rf Γ x0)] [] h (B_X12_ahead_0 h x0) K := by
  unfold B_X12_ahead_0
  refine x_aload_n hO 0 rfl rfl dX12_ahead_0 ?_
  refine x_aload_n hO 0 rfl rfl dX12_ahead_1 ?_
  refine x_getI hO fl_RX12_171 hx0 dX12_ahead_2 ?_
  refine y_PI (x_callV hO lv_RX12_174 hx0 vc_12 (by decide) (As := [.int (hI h x0 13)]) rfl (Nat.le_of_ble_eq_true rfl) (ok_X12_byteAt (cG Γ) h x0 (hI h x0 13) hx0) dX12_ahead_5 rfl (Nat.le_of_ble_eq_true rfl)) (fun r1 => ?_)
  refine x_bipush hO (v := 32) (by decide) dX12_ahead_8 ?_
  refine x_icmp_eq hO (tg := 26) dX12_ahead_10 (by decide) ?_ ?_
  · refine x_aload_n hO 0 rfl rfl dX12_ahead_26 ?_
    refine x_dup_r hO dX12_ahead_27 ?_
    refine x_getI hO fl_RX12_171 hx0 dX12_ahead_28 ?_
    refine x_iconst hO (v := 1) (by decide) dX12_ahead_31 ?_
    refine x_iadd hO dX12_ahead_32 ?_
    refine x_putI hO fl_RX12_171 hx0 dX12_ahead_33 ?_
    refine x_goto hO (tg := 0) dX12_ahead_36 (by decide) ?_
    exact x_leafs [0] rfl (hC (uI h x0 13 ((hI h x0 13) + ((1 : Int32)))))
  · refine x_aload_n hO 0 rfl rfl dX12_ahead_13 ?_
    refine x_aload_n hO 0 rfl rfl dX12_ahead_14 ?_
    refine x_getI hO fl_RX12_171 hx0 dX12_ahead_15 ?_
    refine y_PI (x_callV hO lv_RX12_174 hx0 vc_12 (by decide) (As := [.int (hI h x0 13)]) rfl (Nat.le_of_ble_eq_true rfl) (ok_X12_byteAt (cG Γ) h x0 (hI h x0 13) hx0) dX12_ahead_18 rfl (Nat.le_of_ble_eq_true rfl)) (fun r2 => ?_)
    refine x_bipush hO (v := 10) (by decide) dX12_ahead_21 ?_
    refine x_icmp_ne hO (tg := 39) dX12_ahead_23 (by decide) ?_ ?_
    · exact x_leafs [0] rfl (hE39 h)
    · refine x_aload_n hO 0 rfl rfl dX12_ahead_26 ?_
      refine x_dup_r hO dX12_ahead_27 ?_
      refine x_getI hO fl_RX12_171 hx0 dX12_ahead_28 ?_
      refine x_iconst hO (v := 1) (by decide) dX12_ahead_31 ?_
      refine x_iadd hO dX12_ahead_32 ?_
      refine x_putI hO fl_RX12_171 hx0 dX12_ahead_33 ?_
      refine x_goto hO (tg := 0) dX12_ahead_36 (by decide) ?_
      exact x_leafs [0] rfl (hC (uI h x0 13 ((hI h x0 13) + ((1 : Int32)))))
set_option maxHeartbeats 4000000 in
set_option maxRecDepth 100000 in
theorem go_X12_ahead_L0 {Γ : Cx} (hO : Ok Γ mX12_ahead) (h : Hp) (x0 : Nat) (hx0 : Is x0 12) {K : Hp → Prop} (hE39 : ∀ (h : Hp), K (h) → EW Γ mX12_ahead 39 [(0, rf Γ x0)] [] h) : EG Γ mX12_ahead 0 [(0, rf Γ x0)] [] h (L_X12_ahead_0 h x0) K := by
  have q := x_loop (Γ := Γ) (M := mX12_ahead) (pc := 0) (B := fun s : Hp => B_X12_ahead_0 s x0) (lvf := fun s => [(0, rf Γ x0)]) (hf := fun s => s) (Ky := K) (fun s => go_X12_ahead_B0 hO s x0 hx0 (fun _ => id) hE39) h
  exact q
noncomputable def B_X12_ahead_128 (h : Hp) (x0 : Nat) : Option ((Hp) ⊕ (Hp)) :=
  (F_X12_byteAt h x0 (hI h x0 13)).bind (fun r1 => (F_X12_isDigit h r1).bind (fun r2 => if r2 = 0 then some (.inr h) else (F_X12_byteAt h x0 (hI h x0 13)).bind (fun r3 => bnd (uI h x0 14 (if (((((10 : Int32)) * (hI h x0 14)) + r3) - ((48 : Int32))) < ((10000 : Int32)) then (((((10 : Int32)) * (hI h x0 14)) + r3) - ((48 : Int32))) else ((10000 : Int32)))) (fun h4 => some (.inl (uI h4 x0 13 ((hI h4 x0 13) + ((1 : Int32)))))))))
noncomputable def L_X12_ahead_128 (h : Hp) (x0 : Nat) : Option (Hp) := iterW (fun s : Hp => B_X12_ahead_128 s x0) h
set_option maxHeartbeats 4000000 in
set_option maxRecDepth 100000 in
theorem go_X12_ahead_B128 {Γ : Cx} (hO : Ok Γ mX12_ahead) (h : Hp) (x0 : Nat) (hx0 : Is x0 12) {K : (Hp) ⊕ (Hp) → Prop} (hC : ∀ (h : Hp), K (.inl h) → EW Γ mX12_ahead 128 [(0, rf Γ x0)] [] h) (hE184 : ∀ (h : Hp), K (.inr h) → EW Γ mX12_ahead 184 [(0, rf Γ x0)] [] h) : EG Γ mX12_ahead 128 [(0, rf Γ x0)] [] h (B_X12_ahead_128 h x0) K := by
  unfold B_X12_ahead_128
  refine x_aload_n hO 0 rfl rfl dX12_ahead_128 ?_
  refine x_aload_n hO 0 rfl rfl dX12_ahead_129 ?_
  refine x_getI hO fl_RX12_171 hx0 dX12_ahead_130 ?_
  refine y_PI (x_callV hO lv_RX12_174 hx0 vc_12 (by decide) (As := [.int (hI h x0 13)]) rfl (Nat.le_of_ble_eq_true rfl) (ok_X12_byteAt (cG Γ) h x0 (hI h x0 13) hx0) dX12_ahead_133 rfl (Nat.le_of_ble_eq_true rfl)) (fun r1 => ?_)
  refine y_PI (x_callS hO lt_RX12_189 (As := [.int r1]) rfl (Nat.le_of_ble_eq_true rfl) (ok_X12_isDigit (cG Γ) h r1) dX12_ahead_136 rfl (Nat.le_of_ble_eq_true rfl)) (fun r2 => ?_)
  refine x_if_eq hO (tg := 184) dX12_ahead_139 (by decide) ?_ ?_
  · exact x_leafs [0] rfl (hE184 h)
  · refine x_aload_n hO 0 rfl rfl dX12_ahead_142 ?_
    refine x_sipush hO (v := 10000) (by decide) dX12_ahead_143 ?_
    refine x_bipush hO (v := 10) (by decide) dX12_ahead_146 ?_
    refine x_aload_n hO 0 rfl rfl dX12_ahead_148 ?_
    refine x_getI hO fl_RX12_180 hx0 dX12_ahead_149 ?_
    refine x_imul hO dX12_ahead_152 ?_
    refine x_aload_n hO 0 rfl rfl dX12_ahead_153 ?_
    refine x_aload_n hO 0 rfl rfl dX12_ahead_154 ?_
    refine x_getI hO fl_RX12_171 hx0 dX12_ahead_155 ?_
    refine y_PI (x_callV hO lv_RX12_174 hx0 vc_12 (by decide) (As := [.int (hI h x0 13)]) rfl (Nat.le_of_ble_eq_true rfl) (ok_X12_byteAt (cG Γ) h x0 (hI h x0 13) hx0) dX12_ahead_158 rfl (Nat.le_of_ble_eq_true rfl)) (fun r3 => ?_)
    refine x_iadd hO dX12_ahead_161 ?_
    refine x_bipush hO (v := 48) (by decide) dX12_ahead_162 ?_
    refine x_isub hO dX12_ahead_164 ?_
    refine x_mmin hO lm_RX12_192 (Nat.le_of_ble_eq_true rfl) (Nat.le_of_ble_eq_true rfl) dX12_ahead_165 ?_
    refine x_putI hO fl_RX12_180 hx0 dX12_ahead_168 ?_
    refine x_bnd ?_
    generalize uI h x0 14 (if (((((10 : Int32)) * (hI h x0 14)) + r3) - ((48 : Int32))) < ((10000 : Int32)) then (((((10 : Int32)) * (hI h x0 14)) + r3) - ((48 : Int32))) else ((10000 : Int32))) = h4
    refine x_aload_n hO 0 rfl rfl dX12_ahead_171 ?_
    refine x_dup_r hO dX12_ahead_172 ?_
    refine x_getI hO fl_RX12_171 hx0 dX12_ahead_173 ?_
    refine x_iconst hO (v := 1) (by decide) dX12_ahead_176 ?_
    refine x_iadd hO dX12_ahead_177 ?_
    refine x_putI hO fl_RX12_171 hx0 dX12_ahead_178 ?_
    refine x_goto hO (tg := 128) dX12_ahead_181 (by decide) ?_
    exact x_leafs [0] rfl (hC (uI h4 x0 13 ((hI h4 x0 13) + ((1 : Int32)))))
set_option maxHeartbeats 4000000 in
set_option maxRecDepth 100000 in
theorem go_X12_ahead_L128 {Γ : Cx} (hO : Ok Γ mX12_ahead) (h : Hp) (x0 : Nat) (hx0 : Is x0 12) {K : Hp → Prop} (hE184 : ∀ (h : Hp), K (h) → EW Γ mX12_ahead 184 [(0, rf Γ x0)] [] h) : EG Γ mX12_ahead 128 [(0, rf Γ x0)] [] h (L_X12_ahead_128 h x0) K := by
  have q := x_loop (Γ := Γ) (M := mX12_ahead) (pc := 128) (B := fun s : Hp => B_X12_ahead_128 s x0) (lvf := fun s => [(0, rf Γ x0)]) (hf := fun s => s) (Ky := K) (fun s => go_X12_ahead_B128 hO s x0 hx0 (fun _ => id) hE184) h
  exact q
noncomputable def B_X12_ahead_81 (h : Hp) (x0 : Nat) : Option ((Hp) ⊕ (Hp)) :=
  (F_X12_byteAt h x0 (hI h x0 13)).bind (fun r1 => (F_X12_isSmall h r1).bind (fun r2 => if r2 = 0 then some (.inr (uI h x0 11 ((2 : Int32)))) else some (.inl (uI h x0 13 ((hI h x0 13) + ((1 : Int32)))))))
noncomputable def L_X12_ahead_81 (h : Hp) (x0 : Nat) : Option (Hp) := iterW (fun s : Hp => B_X12_ahead_81 s x0) h
set_option maxHeartbeats 4000000 in
set_option maxRecDepth 100000 in
theorem go_X12_ahead_B81 {Γ : Cx} (hO : Ok Γ mX12_ahead) (h : Hp) (x0 : Nat) (hx0 : Is x0 12) {K : (Hp) ⊕ (Hp) → Prop} (hC : ∀ (h : Hp), K (.inl h) → EW Γ mX12_ahead 81 [(0, rf Γ x0)] [] h) (hR : ∀ r, K (.inr r) → emHV r = tgt Γ) : EG Γ mX12_ahead 81 [(0, rf Γ x0)] [] h (B_X12_ahead_81 h x0) K := by
  unfold B_X12_ahead_81
  refine x_aload_n hO 0 rfl rfl dX12_ahead_81 ?_
  refine x_aload_n hO 0 rfl rfl dX12_ahead_82 ?_
  refine x_getI hO fl_RX12_171 hx0 dX12_ahead_83 ?_
  refine y_PI (x_callV hO lv_RX12_174 hx0 vc_12 (by decide) (As := [.int (hI h x0 13)]) rfl (Nat.le_of_ble_eq_true rfl) (ok_X12_byteAt (cG Γ) h x0 (hI h x0 13) hx0) dX12_ahead_86 rfl (Nat.le_of_ble_eq_true rfl)) (fun r1 => ?_)
  refine y_PI (x_callS hO lt_RX12_186 (As := [.int r1]) rfl (Nat.le_of_ble_eq_true rfl) (ok_X12_isSmall (cG Γ) h r1) dX12_ahead_89 rfl (Nat.le_of_ble_eq_true rfl)) (fun r2 => ?_)
  refine x_if_eq hO (tg := 108) dX12_ahead_92 (by decide) ?_ ?_
  · refine x_aload_n hO 0 rfl rfl dX12_ahead_108 ?_
    refine x_iconst hO (v := 2) (by decide) dX12_ahead_109 ?_
    refine x_putI hO fl_RX12_183 hx0 dX12_ahead_110 ?_
    refine x_goto hO (tg := 234) dX12_ahead_113 (by decide) ?_
    exact x_vret hO rfl dX12_ahead_234 (hR _)
  · refine x_aload_n hO 0 rfl rfl dX12_ahead_95 ?_
    refine x_dup_r hO dX12_ahead_96 ?_
    refine x_getI hO fl_RX12_171 hx0 dX12_ahead_97 ?_
    refine x_iconst hO (v := 1) (by decide) dX12_ahead_100 ?_
    refine x_iadd hO dX12_ahead_101 ?_
    refine x_putI hO fl_RX12_171 hx0 dX12_ahead_102 ?_
    refine x_goto hO (tg := 81) dX12_ahead_105 (by decide) ?_
    exact x_leafs [0] rfl (hC (uI h x0 13 ((hI h x0 13) + ((1 : Int32)))))
set_option maxHeartbeats 4000000 in
set_option maxRecDepth 100000 in
theorem go_X12_ahead_L81 {Γ : Cx} (hO : Ok Γ mX12_ahead) (h : Hp) (x0 : Nat) (hx0 : Is x0 12) {K : Hp → Prop} (hR : ∀ r, K (r) → emHV r = tgt Γ) : EG Γ mX12_ahead 81 [(0, rf Γ x0)] [] h (L_X12_ahead_81 h x0) K := by
  have q := x_loop (Γ := Γ) (M := mX12_ahead) (pc := 81) (B := fun s : Hp => B_X12_ahead_81 s x0) (lvf := fun s => [(0, rf Γ x0)]) (hf := fun s => s) (Ky := K) (fun s => go_X12_ahead_B81 hO s x0 hx0 (fun _ => id) hR) h
  exact q
noncomputable def F_X12_ahead (h : Hp) (x0 : Nat) : Option (Hp) :=
  (F_X12_byteAt h x0 (hI h x0 13)).bind (fun r1 => if r1 = ((32 : Int32)) then (L_X12_ahead_0 (uI h x0 13 ((hI h x0 13) + ((1 : Int32)))) x0).bind (fun e2 => (F_X12_byteAt (uI e2 x0 12 (hI e2 x0 13)) x0 (hI (uI e2 x0 12 (hI e2 x0 13)) x0 13)).bind (fun r3 => if r3 = ((-1 : Int32)) then some (uI (uI (uI e2 x0 12 (hI e2 x0 13)) x0 14 r3) x0 11 ((0 : Int32))) else (F_X12_isSmall (uI (uI e2 x0 12 (hI e2 x0 13)) x0 14 r3) r3).bind (fun r4 => if r4 = 0 then (F_X12_isDigit (uI (uI e2 x0 12 (hI e2 x0 13)) x0 14 r3) r3).bind (fun r5 => if r5 = 0 then if r3 = ((59 : Int32)) then bnd (uI (uI (uI (uI e2 x0 12 (hI e2 x0 13)) x0 14 r3) x0 13 ((hI (uI (uI e2 x0 12 (hI e2 x0 13)) x0 14 r3) x0 13) + ((1 : Int32)))) x0 11 ((4 : Int32))) (fun h7 => some h7) else bnd (uI (uI (uI (uI e2 x0 12 (hI e2 x0 13)) x0 14 r3) x0 13 ((hI (uI (uI e2 x0 12 (hI e2 x0 13)) x0 14 r3) x0 13) + ((1 : Int32)))) x0 11 ((1 : Int32))) (fun h6 => some h6) else (L_X12_ahead_128 (uI (uI (uI e2 x0 12 (hI e2 x0 13)) x0 14 r3) x0 14 ((0 : Int32))) x0).bind (fun e8 => if ((hI e8 x0 13) - (hI e8 x0 12)) ≤ ((3 : Int32)) then some (uI e8 x0 11 ((3 : Int32))) else some (uI e8 x0 11 ((1 : Int32))))) else L_X12_ahead_81 (uI (uI e2 x0 12 (hI e2 x0 13)) x0 14 r3) x0))) else (F_X12_byteAt h x0 (hI h x0 13)).bind (fun r9 => if r9 = ((10 : Int32)) then (L_X12_ahead_0 (uI h x0 13 ((hI h x0 13) + ((1 : Int32)))) x0).bind (fun e16 => (F_X12_byteAt (uI e16 x0 12 (hI e16 x0 13)) x0 (hI (uI e16 x0 12 (hI e16 x0 13)) x0 13)).bind (fun r17 => if r17 = ((-1 : Int32)) then some (uI (uI (uI e16 x0 12 (hI e16 x0 13)) x0 14 r17) x0 11 ((0 : Int32))) else (F_X12_isSmall (uI (uI e16 x0 12 (hI e16 x0 13)) x0 14 r17) r17).bind (fun r18 => if r18 = 0 then (F_X12_isDigit (uI (uI e16 x0 12 (hI e16 x0 13)) x0 14 r17) r17).bind (fun r19 => if r19 = 0 then if r17 = ((59 : Int32)) then bnd (uI (uI (uI (uI e16 x0 12 (hI e16 x0 13)) x0 14 r17) x0 13 ((hI (uI (uI e16 x0 12 (hI e16 x0 13)) x0 14 r17) x0 13) + ((1 : Int32)))) x0 11 ((4 : Int32))) (fun h21 => some h21) else bnd (uI (uI (uI (uI e16 x0 12 (hI e16 x0 13)) x0 14 r17) x0 13 ((hI (uI (uI e16 x0 12 (hI e16 x0 13)) x0 14 r17) x0 13) + ((1 : Int32)))) x0 11 ((1 : Int32))) (fun h20 => some h20) else (L_X12_ahead_128 (uI (uI (uI e16 x0 12 (hI e16 x0 13)) x0 14 r17) x0 14 ((0 : Int32))) x0).bind (fun e22 => if ((hI e22 x0 13) - (hI e22 x0 12)) ≤ ((3 : Int32)) then some (uI e22 x0 11 ((3 : Int32))) else some (uI e22 x0 11 ((1 : Int32))))) else L_X12_ahead_81 (uI (uI e16 x0 12 (hI e16 x0 13)) x0 14 r17) x0))) else (F_X12_byteAt (uI h x0 12 (hI h x0 13)) x0 (hI (uI h x0 12 (hI h x0 13)) x0 13)).bind (fun r10 => if r10 = ((-1 : Int32)) then some (uI (uI (uI h x0 12 (hI h x0 13)) x0 14 r10) x0 11 ((0 : Int32))) else (F_X12_isSmall (uI (uI h x0 12 (hI h x0 13)) x0 14 r10) r10).bind (fun r11 => if r11 = 0 then (F_X12_isDigit (uI (uI h x0 12 (hI h x0 13)) x0 14 r10) r10).bind (fun r12 => if r12 = 0 then if r10 = ((59 : Int32)) then bnd (uI (uI (uI (uI h x0 12 (hI h x0 13)) x0 14 r10) x0 13 ((hI (uI (uI h x0 12 (hI h x0 13)) x0 14 r10) x0 13) + ((1 : Int32)))) x0 11 ((4 : Int32))) (fun h14 => some h14) else bnd (uI (uI (uI (uI h x0 12 (hI h x0 13)) x0 14 r10) x0 13 ((hI (uI (uI h x0 12 (hI h x0 13)) x0 14 r10) x0 13) + ((1 : Int32)))) x0 11 ((1 : Int32))) (fun h13 => some h13) else (L_X12_ahead_128 (uI (uI (uI h x0 12 (hI h x0 13)) x0 14 r10) x0 14 ((0 : Int32))) x0).bind (fun e15 => if ((hI e15 x0 13) - (hI e15 x0 12)) ≤ ((3 : Int32)) then some (uI e15 x0 11 ((3 : Int32))) else some (uI e15 x0 11 ((1 : Int32))))) else L_X12_ahead_81 (uI (uI h x0 12 (hI h x0 13)) x0 14 r10) x0))))
set_option maxHeartbeats 4000000 in
set_option maxRecDepth 100000 in
theorem go_X12_ahead {Γ : Cx} (hO : Ok Γ mX12_ahead) (h : Hp) (x0 : Nat) (hx0 : Is x0 12) {K : Hp → Prop} (hR : ∀ r, K r → emHV r = tgt Γ) : EG Γ mX12_ahead 0 [(0, rf Γ x0)] [] h (F_X12_ahead h x0) K := by
  unfold F_X12_ahead
  refine x_aload_n hO 0 rfl rfl dX12_ahead_0 ?_
  refine x_aload_n hO 0 rfl rfl dX12_ahead_1 ?_
  refine x_getI hO fl_RX12_171 hx0 dX12_ahead_2 ?_
  refine y_PI (x_callV hO lv_RX12_174 hx0 vc_12 (by decide) (As := [.int (hI h x0 13)]) rfl (Nat.le_of_ble_eq_true rfl) (ok_X12_byteAt (cG Γ) h x0 (hI h x0 13) hx0) dX12_ahead_5 rfl (Nat.le_of_ble_eq_true rfl)) (fun r1 => ?_)
  refine x_bipush hO (v := 32) (by decide) dX12_ahead_8 ?_
  refine x_icmp_eq hO (tg := 26) dX12_ahead_10 (by decide) ?_ ?_
  · refine x_aload_n hO 0 rfl rfl dX12_ahead_26 ?_
    refine x_dup_r hO dX12_ahead_27 ?_
    refine x_getI hO fl_RX12_171 hx0 dX12_ahead_28 ?_
    refine x_iconst hO (v := 1) (by decide) dX12_ahead_31 ?_
    refine x_iadd hO dX12_ahead_32 ?_
    refine x_putI hO fl_RX12_171 hx0 dX12_ahead_33 ?_
    refine x_goto hO (tg := 0) dX12_ahead_36 (by decide) ?_
    refine x_bind (x_sub [0] rfl (go_X12_ahead_L0 hO (uI h x0 13 ((hI h x0 13) + ((1 : Int32)))) x0 hx0 (fun y2_0 hx => ?_)))
    refine x_run (t := ((F_X12_byteAt (uI y2_0 x0 12 (hI y2_0 x0 13)) x0 (hI (uI y2_0 x0 12 (hI y2_0 x0 13)) x0 13)).bind (fun r3 => if r3 = ((-1 : Int32)) then some (uI (uI (uI y2_0 x0 12 (hI y2_0 x0 13)) x0 14 r3) x0 11 ((0 : Int32))) else (F_X12_isSmall (uI (uI y2_0 x0 12 (hI y2_0 x0 13)) x0 14 r3) r3).bind (fun r4 => if r4 = 0 then (F_X12_isDigit (uI (uI y2_0 x0 12 (hI y2_0 x0 13)) x0 14 r3) r3).bind (fun r5 => if r5 = 0 then if r3 = ((59 : Int32)) then bnd (uI (uI (uI (uI y2_0 x0 12 (hI y2_0 x0 13)) x0 14 r3) x0 13 ((hI (uI (uI y2_0 x0 12 (hI y2_0 x0 13)) x0 14 r3) x0 13) + ((1 : Int32)))) x0 11 ((4 : Int32))) (fun h7 => some h7) else bnd (uI (uI (uI (uI y2_0 x0 12 (hI y2_0 x0 13)) x0 14 r3) x0 13 ((hI (uI (uI y2_0 x0 12 (hI y2_0 x0 13)) x0 14 r3) x0 13) + ((1 : Int32)))) x0 11 ((1 : Int32))) (fun h6 => some h6) else (L_X12_ahead_128 (uI (uI (uI y2_0 x0 12 (hI y2_0 x0 13)) x0 14 r3) x0 14 ((0 : Int32))) x0).bind (fun e8 => if ((hI e8 x0 13) - (hI e8 x0 12)) ≤ ((3 : Int32)) then some (uI e8 x0 11 ((3 : Int32))) else some (uI e8 x0 11 ((1 : Int32))))) else L_X12_ahead_81 (uI (uI y2_0 x0 12 (hI y2_0 x0 13)) x0 14 r3) x0)) : Option (Hp))) hx ?_
    refine x_aload_n hO 0 rfl rfl dX12_ahead_39 ?_
    refine x_aload_n hO 0 rfl rfl dX12_ahead_40 ?_
    refine x_getI hO fl_RX12_171 hx0 dX12_ahead_41 ?_
    refine x_putI hO fl_RX12_177 hx0 dX12_ahead_44 ?_
    refine x_aload_n hO 0 rfl rfl dX12_ahead_47 ?_
    refine x_aload_n hO 0 rfl rfl dX12_ahead_48 ?_
    refine x_getI hO fl_RX12_171 hx0 dX12_ahead_49 ?_
    refine y_PI (x_callV hO lv_RX12_174 hx0 vc_12 (by decide) (As := [.int (hI (uI y2_0 x0 12 (hI y2_0 x0 13)) x0 13)]) rfl (Nat.le_of_ble_eq_true rfl) (ok_X12_byteAt (cG Γ) (uI y2_0 x0 12 (hI y2_0 x0 13)) x0 (hI (uI y2_0 x0 12 (hI y2_0 x0 13)) x0 13) hx0) dX12_ahead_52 rfl (Nat.le_of_ble_eq_true rfl)) (fun r3 => ?_)
    refine x_istore_n hO rfl [(1, .int r3), (0, rf Γ x0)] dX12_ahead_55 (by decide) rfl ?_
    refine x_aload_n hO 1 rfl rfl dX12_ahead_56 ?_
    refine x_iload_n hO 0 rfl rfl dX12_ahead_57 ?_
    refine x_putI hO fl_RX12_180 hx0 dX12_ahead_58 ?_
    refine x_iload_n hO 0 rfl rfl dX12_ahead_61 ?_
    refine x_iconst hO (v := -1) (by decide) dX12_ahead_62 ?_
    refine x_icmp_ne hO (tg := 74) dX12_ahead_63 (by decide) ?_ ?_
    · refine x_iload_n hO 0 rfl rfl dX12_ahead_74 ?_
      refine y_PI (x_callS hO lt_RX12_186 (As := [.int r3]) rfl (Nat.le_of_ble_eq_true rfl) (ok_X12_isSmall (cG Γ) (uI (uI y2_0 x0 12 (hI y2_0 x0 13)) x0 14 r3) r3) dX12_ahead_75 rfl (Nat.le_of_ble_eq_true rfl)) (fun r4 => ?_)
      refine x_if_eq hO (tg := 116) dX12_ahead_78 (by decide) ?_ ?_
      · refine x_iload_n hO 0 rfl rfl dX12_ahead_116 ?_
        refine y_PI (x_callS hO lt_RX12_189 (As := [.int r3]) rfl (Nat.le_of_ble_eq_true rfl) (ok_X12_isDigit (cG Γ) (uI (uI y2_0 x0 12 (hI y2_0 x0 13)) x0 14 r3) r3) dX12_ahead_117 rfl (Nat.le_of_ble_eq_true rfl)) (fun r5 => ?_)
        refine x_if_eq hO (tg := 209) dX12_ahead_120 (by decide) ?_ ?_
        · refine x_aload_n hO 1 rfl rfl dX12_ahead_209 ?_
          refine x_dup_r hO dX12_ahead_210 ?_
          refine x_getI hO fl_RX12_171 hx0 dX12_ahead_211 ?_
          refine x_iconst hO (v := 1) (by decide) dX12_ahead_214 ?_
          refine x_iadd hO dX12_ahead_215 ?_
          refine x_putI hO fl_RX12_171 hx0 dX12_ahead_216 ?_
          refine x_aload_n hO 1 rfl rfl dX12_ahead_219 ?_
          refine x_iload_n hO 0 rfl rfl dX12_ahead_220 ?_
          refine x_bipush hO (v := 59) (by decide) dX12_ahead_221 ?_
          refine x_icmp_ne hO (tg := 230) dX12_ahead_223 (by decide) ?_ ?_
          · refine x_iconst hO (v := 1) (by decide) dX12_ahead_230 ?_
            refine x_putI hO fl_RX12_183 hx0 dX12_ahead_231 ?_
            refine x_bnd ?_
            generalize uI (uI (uI (uI y2_0 x0 12 (hI y2_0 x0 13)) x0 14 r3) x0 13 ((hI (uI (uI y2_0 x0 12 (hI y2_0 x0 13)) x0 14 r3) x0 13) + ((1 : Int32)))) x0 11 ((1 : Int32)) = h6
            exact x_vret hO rfl dX12_ahead_234 (hR _)
          · refine x_iconst hO (v := 4) (by decide) dX12_ahead_226 ?_
            refine x_goto hO (tg := 231) dX12_ahead_227 (by decide) ?_
            refine x_putI hO fl_RX12_183 hx0 dX12_ahead_231 ?_
            refine x_bnd ?_
            generalize uI (uI (uI (uI y2_0 x0 12 (hI y2_0 x0 13)) x0 14 r3) x0 13 ((hI (uI (uI y2_0 x0 12 (hI y2_0 x0 13)) x0 14 r3) x0 13) + ((1 : Int32)))) x0 11 ((4 : Int32)) = h7
            exact x_vret hO rfl dX12_ahead_234 (hR _)
        · refine x_aload_n hO 1 rfl rfl dX12_ahead_123 ?_
          refine x_iconst hO (v := 0) (by decide) dX12_ahead_124 ?_
          refine x_putI hO fl_RX12_180 hx0 dX12_ahead_125 ?_
          refine x_bind (x_sub [1] rfl (go_X12_ahead_L128 hO (uI (uI (uI y2_0 x0 12 (hI y2_0 x0 13)) x0 14 r3) x0 14 ((0 : Int32))) x0 hx0 (fun y8_0 hx => ?_)))
          refine x_run (t := (if ((hI y8_0 x0 13) - (hI y8_0 x0 12)) ≤ ((3 : Int32)) then some (uI y8_0 x0 11 ((3 : Int32))) else some (uI y8_0 x0 11 ((1 : Int32))) : Option (Hp))) hx ?_
          refine x_aload_n hO 0 rfl rfl dX12_ahead_184 ?_
          refine x_aload_n hO 0 rfl rfl dX12_ahead_185 ?_
          refine x_getI hO fl_RX12_171 hx0 dX12_ahead_186 ?_
          refine x_aload_n hO 0 rfl rfl dX12_ahead_189 ?_
          refine x_getI hO fl_RX12_177 hx0 dX12_ahead_190 ?_
          refine x_isub hO dX12_ahead_193 ?_
          refine x_iconst hO (v := 3) (by decide) dX12_ahead_194 ?_
          refine x_icmp_le hO (tg := 202) dX12_ahead_195 (by decide) ?_ ?_
          · refine x_iconst hO (v := 3) (by decide) dX12_ahead_202 ?_
            refine x_putI hO fl_RX12_183 hx0 dX12_ahead_203 ?_
            refine x_goto hO (tg := 234) dX12_ahead_206 (by decide) ?_
            exact x_vret hO rfl dX12_ahead_234 (hR _)
          · refine x_iconst hO (v := 1) (by decide) dX12_ahead_198 ?_
            refine x_goto hO (tg := 203) dX12_ahead_199 (by decide) ?_
            refine x_putI hO fl_RX12_183 hx0 dX12_ahead_203 ?_
            refine x_goto hO (tg := 234) dX12_ahead_206 (by decide) ?_
            exact x_vret hO rfl dX12_ahead_234 (hR _)
      · exact x_sub [1] rfl (go_X12_ahead_L81 hO (uI (uI y2_0 x0 12 (hI y2_0 x0 13)) x0 14 r3) x0 hx0 hR)
    · refine x_aload_n hO 1 rfl rfl dX12_ahead_66 ?_
      refine x_iconst hO (v := 0) (by decide) dX12_ahead_67 ?_
      refine x_putI hO fl_RX12_183 hx0 dX12_ahead_68 ?_
      refine x_goto hO (tg := 234) dX12_ahead_71 (by decide) ?_
      exact x_vret hO rfl dX12_ahead_234 (hR _)
  · refine x_aload_n hO 0 rfl rfl dX12_ahead_13 ?_
    refine x_aload_n hO 0 rfl rfl dX12_ahead_14 ?_
    refine x_getI hO fl_RX12_171 hx0 dX12_ahead_15 ?_
    refine y_PI (x_callV hO lv_RX12_174 hx0 vc_12 (by decide) (As := [.int (hI h x0 13)]) rfl (Nat.le_of_ble_eq_true rfl) (ok_X12_byteAt (cG Γ) h x0 (hI h x0 13) hx0) dX12_ahead_18 rfl (Nat.le_of_ble_eq_true rfl)) (fun r9 => ?_)
    refine x_bipush hO (v := 10) (by decide) dX12_ahead_21 ?_
    refine x_icmp_ne hO (tg := 39) dX12_ahead_23 (by decide) ?_ ?_
    · refine x_aload_n hO 0 rfl rfl dX12_ahead_39 ?_
      refine x_aload_n hO 0 rfl rfl dX12_ahead_40 ?_
      refine x_getI hO fl_RX12_171 hx0 dX12_ahead_41 ?_
      refine x_putI hO fl_RX12_177 hx0 dX12_ahead_44 ?_
      refine x_aload_n hO 0 rfl rfl dX12_ahead_47 ?_
      refine x_aload_n hO 0 rfl rfl dX12_ahead_48 ?_
      refine x_getI hO fl_RX12_171 hx0 dX12_ahead_49 ?_
      refine y_PI (x_callV hO lv_RX12_174 hx0 vc_12 (by decide) (As := [.int (hI (uI h x0 12 (hI h x0 13)) x0 13)]) rfl (Nat.le_of_ble_eq_true rfl) (ok_X12_byteAt (cG Γ) (uI h x0 12 (hI h x0 13)) x0 (hI (uI h x0 12 (hI h x0 13)) x0 13) hx0) dX12_ahead_52 rfl (Nat.le_of_ble_eq_true rfl)) (fun r10 => ?_)
      refine x_istore_n hO rfl [(1, .int r10), (0, rf Γ x0)] dX12_ahead_55 (by decide) rfl ?_
      refine x_aload_n hO 1 rfl rfl dX12_ahead_56 ?_
      refine x_iload_n hO 0 rfl rfl dX12_ahead_57 ?_
      refine x_putI hO fl_RX12_180 hx0 dX12_ahead_58 ?_
      refine x_iload_n hO 0 rfl rfl dX12_ahead_61 ?_
      refine x_iconst hO (v := -1) (by decide) dX12_ahead_62 ?_
      refine x_icmp_ne hO (tg := 74) dX12_ahead_63 (by decide) ?_ ?_
      · refine x_iload_n hO 0 rfl rfl dX12_ahead_74 ?_
        refine y_PI (x_callS hO lt_RX12_186 (As := [.int r10]) rfl (Nat.le_of_ble_eq_true rfl) (ok_X12_isSmall (cG Γ) (uI (uI h x0 12 (hI h x0 13)) x0 14 r10) r10) dX12_ahead_75 rfl (Nat.le_of_ble_eq_true rfl)) (fun r11 => ?_)
        refine x_if_eq hO (tg := 116) dX12_ahead_78 (by decide) ?_ ?_
        · refine x_iload_n hO 0 rfl rfl dX12_ahead_116 ?_
          refine y_PI (x_callS hO lt_RX12_189 (As := [.int r10]) rfl (Nat.le_of_ble_eq_true rfl) (ok_X12_isDigit (cG Γ) (uI (uI h x0 12 (hI h x0 13)) x0 14 r10) r10) dX12_ahead_117 rfl (Nat.le_of_ble_eq_true rfl)) (fun r12 => ?_)
          refine x_if_eq hO (tg := 209) dX12_ahead_120 (by decide) ?_ ?_
          · refine x_aload_n hO 1 rfl rfl dX12_ahead_209 ?_
            refine x_dup_r hO dX12_ahead_210 ?_
            refine x_getI hO fl_RX12_171 hx0 dX12_ahead_211 ?_
            refine x_iconst hO (v := 1) (by decide) dX12_ahead_214 ?_
            refine x_iadd hO dX12_ahead_215 ?_
            refine x_putI hO fl_RX12_171 hx0 dX12_ahead_216 ?_
            refine x_aload_n hO 1 rfl rfl dX12_ahead_219 ?_
            refine x_iload_n hO 0 rfl rfl dX12_ahead_220 ?_
            refine x_bipush hO (v := 59) (by decide) dX12_ahead_221 ?_
            refine x_icmp_ne hO (tg := 230) dX12_ahead_223 (by decide) ?_ ?_
            · refine x_iconst hO (v := 1) (by decide) dX12_ahead_230 ?_
              refine x_putI hO fl_RX12_183 hx0 dX12_ahead_231 ?_
              refine x_bnd ?_
              generalize uI (uI (uI (uI h x0 12 (hI h x0 13)) x0 14 r10) x0 13 ((hI (uI (uI h x0 12 (hI h x0 13)) x0 14 r10) x0 13) + ((1 : Int32)))) x0 11 ((1 : Int32)) = h13
              exact x_vret hO rfl dX12_ahead_234 (hR _)
            · refine x_iconst hO (v := 4) (by decide) dX12_ahead_226 ?_
              refine x_goto hO (tg := 231) dX12_ahead_227 (by decide) ?_
              refine x_putI hO fl_RX12_183 hx0 dX12_ahead_231 ?_
              refine x_bnd ?_
              generalize uI (uI (uI (uI h x0 12 (hI h x0 13)) x0 14 r10) x0 13 ((hI (uI (uI h x0 12 (hI h x0 13)) x0 14 r10) x0 13) + ((1 : Int32)))) x0 11 ((4 : Int32)) = h14
              exact x_vret hO rfl dX12_ahead_234 (hR _)
          · refine x_aload_n hO 1 rfl rfl dX12_ahead_123 ?_
            refine x_iconst hO (v := 0) (by decide) dX12_ahead_124 ?_
            refine x_putI hO fl_RX12_180 hx0 dX12_ahead_125 ?_
            refine x_bind (x_sub [1] rfl (go_X12_ahead_L128 hO (uI (uI (uI h x0 12 (hI h x0 13)) x0 14 r10) x0 14 ((0 : Int32))) x0 hx0 (fun y15_0 hx => ?_)))
            refine x_run (t := (if ((hI y15_0 x0 13) - (hI y15_0 x0 12)) ≤ ((3 : Int32)) then some (uI y15_0 x0 11 ((3 : Int32))) else some (uI y15_0 x0 11 ((1 : Int32))) : Option (Hp))) hx ?_
            refine x_aload_n hO 0 rfl rfl dX12_ahead_184 ?_
            refine x_aload_n hO 0 rfl rfl dX12_ahead_185 ?_
            refine x_getI hO fl_RX12_171 hx0 dX12_ahead_186 ?_
            refine x_aload_n hO 0 rfl rfl dX12_ahead_189 ?_
            refine x_getI hO fl_RX12_177 hx0 dX12_ahead_190 ?_
            refine x_isub hO dX12_ahead_193 ?_
            refine x_iconst hO (v := 3) (by decide) dX12_ahead_194 ?_
            refine x_icmp_le hO (tg := 202) dX12_ahead_195 (by decide) ?_ ?_
            · refine x_iconst hO (v := 3) (by decide) dX12_ahead_202 ?_
              refine x_putI hO fl_RX12_183 hx0 dX12_ahead_203 ?_
              refine x_goto hO (tg := 234) dX12_ahead_206 (by decide) ?_
              exact x_vret hO rfl dX12_ahead_234 (hR _)
            · refine x_iconst hO (v := 1) (by decide) dX12_ahead_198 ?_
              refine x_goto hO (tg := 203) dX12_ahead_199 (by decide) ?_
              refine x_putI hO fl_RX12_183 hx0 dX12_ahead_203 ?_
              refine x_goto hO (tg := 234) dX12_ahead_206 (by decide) ?_
              exact x_vret hO rfl dX12_ahead_234 (hR _)
        · exact x_sub [1] rfl (go_X12_ahead_L81 hO (uI (uI h x0 12 (hI h x0 13)) x0 14 r10) x0 hx0 hR)
      · refine x_aload_n hO 1 rfl rfl dX12_ahead_66 ?_
        refine x_iconst hO (v := 0) (by decide) dX12_ahead_67 ?_
        refine x_putI hO fl_RX12_183 hx0 dX12_ahead_68 ?_
        refine x_goto hO (tg := 234) dX12_ahead_71 (by decide) ?_
        exact x_vret hO rfl dX12_ahead_234 (hR _)
    · refine x_aload_n hO 0 rfl rfl dX12_ahead_26 ?_
      refine x_dup_r hO dX12_ahead_27 ?_
      refine x_getI hO fl_RX12_171 hx0 dX12_ahead_28 ?_
      refine x_iconst hO (v := 1) (by decide) dX12_ahead_31 ?_
      refine x_iadd hO dX12_ahead_32 ?_
      refine x_putI hO fl_RX12_171 hx0 dX12_ahead_33 ?_
      refine x_goto hO (tg := 0) dX12_ahead_36 (by decide) ?_
      refine x_bind (x_sub [0] rfl (go_X12_ahead_L0 hO (uI h x0 13 ((hI h x0 13) + ((1 : Int32)))) x0 hx0 (fun y16_0 hx => ?_)))
      refine x_run (t := ((F_X12_byteAt (uI y16_0 x0 12 (hI y16_0 x0 13)) x0 (hI (uI y16_0 x0 12 (hI y16_0 x0 13)) x0 13)).bind (fun r17 => if r17 = ((-1 : Int32)) then some (uI (uI (uI y16_0 x0 12 (hI y16_0 x0 13)) x0 14 r17) x0 11 ((0 : Int32))) else (F_X12_isSmall (uI (uI y16_0 x0 12 (hI y16_0 x0 13)) x0 14 r17) r17).bind (fun r18 => if r18 = 0 then (F_X12_isDigit (uI (uI y16_0 x0 12 (hI y16_0 x0 13)) x0 14 r17) r17).bind (fun r19 => if r19 = 0 then if r17 = ((59 : Int32)) then bnd (uI (uI (uI (uI y16_0 x0 12 (hI y16_0 x0 13)) x0 14 r17) x0 13 ((hI (uI (uI y16_0 x0 12 (hI y16_0 x0 13)) x0 14 r17) x0 13) + ((1 : Int32)))) x0 11 ((4 : Int32))) (fun h21 => some h21) else bnd (uI (uI (uI (uI y16_0 x0 12 (hI y16_0 x0 13)) x0 14 r17) x0 13 ((hI (uI (uI y16_0 x0 12 (hI y16_0 x0 13)) x0 14 r17) x0 13) + ((1 : Int32)))) x0 11 ((1 : Int32))) (fun h20 => some h20) else (L_X12_ahead_128 (uI (uI (uI y16_0 x0 12 (hI y16_0 x0 13)) x0 14 r17) x0 14 ((0 : Int32))) x0).bind (fun e22 => if ((hI e22 x0 13) - (hI e22 x0 12)) ≤ ((3 : Int32)) then some (uI e22 x0 11 ((3 : Int32))) else some (uI e22 x0 11 ((1 : Int32))))) else L_X12_ahead_81 (uI (uI y16_0 x0 12 (hI y16_0 x0 13)) x0 14 r17) x0)) : Option (Hp))) hx ?_
      refine x_aload_n hO 0 rfl rfl dX12_ahead_39 ?_
      refine x_aload_n hO 0 rfl rfl dX12_ahead_40 ?_
      refine x_getI hO fl_RX12_171 hx0 dX12_ahead_41 ?_
      refine x_putI hO fl_RX12_177 hx0 dX12_ahead_44 ?_
      refine x_aload_n hO 0 rfl rfl dX12_ahead_47 ?_
      refine x_aload_n hO 0 rfl rfl dX12_ahead_48 ?_
      refine x_getI hO fl_RX12_171 hx0 dX12_ahead_49 ?_
      refine y_PI (x_callV hO lv_RX12_174 hx0 vc_12 (by decide) (As := [.int (hI (uI y16_0 x0 12 (hI y16_0 x0 13)) x0 13)]) rfl (Nat.le_of_ble_eq_true rfl) (ok_X12_byteAt (cG Γ) (uI y16_0 x0 12 (hI y16_0 x0 13)) x0 (hI (uI y16_0 x0 12 (hI y16_0 x0 13)) x0 13) hx0) dX12_ahead_52 rfl (Nat.le_of_ble_eq_true rfl)) (fun r17 => ?_)
      refine x_istore_n hO rfl [(1, .int r17), (0, rf Γ x0)] dX12_ahead_55 (by decide) rfl ?_
      refine x_aload_n hO 1 rfl rfl dX12_ahead_56 ?_
      refine x_iload_n hO 0 rfl rfl dX12_ahead_57 ?_
      refine x_putI hO fl_RX12_180 hx0 dX12_ahead_58 ?_
      refine x_iload_n hO 0 rfl rfl dX12_ahead_61 ?_
      refine x_iconst hO (v := -1) (by decide) dX12_ahead_62 ?_
      refine x_icmp_ne hO (tg := 74) dX12_ahead_63 (by decide) ?_ ?_
      · refine x_iload_n hO 0 rfl rfl dX12_ahead_74 ?_
        refine y_PI (x_callS hO lt_RX12_186 (As := [.int r17]) rfl (Nat.le_of_ble_eq_true rfl) (ok_X12_isSmall (cG Γ) (uI (uI y16_0 x0 12 (hI y16_0 x0 13)) x0 14 r17) r17) dX12_ahead_75 rfl (Nat.le_of_ble_eq_true rfl)) (fun r18 => ?_)
        refine x_if_eq hO (tg := 116) dX12_ahead_78 (by decide) ?_ ?_
        · refine x_iload_n hO 0 rfl rfl dX12_ahead_116 ?_
          refine y_PI (x_callS hO lt_RX12_189 (As := [.int r17]) rfl (Nat.le_of_ble_eq_true rfl) (ok_X12_isDigit (cG Γ) (uI (uI y16_0 x0 12 (hI y16_0 x0 13)) x0 14 r17) r17) dX12_ahead_117 rfl (Nat.le_of_ble_eq_true rfl)) (fun r19 => ?_)
          refine x_if_eq hO (tg := 209) dX12_ahead_120 (by decide) ?_ ?_
          · refine x_aload_n hO 1 rfl rfl dX12_ahead_209 ?_
            refine x_dup_r hO dX12_ahead_210 ?_
            refine x_getI hO fl_RX12_171 hx0 dX12_ahead_211 ?_
            refine x_iconst hO (v := 1) (by decide) dX12_ahead_214 ?_
            refine x_iadd hO dX12_ahead_215 ?_
            refine x_putI hO fl_RX12_171 hx0 dX12_ahead_216 ?_
            refine x_aload_n hO 1 rfl rfl dX12_ahead_219 ?_
            refine x_iload_n hO 0 rfl rfl dX12_ahead_220 ?_
            refine x_bipush hO (v := 59) (by decide) dX12_ahead_221 ?_
            refine x_icmp_ne hO (tg := 230) dX12_ahead_223 (by decide) ?_ ?_
            · refine x_iconst hO (v := 1) (by decide) dX12_ahead_230 ?_
              refine x_putI hO fl_RX12_183 hx0 dX12_ahead_231 ?_
              refine x_bnd ?_
              generalize uI (uI (uI (uI y16_0 x0 12 (hI y16_0 x0 13)) x0 14 r17) x0 13 ((hI (uI (uI y16_0 x0 12 (hI y16_0 x0 13)) x0 14 r17) x0 13) + ((1 : Int32)))) x0 11 ((1 : Int32)) = h20
              exact x_vret hO rfl dX12_ahead_234 (hR _)
            · refine x_iconst hO (v := 4) (by decide) dX12_ahead_226 ?_
              refine x_goto hO (tg := 231) dX12_ahead_227 (by decide) ?_
              refine x_putI hO fl_RX12_183 hx0 dX12_ahead_231 ?_
              refine x_bnd ?_
              generalize uI (uI (uI (uI y16_0 x0 12 (hI y16_0 x0 13)) x0 14 r17) x0 13 ((hI (uI (uI y16_0 x0 12 (hI y16_0 x0 13)) x0 14 r17) x0 13) + ((1 : Int32)))) x0 11 ((4 : Int32)) = h21
              exact x_vret hO rfl dX12_ahead_234 (hR _)
          · refine x_aload_n hO 1 rfl rfl dX12_ahead_123 ?_
            refine x_iconst hO (v := 0) (by decide) dX12_ahead_124 ?_
            refine x_putI hO fl_RX12_180 hx0 dX12_ahead_125 ?_
            refine x_bind (x_sub [1] rfl (go_X12_ahead_L128 hO (uI (uI (uI y16_0 x0 12 (hI y16_0 x0 13)) x0 14 r17) x0 14 ((0 : Int32))) x0 hx0 (fun y22_0 hx => ?_)))
            refine x_run (t := (if ((hI y22_0 x0 13) - (hI y22_0 x0 12)) ≤ ((3 : Int32)) then some (uI y22_0 x0 11 ((3 : Int32))) else some (uI y22_0 x0 11 ((1 : Int32))) : Option (Hp))) hx ?_
            refine x_aload_n hO 0 rfl rfl dX12_ahead_184 ?_
            refine x_aload_n hO 0 rfl rfl dX12_ahead_185 ?_
            refine x_getI hO fl_RX12_171 hx0 dX12_ahead_186 ?_
            refine x_aload_n hO 0 rfl rfl dX12_ahead_189 ?_
            refine x_getI hO fl_RX12_177 hx0 dX12_ahead_190 ?_
            refine x_isub hO dX12_ahead_193 ?_
            refine x_iconst hO (v := 3) (by decide) dX12_ahead_194 ?_
            refine x_icmp_le hO (tg := 202) dX12_ahead_195 (by decide) ?_ ?_
            · refine x_iconst hO (v := 3) (by decide) dX12_ahead_202 ?_
              refine x_putI hO fl_RX12_183 hx0 dX12_ahead_203 ?_
              refine x_goto hO (tg := 234) dX12_ahead_206 (by decide) ?_
              exact x_vret hO rfl dX12_ahead_234 (hR _)
            · refine x_iconst hO (v := 1) (by decide) dX12_ahead_198 ?_
              refine x_goto hO (tg := 203) dX12_ahead_199 (by decide) ?_
              refine x_putI hO fl_RX12_183 hx0 dX12_ahead_203 ?_
              refine x_goto hO (tg := 234) dX12_ahead_206 (by decide) ?_
              exact x_vret hO rfl dX12_ahead_234 (hR _)
        · exact x_sub [1] rfl (go_X12_ahead_L81 hO (uI (uI y16_0 x0 12 (hI y16_0 x0 13)) x0 14 r17) x0 hx0 hR)
      · refine x_aload_n hO 1 rfl rfl dX12_ahead_66 ?_
        refine x_iconst hO (v := 0) (by decide) dX12_ahead_67 ?_
        refine x_putI hO fl_RX12_183 hx0 dX12_ahead_68 ?_
        refine x_goto hO (tg := 234) dX12_ahead_71 (by decide) ?_
        exact x_vret hO rfl dX12_ahead_234 (hR _)
theorem ok_X12_ahead (G : Gl) (h : Hp) (x0 : Nat) (hx0 : Is x0 12) : CN G mX12_ahead [.ref (gb G + x0)] h ((F_X12_ahead h x0).map (emHV)) := CN.fn pn_RX12 (Nat.le_of_ble_eq_true rfl) (fun Γ hG hO => by subst hG; exact go_X12_ahead hO h x0 hx0 (fun _ q => q))
noncomputable def F_X12_anew (h : Hp) (x0 : Nat) (x1 : Int32) : Option (Hp × Int32) :=
  (F_X12_isCard h x0 x1).bind (fun r1 => if r1 = 0 then (F_X12_refuse h x0 ((1 : Int32))).bind (fun r4 => some ((r4.1, r4.2))) else (F_X12_ofCard h x0 x1 ((10 : Int32))).bind (fun r2 => gd (ib ((((8 : Int32)) + (((11 : Int32)) * x1)) + ((10 : Int32))) (LEN (GR x0 0))) ((F_X12_gives (uI h (GR x0 0) (nx ((((8 : Int32)) + (((11 : Int32)) * x1)) + ((10 : Int32)))) ((0 : Int32))) x0 r2).bind (fun r3 => some ((r3.1, r3.2))))))
set_option maxHeartbeats 4000000 in
set_option maxRecDepth 100000 in
theorem go_X12_anew {Γ : Cx} (hO : Ok Γ mX12_anew) (h : Hp) (x0 : Nat) (x1 : Int32) (hx0 : Is x0 12) {K : Hp × Int32 → Prop} (hR : ∀ r, K r → emHI r = tgt Γ) : EG Γ mX12_anew 0 [(0, rf Γ x0), (1, .int x1)] [] h (F_X12_anew h x0 x1) K := by
  unfold F_X12_anew
  refine x_aload_n hO 0 rfl rfl dX12_anew_0 ?_
  refine x_iload_n hO 1 rfl rfl dX12_anew_1 ?_
  refine y_PI (x_callV hO lv_RX12_149 hx0 vc_12 (by decide) (As := [.int x1]) rfl (Nat.le_of_ble_eq_true rfl) (ok_X12_isCard (cG Γ) h x0 x1 hx0) dX12_anew_2 rfl (Nat.le_of_ble_eq_true rfl)) (fun r1 => ?_)
  refine x_if_ne hO (tg := 14) dX12_anew_5 (by decide) ?_ ?_
  · refine x_aload_n hO 0 rfl rfl dX12_anew_14 ?_
    refine x_iload_n hO 1 rfl rfl dX12_anew_15 ?_
    refine x_bipush hO (v := 10) (by decide) dX12_anew_16 ?_
    refine y_PI (x_callV hO lv_RX12_130 hx0 vc_12 (by decide) (As := [.int x1, .int ((10 : Int32))]) rfl (Nat.le_of_ble_eq_true rfl) (ok_X12_ofCard (cG Γ) h x0 x1 ((10 : Int32)) hx0) dX12_anew_18 rfl (Nat.le_of_ble_eq_true rfl)) (fun r2 => ?_)
    refine x_istore_n hO rfl [(2, .int r2), (0, rf Γ x0), (1, .int x1)] dX12_anew_21 (by decide) rfl ?_
    refine x_aload_n hO 1 rfl rfl dX12_anew_22 ?_
    refine x_getR hO fl_RX12_7 hx0 dX12_anew_23 ?_
    refine x_bipush hO (v := 8) (by decide) dX12_anew_26 ?_
    refine x_bipush hO (v := 11) (by decide) dX12_anew_28 ?_
    refine x_iload_n hO 2 rfl rfl dX12_anew_30 ?_
    refine x_imul hO dX12_anew_31 ?_
    refine x_iadd hO dX12_anew_32 ?_
    refine x_bipush hO (v := 10) (by decide) dX12_anew_33 ?_
    refine x_iadd hO dX12_anew_35 ?_
    refine x_iconst hO (v := 0) (by decide) dX12_anew_36 ?_
    refine x_iast hO (gr_12_0 hx0) dX12_anew_37 ?_
    refine x_aload_n hO 1 rfl rfl dX12_anew_38 ?_
    refine x_iload_n hO 0 rfl rfl dX12_anew_39 ?_
    refine y_HI (x_callV hO lv_RX12_146 hx0 vc_12 (by decide) (As := [.int r2]) rfl (Nat.le_of_ble_eq_true rfl) (ok_X12_gives (cG Γ) (uI h (GR x0 0) (nx ((((8 : Int32)) + (((11 : Int32)) * x1)) + ((10 : Int32)))) ((0 : Int32))) x0 r2 hx0) dX12_anew_40 rfl (Nat.le_of_ble_eq_true rfl)) (fun r3 => ?_)
    exact x_iret hO rfl dX12_anew_43 (hR _)
  · refine x_aload_n hO 0 rfl rfl dX12_anew_8 ?_
    refine x_iconst hO (v := 1) (by decide) dX12_anew_9 ?_
    refine y_HI (x_callV hO lv_RX12_137 hx0 vc_12 (by decide) (As := [.int ((1 : Int32))]) rfl (Nat.le_of_ble_eq_true rfl) (ok_X12_refuse (cG Γ) h x0 ((1 : Int32)) hx0) dX12_anew_10 rfl (Nat.le_of_ble_eq_true rfl)) (fun r4 => ?_)
    exact x_iret hO rfl dX12_anew_13 (hR _)
theorem ok_X12_anew (G : Gl) (h : Hp) (x0 : Nat) (x1 : Int32) (hx0 : Is x0 12) : CN G mX12_anew [.ref (gb G + x0), .int x1] h ((F_X12_anew h x0 x1).map (emHI)) := CN.fn pn_RX12 (Nat.le_of_ble_eq_true rfl) (fun Γ hG hO => by subst hG; exact go_X12_anew hO h x0 x1 hx0 (fun _ q => q))
noncomputable def F_X12_back (h : Hp) (x0 : Nat) : Option (Hp × Int32) :=
  if (hI h x0 51) = 0 then (F_X12_refuse h x0 ((6 : Int32))).bind (fun r3 => some ((r3.1, r3.2))) else (F_X12_copies h x0 (((800 : Int32)) * (hI h x0 51)) ((0 : Int32))).bind (fun r1 => (F_X12_gives (uI r1 x0 51 ((hI r1 x0 51) - ((1 : Int32)))) x0 (hI (uI r1 x0 51 ((hI r1 x0 51) - ((1 : Int32)))) x0 51)).bind (fun r2 => some ((r2.1, r2.2))))
set_option maxHeartbeats 4000000 in
set_option maxRecDepth 100000 in
theorem go_X12_back {Γ : Cx} (hO : Ok Γ mX12_back) (h : Hp) (x0 : Nat) (hx0 : Is x0 12) {K : Hp × Int32 → Prop} (hR : ∀ r, K r → emHI r = tgt Γ) : EG Γ mX12_back 0 [(0, rf Γ x0)] [] h (F_X12_back h x0) K := by
  unfold F_X12_back
  refine x_aload_n hO 0 rfl rfl dX12_back_0 ?_
  refine x_getI hO fl_RX12_403 hx0 dX12_back_1 ?_
  refine x_if_ne hO (tg := 14) dX12_back_4 (by decide) ?_ ?_
  · refine x_aload_n hO 0 rfl rfl dX12_back_14 ?_
    refine x_sipush hO (v := 800) (by decide) dX12_back_15 ?_
    refine x_aload_n hO 0 rfl rfl dX12_back_18 ?_
    refine x_getI hO fl_RX12_403 hx0 dX12_back_19 ?_
    refine x_imul hO dX12_back_22 ?_
    refine x_iconst hO (v := 0) (by decide) dX12_back_23 ?_
    refine y_HV (x_callV hO lv_RX12_406 hx0 vc_12 (by decide) (As := [.int (((800 : Int32)) * (hI h x0 51)), .int ((0 : Int32))]) rfl (Nat.le_of_ble_eq_true rfl) (ok_X12_copies (cG Γ) h x0 (((800 : Int32)) * (hI h x0 51)) ((0 : Int32)) hx0) dX12_back_24 rfl (Nat.le_of_ble_eq_true rfl)) (fun r1 => ?_)
    refine x_aload_n hO 0 rfl rfl dX12_back_27 ?_
    refine x_dup_r hO dX12_back_28 ?_
    refine x_getI hO fl_RX12_403 hx0 dX12_back_29 ?_
    refine x_iconst hO (v := 1) (by decide) dX12_back_32 ?_
    refine x_isub hO dX12_back_33 ?_
    refine x_putI hO fl_RX12_403 hx0 dX12_back_34 ?_
    refine x_aload_n hO 0 rfl rfl dX12_back_37 ?_
    refine x_aload_n hO 0 rfl rfl dX12_back_38 ?_
    refine x_getI hO fl_RX12_403 hx0 dX12_back_39 ?_
    refine y_HI (x_callV hO lv_RX12_146 hx0 vc_12 (by decide) (As := [.int (hI (uI r1 x0 51 ((hI r1 x0 51) - ((1 : Int32)))) x0 51)]) rfl (Nat.le_of_ble_eq_true rfl) (ok_X12_gives (cG Γ) (uI r1 x0 51 ((hI r1 x0 51) - ((1 : Int32)))) x0 (hI (uI r1 x0 51 ((hI r1 x0 51) - ((1 : Int32)))) x0 51) hx0) dX12_back_42 rfl (Nat.le_of_ble_eq_true rfl)) (fun r2 => ?_)
    exact x_iret hO rfl dX12_back_45 (hR _)
  · refine x_aload_n hO 0 rfl rfl dX12_back_7 ?_
    refine x_bipush hO (v := 6) (by decide) dX12_back_8 ?_
    refine y_HI (x_callV hO lv_RX12_137 hx0 vc_12 (by decide) (As := [.int ((6 : Int32))]) rfl (Nat.le_of_ble_eq_true rfl) (ok_X12_refuse (cG Γ) h x0 ((6 : Int32)) hx0) dX12_back_10 rfl (Nat.le_of_ble_eq_true rfl)) (fun r3 => ?_)
    exact x_iret hO rfl dX12_back_13 (hR _)
theorem ok_X12_back (G : Gl) (h : Hp) (x0 : Nat) (hx0 : Is x0 12) : CN G mX12_back [.ref (gb G + x0)] h ((F_X12_back h x0).map (emHI)) := CN.fn pn_RX12 (Nat.le_of_ble_eq_true rfl) (fun Γ hG hO => by subst hG; exact go_X12_back hO h x0 hx0 (fun _ q => q))
noncomputable def B_X12_code_57 (h : Hp) (x0 : Nat) (x1 : Int32) (x2 : Int32) (x3 : Int32) (x4 : Int32) (x5 : Int32) : Option ((Int32 × Int32 × Int32) ⊕ (Int32 × Int32)) :=
  if x5 < 0 then some (.inr ((x3, x4))) else gd (ib (((372 : Int32)) + (((2 : Int32)) * x5)) (LEN (GR x0 0))) (if (hI h (GR x0 0) (nx (((372 : Int32)) + (((2 : Int32)) * x5)))) = x1 then some (.inl (x3 + (1 : Int32), x5, x5 + (-1 : Int32))) else some (.inl (x3, x4, x5 + (-1 : Int32))))
noncomputable def L_X12_code_57 (h : Hp) (x0 : Nat) (x1 : Int32) (x2 : Int32) (x3 : Int32) (x4 : Int32) (x5 : Int32) : Option (Int32 × Int32) := iterW (fun s : Int32 × Int32 × Int32 => B_X12_code_57 h x0 x1 x2 s.1 s.2.1 s.2.2) (x3, x4, x5)
set_option maxHeartbeats 4000000 in
set_option maxRecDepth 100000 in
theorem go_X12_code_B57 {Γ : Cx} (hO : Ok Γ mX12_code) (h : Hp) (x0 : Nat) (x1 : Int32) (x2 : Int32) (x3 : Int32) (x4 : Int32) (x5 : Int32) (hx0 : Is x0 12) {K : (Int32 × Int32 × Int32) ⊕ (Int32 × Int32) → Prop} (hC : ∀ (x3 : Int32) (x4 : Int32) (x5 : Int32), K (.inl (x3, x4, x5)) → EW Γ mX12_code 57 [(0, rf Γ x0), (1, .int x1), (2, .int x2), (3, .int x3), (4, .int x4), (5, .int x5)] [] h) (hE95 : ∀ (x3 : Int32) (x4 : Int32), K (.inr ((x3, x4))) → EW Γ mX12_code 95 [(0, rf Γ x0), (2, .int x2), (3, .int x3), (4, .int x4)] [] h) : EG Γ mX12_code 57 [(0, rf Γ x0), (1, .int x1), (2, .int x2), (3, .int x3), (4, .int x4), (5, .int x5)] [] h (B_X12_code_57 h x0 x1 x2 x3 x4 x5) K := by
  unfold B_X12_code_57
  refine x_iload hO 5 rfl dX12_code_57 ?_
  refine x_if_lt hO (tg := 95) dX12_code_59 (by decide) ?_ ?_
  · exact x_leafs [0, 2, 3, 4] rfl (hE95 x3 x4)
  · refine x_aload_n hO 0 rfl rfl dX12_code_62 ?_
    refine x_getR hO fl_RX12_7 hx0 dX12_code_63 ?_
    refine x_sipush hO (v := 372) (by decide) dX12_code_66 ?_
    refine x_iconst hO (v := 2) (by decide) dX12_code_69 ?_
    refine x_iload hO 5 rfl dX12_code_70 ?_
    refine x_imul hO dX12_code_72 ?_
    refine x_iadd hO dX12_code_73 ?_
    refine x_iald hO (gr_12_0 hx0) dX12_code_74 ?_
    refine x_iload_n hO 1 rfl rfl dX12_code_75 ?_
    refine x_icmp_eq hO (tg := 82) dX12_code_76 (by decide) ?_ ?_
    · refine x_iinc hO 3 (v := 1) [(3, .int (x3 + (1 : Int32))), (0, rf Γ x0), (1, .int x1), (2, .int x2), (4, .int x4), (5, .int x5)] dX12_code_82 rfl (by decide) (by decide) rfl ?_
      refine x_iload hO 5 rfl dX12_code_85 ?_
      refine x_istore hO [(4, .int x5), (3, .int (x3 + (1 : Int32))), (0, rf Γ x0), (1, .int x1), (2, .int x2), (5, .int x5)] dX12_code_87 (by decide) rfl ?_
      refine x_iinc hO 5 (v := -1) [(5, .int (x5 + (-1 : Int32))), (4, .int x5), (3, .int (x3 + (1 : Int32))), (0, rf Γ x0), (1, .int x1), (2, .int x2)] dX12_code_89 rfl (by decide) (by decide) rfl ?_
      refine x_goto hO (tg := 57) dX12_code_92 (by decide) ?_
      exact x_leafs [3, 4, 5, 2, 1, 0] rfl (hC (x3 + (1 : Int32)) x5 (x5 + (-1 : Int32)))
    · refine x_goto hO (tg := 89) dX12_code_79 (by decide) ?_
      refine x_iinc hO 5 (v := -1) [(5, .int (x5 + (-1 : Int32))), (0, rf Γ x0), (1, .int x1), (2, .int x2), (3, .int x3), (4, .int x4)] dX12_code_89 rfl (by decide) (by decide) rfl ?_
      refine x_goto hO (tg := 57) dX12_code_92 (by decide) ?_
      exact x_leafs [1, 2, 3, 4, 5, 0] rfl (hC x3 x4 (x5 + (-1 : Int32)))
set_option maxHeartbeats 4000000 in
set_option maxRecDepth 100000 in
theorem go_X12_code_L57 {Γ : Cx} (hO : Ok Γ mX12_code) (h : Hp) (x0 : Nat) (x1 : Int32) (x2 : Int32) (x3 : Int32) (x4 : Int32) (x5 : Int32) (hx0 : Is x0 12) {K : Int32 × Int32 → Prop} (hE95 : ∀ (x3 : Int32) (x4 : Int32), K ((x3, x4)) → EW Γ mX12_code 95 [(0, rf Γ x0), (2, .int x2), (3, .int x3), (4, .int x4)] [] h) : EG Γ mX12_code 57 [(0, rf Γ x0), (1, .int x1), (2, .int x2), (3, .int x3), (4, .int x4), (5, .int x5)] [] h (L_X12_code_57 h x0 x1 x2 x3 x4 x5) K := by
  have q := x_loop (Γ := Γ) (M := mX12_code) (pc := 57) (B := fun s : Int32 × Int32 × Int32 => B_X12_code_57 h x0 x1 x2 s.1 s.2.1 s.2.2) (lvf := fun s => [(0, rf Γ x0), (1, .int x1), (2, .int x2), (3, .int s.1), (4, .int s.2.1), (5, .int s.2.2)]) (hf := fun s => h) (Ky := K) (fun s => go_X12_code_B57 hO h x0 x1 x2 s.1 s.2.1 s.2.2 hx0 (fun _ _ _ => id) hE95) (x3, x4, x5)
  exact q
noncomputable def F_X12_code (h : Hp) (x0 : Nat) (x1 : Int32) (x2 : Int32) : Option (Hp × Int32) :=
  (F_X12_isCode h x0 x1).bind (fun r1 => if r1 = 0 then (F_X12_refuse h x0 ((1 : Int32))).bind (fun r2 => some ((r2.1, r2.2))) else if x2 < 0 then (F_X12_refuse h x0 ((1 : Int32))).bind (fun r3 => some ((r3.1, r3.2))) else if x2 ≤ ((2 : Int32)) then if x2 = 0 then gd (ib (((368 : Int32)) + x1) (LEN (GR x0 0))) ((F_X12_gives h x0 (hI h (GR x0 0) (nx (((368 : Int32)) + x1)))).bind (fun r9 => some ((r9.1, r9.2)))) else gd (ib ((3 : Int32)) (LEN (GR x0 0))) (bnd ((hI h (GR x0 0) (nx ((3 : Int32)))) - ((1 : Int32))) (fun v4 => (L_X12_code_57 h x0 x1 x2 ((0 : Int32)) ((-1 : Int32)) v4).bind (fun e5 => if x2 = ((2 : Int32)) then (F_X12_gives h x0 e5.1).bind (fun r8 => some ((r8.1, r8.2))) else if e5.2 = ((-1 : Int32)) then (F_X12_refuse h x0 ((6 : Int32))).bind (fun r7 => some ((r7.1, r7.2))) else (F_X12_gives h x0 e5.2).bind (fun r6 => some ((r6.1, r6.2)))))) else (F_X12_refuse h x0 ((1 : Int32))).bind (fun r10 => some ((r10.1, r10.2))))
set_option maxHeartbeats 4000000 in
set_option maxRecDepth 100000 in
theorem go_X12_code {Γ : Cx} (hO : Ok Γ mX12_code) (h : Hp) (x0 : Nat) (x1 : Int32) (x2 : Int32) (hx0 : Is x0 12) {K : Hp × Int32 → Prop} (hR : ∀ r, K r → emHI r = tgt Γ) : EG Γ mX12_code 0 [(0, rf Γ x0), (1, .int x1), (2, .int x2)] [] h (F_X12_code h x0 x1 x2) K := by
  unfold F_X12_code
  refine x_aload_n hO 0 rfl rfl dX12_code_0 ?_
  refine x_iload_n hO 1 rfl rfl dX12_code_1 ?_
  refine y_PI (x_callV hO lv_RX12_271 hx0 vc_12 (by decide) (As := [.int x1]) rfl (Nat.le_of_ble_eq_true rfl) (ok_X12_isCode (cG Γ) h x0 x1 hx0) dX12_code_2 rfl (Nat.le_of_ble_eq_true rfl)) (fun r1 => ?_)
  refine x_if_eq hO (tg := 17) dX12_code_5 (by decide) ?_ ?_
  · refine x_aload_n hO 0 rfl rfl dX12_code_17 ?_
    refine x_iconst hO (v := 1) (by decide) dX12_code_18 ?_
    refine y_HI (x_callV hO lv_RX12_137 hx0 vc_12 (by decide) (As := [.int ((1 : Int32))]) rfl (Nat.le_of_ble_eq_true rfl) (ok_X12_refuse (cG Γ) h x0 ((1 : Int32)) hx0) dX12_code_19 rfl (Nat.le_of_ble_eq_true rfl)) (fun r2 => ?_)
    exact x_iret hO rfl dX12_code_22 (hR _)
  · refine x_iload_n hO 2 rfl rfl dX12_code_8 ?_
    refine x_if_lt hO (tg := 17) dX12_code_9 (by decide) ?_ ?_
    · refine x_aload_n hO 0 rfl rfl dX12_code_17 ?_
      refine x_iconst hO (v := 1) (by decide) dX12_code_18 ?_
      refine y_HI (x_callV hO lv_RX12_137 hx0 vc_12 (by decide) (As := [.int ((1 : Int32))]) rfl (Nat.le_of_ble_eq_true rfl) (ok_X12_refuse (cG Γ) h x0 ((1 : Int32)) hx0) dX12_code_19 rfl (Nat.le_of_ble_eq_true rfl)) (fun r3 => ?_)
      exact x_iret hO rfl dX12_code_22 (hR _)
    · refine x_iload_n hO 2 rfl rfl dX12_code_12 ?_
      refine x_iconst hO (v := 2) (by decide) dX12_code_13 ?_
      refine x_icmp_le hO (tg := 23) dX12_code_14 (by decide) ?_ ?_
      · refine x_iload_n hO 2 rfl rfl dX12_code_23 ?_
        refine x_if_ne hO (tg := 42) dX12_code_24 (by decide) ?_ ?_
        · refine x_iconst hO (v := 0) (by decide) dX12_code_42 ?_
          refine x_istore_n hO rfl [(3, .int ((0 : Int32))), (0, rf Γ x0), (1, .int x1), (2, .int x2)] dX12_code_43 (by decide) rfl ?_
          refine x_iconst hO (v := -1) (by decide) dX12_code_44 ?_
          refine x_istore hO [(4, .int ((-1 : Int32))), (3, .int ((0 : Int32))), (0, rf Γ x0), (1, .int x1), (2, .int x2)] dX12_code_45 (by decide) rfl ?_
          refine x_aload_n hO 2 rfl rfl dX12_code_47 ?_
          refine x_getR hO fl_RX12_7 hx0 dX12_code_48 ?_
          refine x_iconst hO (v := 3) (by decide) dX12_code_51 ?_
          refine x_iald hO (gr_12_0 hx0) dX12_code_52 ?_
          refine x_iconst hO (v := 1) (by decide) dX12_code_53 ?_
          refine x_isub hO dX12_code_54 ?_
          refine x_bnd ?_
          generalize (hI h (GR x0 0) (nx ((3 : Int32)))) - ((1 : Int32)) = v4
          refine x_istore hO [(5, .int v4), (4, .int ((-1 : Int32))), (3, .int ((0 : Int32))), (0, rf Γ x0), (1, .int x1), (2, .int x2)] dX12_code_55 (by decide) rfl ?_
          refine x_bind (x_sub [3, 4, 5, 2, 1, 0] rfl (go_X12_code_L57 hO h x0 x1 x2 ((0 : Int32)) ((-1 : Int32)) v4 hx0 (fun y5_0 y5_1 hx => ?_)))
          refine x_run (t := (if x2 = ((2 : Int32)) then (F_X12_gives h x0 y5_0).bind (fun r8 => some ((r8.1, r8.2))) else if y5_1 = ((-1 : Int32)) then (F_X12_refuse h x0 ((6 : Int32))).bind (fun r7 => some ((r7.1, r7.2))) else (F_X12_gives h x0 y5_1).bind (fun r6 => some ((r6.1, r6.2))) : Option (Hp × Int32))) hx ?_
          refine x_iload_n hO 1 rfl rfl dX12_code_95 ?_
          refine x_iconst hO (v := 2) (by decide) dX12_code_96 ?_
          refine x_icmp_ne hO (tg := 108) dX12_code_97 (by decide) ?_ ?_
          · refine x_iload hO 3 rfl dX12_code_108 ?_
            refine x_iconst hO (v := -1) (by decide) dX12_code_110 ?_
            refine x_icmp_ne hO (tg := 123) dX12_code_111 (by decide) ?_ ?_
            · refine x_aload_n hO 0 rfl rfl dX12_code_123 ?_
              refine x_iload hO 3 rfl dX12_code_124 ?_
              refine y_HI (x_callV hO lv_RX12_146 hx0 vc_12 (by decide) (As := [.int y5_1]) rfl (Nat.le_of_ble_eq_true rfl) (ok_X12_gives (cG Γ) h x0 y5_1 hx0) dX12_code_126 rfl (Nat.le_of_ble_eq_true rfl)) (fun r6 => ?_)
              exact x_iret hO rfl dX12_code_129 (hR _)
            · refine x_aload_n hO 0 rfl rfl dX12_code_114 ?_
              refine x_bipush hO (v := 6) (by decide) dX12_code_115 ?_
              refine y_HI (x_callV hO lv_RX12_137 hx0 vc_12 (by decide) (As := [.int ((6 : Int32))]) rfl (Nat.le_of_ble_eq_true rfl) (ok_X12_refuse (cG Γ) h x0 ((6 : Int32)) hx0) dX12_code_117 rfl (Nat.le_of_ble_eq_true rfl)) (fun r7 => ?_)
              refine x_goto hO (tg := 129) dX12_code_120 (by decide) ?_
              exact x_iret hO rfl dX12_code_129 (hR _)
          · refine x_aload_n hO 0 rfl rfl dX12_code_100 ?_
            refine x_iload_n hO 2 rfl rfl dX12_code_101 ?_
            refine y_HI (x_callV hO lv_RX12_146 hx0 vc_12 (by decide) (As := [.int y5_0]) rfl (Nat.le_of_ble_eq_true rfl) (ok_X12_gives (cG Γ) h x0 y5_0 hx0) dX12_code_102 rfl (Nat.le_of_ble_eq_true rfl)) (fun r8 => ?_)
            refine x_goto hO (tg := 129) dX12_code_105 (by decide) ?_
            exact x_iret hO rfl dX12_code_129 (hR _)
        · refine x_aload_n hO 0 rfl rfl dX12_code_27 ?_
          refine x_aload_n hO 0 rfl rfl dX12_code_28 ?_
          refine x_getR hO fl_RX12_7 hx0 dX12_code_29 ?_
          refine x_sipush hO (v := 368) (by decide) dX12_code_32 ?_
          refine x_iload_n hO 1 rfl rfl dX12_code_35 ?_
          refine x_iadd hO dX12_code_36 ?_
          refine x_iald hO (gr_12_0 hx0) dX12_code_37 ?_
          refine y_HI (x_callV hO lv_RX12_146 hx0 vc_12 (by decide) (As := [.int (hI h (GR x0 0) (nx (((368 : Int32)) + x1)))]) rfl (Nat.le_of_ble_eq_true rfl) (ok_X12_gives (cG Γ) h x0 (hI h (GR x0 0) (nx (((368 : Int32)) + x1))) hx0) dX12_code_38 rfl (Nat.le_of_ble_eq_true rfl)) (fun r9 => ?_)
          exact x_iret hO rfl dX12_code_41 (hR _)
      · refine x_aload_n hO 0 rfl rfl dX12_code_17 ?_
        refine x_iconst hO (v := 1) (by decide) dX12_code_18 ?_
        refine y_HI (x_callV hO lv_RX12_137 hx0 vc_12 (by decide) (As := [.int ((1 : Int32))]) rfl (Nat.le_of_ble_eq_true rfl) (ok_X12_refuse (cG Γ) h x0 ((1 : Int32)) hx0) dX12_code_19 rfl (Nat.le_of_ble_eq_true rfl)) (fun r10 => ?_)
        exact x_iret hO rfl dX12_code_22 (hR _)
theorem ok_X12_code (G : Gl) (h : Hp) (x0 : Nat) (x1 : Int32) (x2 : Int32) (hx0 : Is x0 12) : CN G mX12_code [.ref (gb G + x0), .int x1, .int x2] h ((F_X12_code h x0 x1 x2).map (emHI)) := CN.fn pn_RX12 (Nat.le_of_ble_eq_true rfl) (fun Γ hG hO => by subst hG; exact go_X12_code hO h x0 x1 x2 hx0 (fun _ q => q))
noncomputable def B_X12_countsOf_5 (h : Hp) (x0 : Nat) (x1 : Int32) (x2 : Int32) (x3 : Int32) (x4 : Int32) : Option ((Int32 × Int32) ⊕ (Int32)) :=
  gd (ib ((0 : Int32)) (LEN (GR x0 0))) (if (hI h (GR x0 0) (nx ((0 : Int32)))) ≤ x4 then some (.inr x3) else (F_X12_ofCard h x0 x4 x2).bind (fun r1 => gd (ib ((((372 : Int32)) + (((2 : Int32)) * x1)) + ((1 : Int32))) (LEN (GR x0 0))) (if r1 = (hI h (GR x0 0) (nx ((((372 : Int32)) + (((2 : Int32)) * x1)) + ((1 : Int32))))) then some (.inl (x3 + ((1 : Int32)), x4 + (1 : Int32))) else some (.inl (x3 + ((0 : Int32)), x4 + (1 : Int32))))))
noncomputable def L_X12_countsOf_5 (h : Hp) (x0 : Nat) (x1 : Int32) (x2 : Int32) (x3 : Int32) (x4 : Int32) : Option (Int32) := iterW (fun s : Int32 × Int32 => B_X12_countsOf_5 h x0 x1 x2 s.1 s.2) (x3, x4)
set_option maxHeartbeats 4000000 in
set_option maxRecDepth 100000 in
theorem go_X12_countsOf_B5 {Γ : Cx} (hO : Ok Γ mX12_countsOf) (h : Hp) (x0 : Nat) (x1 : Int32) (x2 : Int32) (x3 : Int32) (x4 : Int32) (hx0 : Is x0 12) {K : (Int32 × Int32) ⊕ (Int32) → Prop} (hC : ∀ (x3 : Int32) (x4 : Int32), K (.inl (x3, x4)) → EW Γ mX12_countsOf 5 [(0, rf Γ x0), (1, .int x1), (2, .int x2), (3, .int x3), (4, .int x4)] [] h) (hR : ∀ r, K (.inr r) → emPI h r = tgt Γ) : EG Γ mX12_countsOf 5 [(0, rf Γ x0), (1, .int x1), (2, .int x2), (3, .int x3), (4, .int x4)] [] h (B_X12_countsOf_5 h x0 x1 x2 x3 x4) K := by
  unfold B_X12_countsOf_5
  refine x_iload hO 4 rfl dX12_countsOf_5 ?_
  refine x_aload_n hO 0 rfl rfl dX12_countsOf_7 ?_
  refine x_getR hO fl_RX12_7 hx0 dX12_countsOf_8 ?_
  refine x_iconst hO (v := 0) (by decide) dX12_countsOf_11 ?_
  refine x_iald hO (gr_12_0 hx0) dX12_countsOf_12 ?_
  refine x_icmp_ge hO (tg := 54) dX12_countsOf_13 (by decide) ?_ ?_
  · refine x_iload_n hO 3 rfl rfl dX12_countsOf_54 ?_
    exact x_iret hO rfl dX12_countsOf_55 (hR _)
  · refine x_iload_n hO 3 rfl rfl dX12_countsOf_16 ?_
    refine x_aload_n hO 0 rfl rfl dX12_countsOf_17 ?_
    refine x_iload hO 4 rfl dX12_countsOf_18 ?_
    refine x_iload_n hO 2 rfl rfl dX12_countsOf_20 ?_
    refine y_PI (x_callV hO lv_RX12_130 hx0 vc_12 (by decide) (As := [.int x4, .int x2]) rfl (Nat.le_of_ble_eq_true rfl) (ok_X12_ofCard (cG Γ) h x0 x4 x2 hx0) dX12_countsOf_21 rfl (Nat.le_of_ble_eq_true rfl)) (fun r1 => ?_)
    refine x_aload_n hO 0 rfl rfl dX12_countsOf_24 ?_
    refine x_getR hO fl_RX12_7 hx0 dX12_countsOf_25 ?_
    refine x_sipush hO (v := 372) (by decide) dX12_countsOf_28 ?_
    refine x_iconst hO (v := 2) (by decide) dX12_countsOf_31 ?_
    refine x_iload_n hO 1 rfl rfl dX12_countsOf_32 ?_
    refine x_imul hO dX12_countsOf_33 ?_
    refine x_iadd hO dX12_countsOf_34 ?_
    refine x_iconst hO (v := 1) (by decide) dX12_countsOf_35 ?_
    refine x_iadd hO dX12_countsOf_36 ?_
    refine x_iald hO (gr_12_0 hx0) dX12_countsOf_37 ?_
    refine x_icmp_ne hO (tg := 45) dX12_countsOf_38 (by decide) ?_ ?_
    · refine x_iconst hO (v := 0) (by decide) dX12_countsOf_45 ?_
      refine x_iadd hO dX12_countsOf_46 ?_
      refine x_istore_n hO rfl [(3, .int (x3 + ((0 : Int32)))), (0, rf Γ x0), (1, .int x1), (2, .int x2), (4, .int x4)] dX12_countsOf_47 (by decide) rfl ?_
      refine x_iinc hO 4 (v := 1) [(4, .int (x4 + (1 : Int32))), (3, .int (x3 + ((0 : Int32)))), (0, rf Γ x0), (1, .int x1), (2, .int x2)] dX12_countsOf_48 rfl (by decide) (by decide) rfl ?_
      refine x_goto hO (tg := 5) dX12_countsOf_51 (by decide) ?_
      exact x_leafs [2, 3, 4, 1, 0] rfl (hC (x3 + ((0 : Int32))) (x4 + (1 : Int32)))
    · refine x_iconst hO (v := 1) (by decide) dX12_countsOf_41 ?_
      refine x_goto hO (tg := 46) dX12_countsOf_42 (by decide) ?_
      refine x_iadd hO dX12_countsOf_46 ?_
      refine x_istore_n hO rfl [(3, .int (x3 + ((1 : Int32)))), (0, rf Γ x0), (1, .int x1), (2, .int x2), (4, .int x4)] dX12_countsOf_47 (by decide) rfl ?_
      refine x_iinc hO 4 (v := 1) [(4, .int (x4 + (1 : Int32))), (3, .int (x3 + ((1 : Int32)))), (0, rf Γ x0), (1, .int x1), (2, .int x2)] dX12_countsOf_48 rfl (by decide) (by decide) rfl ?_
      refine x_goto hO (tg := 5) dX12_countsOf_51 (by decide) ?_
      exact x_leafs [2, 3, 4, 1, 0] rfl (hC (x3 + ((1 : Int32))) (x4 + (1 : Int32)))
set_option maxHeartbeats 4000000 in
set_option maxRecDepth 100000 in
theorem go_X12_countsOf_L5 {Γ : Cx} (hO : Ok Γ mX12_countsOf) (h : Hp) (x0 : Nat) (x1 : Int32) (x2 : Int32) (x3 : Int32) (x4 : Int32) (hx0 : Is x0 12) {K : Int32 → Prop} (hR : ∀ r, K (r) → emPI h r = tgt Γ) : EG Γ mX12_countsOf 5 [(0, rf Γ x0), (1, .int x1), (2, .int x2), (3, .int x3), (4, .int x4)] [] h (L_X12_countsOf_5 h x0 x1 x2 x3 x4) K := by
  have q := x_loop (Γ := Γ) (M := mX12_countsOf) (pc := 5) (B := fun s : Int32 × Int32 => B_X12_countsOf_5 h x0 x1 x2 s.1 s.2) (lvf := fun s => [(0, rf Γ x0), (1, .int x1), (2, .int x2), (3, .int s.1), (4, .int s.2)]) (hf := fun s => h) (Ky := K) (fun s => go_X12_countsOf_B5 hO h x0 x1 x2 s.1 s.2 hx0 (fun _ _ => id) hR) (x3, x4)
  exact q
noncomputable def F_X12_countsOf (h : Hp) (x0 : Nat) (x1 : Int32) (x2 : Int32) : Option (Int32) :=
  L_X12_countsOf_5 h x0 x1 x2 ((0 : Int32)) ((0 : Int32))
set_option maxHeartbeats 4000000 in
set_option maxRecDepth 100000 in
theorem go_X12_countsOf {Γ : Cx} (hO : Ok Γ mX12_countsOf) (h : Hp) (x0 : Nat) (x1 : Int32) (x2 : Int32) (hx0 : Is x0 12) {K : Int32 → Prop} (hR : ∀ r, K r → emPI h r = tgt Γ) : EG Γ mX12_countsOf 0 [(0, rf Γ x0), (1, .int x1), (2, .int x2)] [] h (F_X12_countsOf h x0 x1 x2) K := by
  unfold F_X12_countsOf
  refine x_iconst hO (v := 0) (by decide) dX12_countsOf_0 ?_
  refine x_istore_n hO rfl [(3, .int ((0 : Int32))), (0, rf Γ x0), (1, .int x1), (2, .int x2)] dX12_countsOf_1 (by decide) rfl ?_
  refine x_iconst hO (v := 0) (by decide) dX12_countsOf_2 ?_
  refine x_istore hO [(4, .int ((0 : Int32))), (3, .int ((0 : Int32))), (0, rf Γ x0), (1, .int x1), (2, .int x2)] dX12_countsOf_3 (by decide) rfl ?_
  exact x_sub [2, 3, 4, 1, 0] rfl (go_X12_countsOf_L5 hO h x0 x1 x2 ((0 : Int32)) ((0 : Int32)) hx0 hR)
theorem ok_X12_countsOf (G : Gl) (h : Hp) (x0 : Nat) (x1 : Int32) (x2 : Int32) (hx0 : Is x0 12) : CN G mX12_countsOf [.ref (gb G + x0), .int x1, .int x2] h ((F_X12_countsOf h x0 x1 x2).map (emPI h)) := CN.fn pn_RX12 (Nat.le_of_ble_eq_true rfl) (fun Γ hG hO => by subst hG; exact go_X12_countsOf hO h x0 x1 x2 hx0 (fun _ q => q))
noncomputable def B_X12_cuts_13 (h : Hp) (x0 : Nat) (x1 : Int32) (x2 : Int32) (x3 : Int32) : Option ((Hp × Int32) ⊕ (Hp)) :=
  if x2 ≤ x3 then some (.inr h) else if x2 ≤ x1 then some (.inr h) else gd (!decide (x2 = 0)) (gd (ib ((x3 + x1) - (x3 + x1) / x2 * x2) (LEN (GR x0 25))) (gd (ib (((338 : Int32)) + x3) (LEN (GR x0 0))) (some (.inl (uI h (GR x0 0) (nx (((338 : Int32)) + x3)) (hI h (GR x0 25) (nx ((x3 + x1) - (x3 + x1) / x2 * x2))), x3 + (1 : Int32))))))
noncomputable def L_X12_cuts_13 (h : Hp) (x0 : Nat) (x1 : Int32) (x2 : Int32) (x3 : Int32) : Option (Hp) := iterW (fun s : Hp × Int32 => B_X12_cuts_13 s.1 x0 x1 x2 s.2) (h, x3)
set_option maxHeartbeats 4000000 in
set_option maxRecDepth 100000 in
theorem go_X12_cuts_B13 {Γ : Cx} (hO : Ok Γ mX12_cuts) (h : Hp) (x0 : Nat) (x1 : Int32) (x2 : Int32) (x3 : Int32) (hx0 : Is x0 12) {K : (Hp × Int32) ⊕ (Hp) → Prop} (hC : ∀ (h : Hp) (x3 : Int32), K (.inl (h, x3)) → EW Γ mX12_cuts 13 [(0, rf Γ x0), (1, .int x1), (2, .int x2), (3, .int x3)] [] h) (hR : ∀ r, K (.inr r) → emHV r = tgt Γ) : EG Γ mX12_cuts 13 [(0, rf Γ x0), (1, .int x1), (2, .int x2), (3, .int x3)] [] h (B_X12_cuts_13 h x0 x1 x2 x3) K := by
  unfold B_X12_cuts_13
  refine x_iload_n hO 3 rfl rfl dX12_cuts_13 ?_
  refine x_iload_n hO 2 rfl rfl dX12_cuts_14 ?_
  refine x_icmp_ge hO (tg := 49) dX12_cuts_15 (by decide) ?_ ?_
  · exact x_vret hO rfl dX12_cuts_49 (hR _)
  · refine x_iload_n hO 1 rfl rfl dX12_cuts_18 ?_
    refine x_iload_n hO 2 rfl rfl dX12_cuts_19 ?_
    refine x_icmp_ge hO (tg := 49) dX12_cuts_20 (by decide) ?_ ?_
    · exact x_vret hO rfl dX12_cuts_49 (hR _)
    · refine x_aload_n hO 0 rfl rfl dX12_cuts_23 ?_
      refine x_getR hO fl_RX12_7 hx0 dX12_cuts_24 ?_
      refine x_sipush hO (v := 338) (by decide) dX12_cuts_27 ?_
      refine x_iload_n hO 3 rfl rfl dX12_cuts_30 ?_
      refine x_iadd hO dX12_cuts_31 ?_
      refine x_aload_n hO 0 rfl rfl dX12_cuts_32 ?_
      refine x_getR hO fl_RX12_56 hx0 dX12_cuts_33 ?_
      refine x_iload_n hO 3 rfl rfl dX12_cuts_36 ?_
      refine x_iload_n hO 1 rfl rfl dX12_cuts_37 ?_
      refine x_iadd hO dX12_cuts_38 ?_
      refine x_iload_n hO 2 rfl rfl dX12_cuts_39 ?_
      refine x_irem hO dX12_cuts_40 ?_
      refine x_iald hO (gr_12_25 hx0) dX12_cuts_41 ?_
      refine x_iast hO (gr_12_0 hx0) dX12_cuts_42 ?_
      refine x_iinc hO 3 (v := 1) [(3, .int (x3 + (1 : Int32))), (0, rf Γ x0), (1, .int x1), (2, .int x2)] dX12_cuts_43 rfl (by decide) (by decide) rfl ?_
      refine x_goto hO (tg := 13) dX12_cuts_46 (by decide) ?_
      exact x_leafs [1, 2, 3, 0] rfl (hC (uI h (GR x0 0) (nx (((338 : Int32)) + x3)) (hI h (GR x0 25) (nx ((x3 + x1) - (x3 + x1) / x2 * x2)))) (x3 + (1 : Int32)))
set_option maxHeartbeats 4000000 in
set_option maxRecDepth 100000 in
theorem go_X12_cuts_L13 {Γ : Cx} (hO : Ok Γ mX12_cuts) (h : Hp) (x0 : Nat) (x1 : Int32) (x2 : Int32) (x3 : Int32) (hx0 : Is x0 12) {K : Hp → Prop} (hR : ∀ r, K (r) → emHV r = tgt Γ) : EG Γ mX12_cuts 13 [(0, rf Γ x0), (1, .int x1), (2, .int x2), (3, .int x3)] [] h (L_X12_cuts_13 h x0 x1 x2 x3) K := by
  have q := x_loop (Γ := Γ) (M := mX12_cuts) (pc := 13) (B := fun s : Hp × Int32 => B_X12_cuts_13 s.1 x0 x1 x2 s.2) (lvf := fun s => [(0, rf Γ x0), (1, .int x1), (2, .int x2), (3, .int s.2)]) (hf := fun s => s.1) (Ky := K) (fun s => go_X12_cuts_B13 hO s.1 x0 x1 x2 s.2 hx0 (fun _ _ => id) hR) (h, x3)
  exact q
noncomputable def F_X12_cuts (h : Hp) (x0 : Nat) (x1 : Int32) : Option (Hp) :=
  gd (ib ((0 : Int32)) (LEN (GR x0 0))) ((F_X12_takes h x0).bind (fun r1 => L_X12_cuts_13 r1 x0 x1 (hI h (GR x0 0) (nx ((0 : Int32)))) ((0 : Int32))))
set_option maxHeartbeats 4000000 in
set_option maxRecDepth 100000 in
theorem go_X12_cuts {Γ : Cx} (hO : Ok Γ mX12_cuts) (h : Hp) (x0 : Nat) (x1 : Int32) (hx0 : Is x0 12) {K : Hp → Prop} (hR : ∀ r, K r → emHV r = tgt Γ) : EG Γ mX12_cuts 0 [(0, rf Γ x0), (1, .int x1)] [] h (F_X12_cuts h x0 x1) K := by
  unfold F_X12_cuts
  refine x_aload_n hO 0 rfl rfl dX12_cuts_0 ?_
  refine x_getR hO fl_RX12_7 hx0 dX12_cuts_1 ?_
  refine x_iconst hO (v := 0) (by decide) dX12_cuts_4 ?_
  refine x_iald hO (gr_12_0 hx0) dX12_cuts_5 ?_
  refine x_istore_n hO rfl [(2, .int (hI h (GR x0 0) (nx ((0 : Int32))))), (0, rf Γ x0), (1, .int x1)] dX12_cuts_6 (by decide) rfl ?_
  refine x_aload_n hO 1 rfl rfl dX12_cuts_7 ?_
  refine y_HV (x_callV hO lv_RX12_283 hx0 vc_12 (by decide) (As := []) rfl (Nat.le_of_ble_eq_true rfl) (ok_X12_takes (cG Γ) h x0 hx0) dX12_cuts_8 rfl (Nat.le_of_ble_eq_true rfl)) (fun r1 => ?_)
  refine x_iconst hO (v := 0) (by decide) dX12_cuts_11 ?_
  refine x_istore_n hO rfl [(3, .int ((0 : Int32))), (2, .int (hI h (GR x0 0) (nx ((0 : Int32))))), (0, rf Γ x0), (1, .int x1)] dX12_cuts_12 (by decide) rfl ?_
  exact x_sub [2, 3, 1, 0] rfl (go_X12_cuts_L13 hO r1 x0 x1 (hI h (GR x0 0) (nx ((0 : Int32)))) ((0 : Int32)) hx0 hR)
theorem ok_X12_cuts (G : Gl) (h : Hp) (x0 : Nat) (x1 : Int32) (hx0 : Is x0 12) : CN G mX12_cuts [.ref (gb G + x0), .int x1] h ((F_X12_cuts h x0 x1).map (emHV)) := CN.fn pn_RX12 (Nat.le_of_ble_eq_true rfl) (fun Γ hG hO => by subst hG; exact go_X12_cuts hO h x0 x1 hx0 (fun _ q => q))
noncomputable def F_X12_exchange (h : Hp) (x0 : Nat) (x1 : Int32) (x2 : Int32) : Option (Hp × Int32) :=
  (F_X12_isCard h x0 x1).bind (fun r1 => if r1 = 0 then (F_X12_is h x0 ((1 : Int32))).bind (fun r2 => some ((r2.1, r2.2 &&& 1))) else (F_X12_isCard h x0 x2).bind (fun r3 => if r3 = 0 then (F_X12_is h x0 ((1 : Int32))).bind (fun r4 => some ((r4.1, r4.2 &&& 1))) else if x1 = x2 then (F_X12_is h x0 ((1 : Int32))).bind (fun r8 => some ((r8.1, r8.2 &&& 1))) else (F_X12_placeOf h x0 x1).bind (fun r5 => (F_X12_placeOf h x0 x2).bind (fun r6 => gd (ib (((338 : Int32)) + r5) (LEN (GR x0 0))) (gd (ib (((338 : Int32)) + r6) (LEN (GR x0 0))) ((F_X12_is (uI (uI h (GR x0 0) (nx (((338 : Int32)) + r5)) x2) (GR x0 0) (nx (((338 : Int32)) + r6)) x1) x0 ((0 : Int32))).bind (fun r7 => some ((r7.1, r7.2 &&& 1)))))))))
set_option maxHeartbeats 4000000 in
set_option maxRecDepth 100000 in
theorem go_X12_exchange {Γ : Cx} (hO : Ok Γ mX12_exchange) (h : Hp) (x0 : Nat) (x1 : Int32) (x2 : Int32) (hx0 : Is x0 12) {K : Hp × Int32 → Prop} (hR : ∀ r, K r → emHI r = tgt Γ) : EG Γ mX12_exchange 0 [(0, rf Γ x0), (1, .int x1), (2, .int x2)] [] h (F_X12_exchange h x0 x1 x2) K := by
  unfold F_X12_exchange
  refine x_aload_n hO 0 rfl rfl dX12_exchange_0 ?_
  refine x_iload_n hO 1 rfl rfl dX12_exchange_1 ?_
  refine y_PI (x_callV hO lv_RX12_149 hx0 vc_12 (by decide) (As := [.int x1]) rfl (Nat.le_of_ble_eq_true rfl) (ok_X12_isCard (cG Γ) h x0 x1 hx0) dX12_exchange_2 rfl (Nat.le_of_ble_eq_true rfl)) (fun r1 => ?_)
  refine x_if_eq hO (tg := 21) dX12_exchange_5 (by decide) ?_ ?_
  · refine x_aload_n hO 0 rfl rfl dX12_exchange_21 ?_
    refine x_iconst hO (v := 1) (by decide) dX12_exchange_22 ?_
    refine y_HI (x_callV hO lv_RX12_117 hx0 vc_12 (by decide) (As := [.int ((1 : Int32))]) rfl (Nat.le_of_ble_eq_true rfl) (ok_X12_is (cG Γ) h x0 ((1 : Int32)) hx0) dX12_exchange_23 rfl (Nat.le_of_ble_eq_true rfl)) (fun r2 => ?_)
    exact x_zret hO rfl dX12_exchange_26 (hR _)
  · refine x_aload_n hO 0 rfl rfl dX12_exchange_8 ?_
    refine x_iload_n hO 2 rfl rfl dX12_exchange_9 ?_
    refine y_PI (x_callV hO lv_RX12_149 hx0 vc_12 (by decide) (As := [.int x2]) rfl (Nat.le_of_ble_eq_true rfl) (ok_X12_isCard (cG Γ) h x0 x2 hx0) dX12_exchange_10 rfl (Nat.le_of_ble_eq_true rfl)) (fun r3 => ?_)
    refine x_if_eq hO (tg := 21) dX12_exchange_13 (by decide) ?_ ?_
    · refine x_aload_n hO 0 rfl rfl dX12_exchange_21 ?_
      refine x_iconst hO (v := 1) (by decide) dX12_exchange_22 ?_
      refine y_HI (x_callV hO lv_RX12_117 hx0 vc_12 (by decide) (As := [.int ((1 : Int32))]) rfl (Nat.le_of_ble_eq_true rfl) (ok_X12_is (cG Γ) h x0 ((1 : Int32)) hx0) dX12_exchange_23 rfl (Nat.le_of_ble_eq_true rfl)) (fun r4 => ?_)
      exact x_zret hO rfl dX12_exchange_26 (hR _)
    · refine x_iload_n hO 1 rfl rfl dX12_exchange_16 ?_
      refine x_iload_n hO 2 rfl rfl dX12_exchange_17 ?_
      refine x_icmp_ne hO (tg := 27) dX12_exchange_18 (by decide) ?_ ?_
      · refine x_aload_n hO 0 rfl rfl dX12_exchange_27 ?_
        refine x_iload_n hO 1 rfl rfl dX12_exchange_28 ?_
        refine y_PI (x_callV hO lv_RX12_158 hx0 vc_12 (by decide) (As := [.int x1]) rfl (Nat.le_of_ble_eq_true rfl) (ok_X12_placeOf (cG Γ) h x0 x1 hx0) dX12_exchange_29 rfl (Nat.le_of_ble_eq_true rfl)) (fun r5 => ?_)
        refine x_istore_n hO rfl [(3, .int r5), (0, rf Γ x0), (1, .int x1), (2, .int x2)] dX12_exchange_32 (by decide) rfl ?_
        refine x_aload_n hO 1 rfl rfl dX12_exchange_33 ?_
        refine x_iload_n hO 3 rfl rfl dX12_exchange_34 ?_
        refine y_PI (x_callV hO lv_RX12_158 hx0 vc_12 (by decide) (As := [.int x2]) rfl (Nat.le_of_ble_eq_true rfl) (ok_X12_placeOf (cG Γ) h x0 x2 hx0) dX12_exchange_35 rfl (Nat.le_of_ble_eq_true rfl)) (fun r6 => ?_)
        refine x_istore hO [(4, .int r6), (3, .int r5), (0, rf Γ x0), (1, .int x1), (2, .int x2)] dX12_exchange_38 (by decide) rfl ?_
        refine x_aload_n hO 2 rfl rfl dX12_exchange_40 ?_
        refine x_getR hO fl_RX12_7 hx0 dX12_exchange_41 ?_
        refine x_sipush hO (v := 338) (by decide) dX12_exchange_44 ?_
        refine x_iload_n hO 1 rfl rfl dX12_exchange_47 ?_
        refine x_iadd hO dX12_exchange_48 ?_
        refine x_iload_n hO 4 rfl rfl dX12_exchange_49 ?_
        refine x_iast hO (gr_12_0 hx0) dX12_exchange_50 ?_
        refine x_aload_n hO 2 rfl rfl dX12_exchange_51 ?_
        refine x_getR hO fl_RX12_7 hx0 dX12_exchange_52 ?_
        refine x_sipush hO (v := 338) (by decide) dX12_exchange_55 ?_
        refine x_iload hO 0 rfl dX12_exchange_58 ?_
        refine x_iadd hO dX12_exchange_60 ?_
        refine x_iload_n hO 3 rfl rfl dX12_exchange_61 ?_
        refine x_iast hO (gr_12_0 hx0) dX12_exchange_62 ?_
        refine x_aload_n hO 2 rfl rfl dX12_exchange_63 ?_
        refine x_iconst hO (v := 0) (by decide) dX12_exchange_64 ?_
        refine y_HI (x_callV hO lv_RX12_117 hx0 vc_12 (by decide) (As := [.int ((0 : Int32))]) rfl (Nat.le_of_ble_eq_true rfl) (ok_X12_is (cG Γ) (uI (uI h (GR x0 0) (nx (((338 : Int32)) + r5)) x2) (GR x0 0) (nx (((338 : Int32)) + r6)) x1) x0 ((0 : Int32)) hx0) dX12_exchange_65 rfl (Nat.le_of_ble_eq_true rfl)) (fun r7 => ?_)
        exact x_zret hO rfl dX12_exchange_68 (hR _)
      · refine x_aload_n hO 0 rfl rfl dX12_exchange_21 ?_
        refine x_iconst hO (v := 1) (by decide) dX12_exchange_22 ?_
        refine y_HI (x_callV hO lv_RX12_117 hx0 vc_12 (by decide) (As := [.int ((1 : Int32))]) rfl (Nat.le_of_ble_eq_true rfl) (ok_X12_is (cG Γ) h x0 ((1 : Int32)) hx0) dX12_exchange_23 rfl (Nat.le_of_ble_eq_true rfl)) (fun r8 => ?_)
        exact x_zret hO rfl dX12_exchange_26 (hR _)
theorem ok_X12_exchange (G : Gl) (h : Hp) (x0 : Nat) (x1 : Int32) (x2 : Int32) (hx0 : Is x0 12) : CN G mX12_exchange [.ref (gb G + x0), .int x1, .int x2] h ((F_X12_exchange h x0 x1 x2).map (emHI)) := CN.fn pn_RX12 (Nat.le_of_ble_eq_true rfl) (fun Γ hG hO => by subst hG; exact go_X12_exchange hO h x0 x1 x2 hx0 (fun _ q => q))
noncomputable def F_X12_feed (h : Hp) (x0 : Nat) (x1 : Int32) (x2 : Int32) (x3 : Int32) (x4 : Int32) (x5 : Int32) : Option (Hp × Int32) :=
  if ((hI h x0 9) + ((20 : Int32))) ≤ ((500 : Int32)) then (F_X12_four h x0 x1).bind (fun r1 => (F_X12_four r1 x0 x2).bind (fun r2 => (F_X12_four r2 x0 x3).bind (fun r3 => (F_X12_four r3 x0 x4).bind (fun r4 => (F_X12_four r4 x0 x5).bind (fun r5 => some ((r5, hI r5 x0 9))))))) else some ((h, (-1 : Int32)))
set_option maxHeartbeats 4000000 in
set_option maxRecDepth 100000 in
theorem go_X12_feed {Γ : Cx} (hO : Ok Γ mX12_feed) (h : Hp) (x0 : Nat) (x1 : Int32) (x2 : Int32) (x3 : Int32) (x4 : Int32) (x5 : Int32) (hx0 : Is x0 12) {K : Hp × Int32 → Prop} (hR : ∀ r, K r → emHI r = tgt Γ) : EG Γ mX12_feed 0 [(0, rf Γ x0), (1, .int x1), (2, .int x2), (3, .int x3), (4, .int x4), (5, .int x5)] [] h (F_X12_feed h x0 x1 x2 x3 x4 x5) K := by
  unfold F_X12_feed
  refine x_aload_n hO 0 rfl rfl dX12_feed_0 ?_
  refine x_getI hO fl_RX12_161 hx0 dX12_feed_1 ?_
  refine x_bipush hO (v := 20) (by decide) dX12_feed_4 ?_
  refine x_iadd hO dX12_feed_6 ?_
  refine x_sipush hO (v := 500) (by decide) dX12_feed_7 ?_
  refine x_icmp_le hO (tg := 15) dX12_feed_10 (by decide) ?_ ?_
  · refine x_aload_n hO 0 rfl rfl dX12_feed_15 ?_
    refine x_iload_n hO 1 rfl rfl dX12_feed_16 ?_
    refine y_HV (x_callV hO lv_RX12_164 hx0 vc_12 (by decide) (As := [.int x1]) rfl (Nat.le_of_ble_eq_true rfl) (ok_X12_four (cG Γ) h x0 x1 hx0) dX12_feed_17 rfl (Nat.le_of_ble_eq_true rfl)) (fun r1 => ?_)
    refine x_aload_n hO 0 rfl rfl dX12_feed_20 ?_
    refine x_iload_n hO 2 rfl rfl dX12_feed_21 ?_
    refine y_HV (x_callV hO lv_RX12_164 hx0 vc_12 (by decide) (As := [.int x2]) rfl (Nat.le_of_ble_eq_true rfl) (ok_X12_four (cG Γ) r1 x0 x2 hx0) dX12_feed_22 rfl (Nat.le_of_ble_eq_true rfl)) (fun r2 => ?_)
    refine x_aload_n hO 0 rfl rfl dX12_feed_25 ?_
    refine x_iload_n hO 3 rfl rfl dX12_feed_26 ?_
    refine y_HV (x_callV hO lv_RX12_164 hx0 vc_12 (by decide) (As := [.int x3]) rfl (Nat.le_of_ble_eq_true rfl) (ok_X12_four (cG Γ) r2 x0 x3 hx0) dX12_feed_27 rfl (Nat.le_of_ble_eq_true rfl)) (fun r3 => ?_)
    refine x_aload_n hO 0 rfl rfl dX12_feed_30 ?_
    refine x_iload hO 4 rfl dX12_feed_31 ?_
    refine y_HV (x_callV hO lv_RX12_164 hx0 vc_12 (by decide) (As := [.int x4]) rfl (Nat.le_of_ble_eq_true rfl) (ok_X12_four (cG Γ) r3 x0 x4 hx0) dX12_feed_33 rfl (Nat.le_of_ble_eq_true rfl)) (fun r4 => ?_)
    refine x_aload_n hO 0 rfl rfl dX12_feed_36 ?_
    refine x_iload hO 5 rfl dX12_feed_37 ?_
    refine y_HV (x_callV hO lv_RX12_164 hx0 vc_12 (by decide) (As := [.int x5]) rfl (Nat.le_of_ble_eq_true rfl) (ok_X12_four (cG Γ) r4 x0 x5 hx0) dX12_feed_39 rfl (Nat.le_of_ble_eq_true rfl)) (fun r5 => ?_)
    refine x_aload_n hO 0 rfl rfl dX12_feed_42 ?_
    refine x_getI hO fl_RX12_161 hx0 dX12_feed_43 ?_
    exact x_iret hO rfl dX12_feed_46 (hR _)
  · refine x_iconst hO (v := -1) (by decide) dX12_feed_13 ?_
    exact x_iret hO rfl dX12_feed_14 (hR _)
theorem ok_X12_feed (G : Gl) (h : Hp) (x0 : Nat) (x1 : Int32) (x2 : Int32) (x3 : Int32) (x4 : Int32) (x5 : Int32) (hx0 : Is x0 12) : CN G mX12_feed [.ref (gb G + x0), .int x1, .int x2, .int x3, .int x4, .int x5] h ((F_X12_feed h x0 x1 x2 x3 x4 x5).map (emHI)) := CN.fn pn_RX12 (Nat.le_of_ble_eq_true rfl) (fun Γ hG hO => by subst hG; exact go_X12_feed hO h x0 x1 x2 x3 x4 x5 hx0 (fun _ q => q))
noncomputable def F_X12_holes (h : Hp) (x0 : Nat) (x1 : Int32) (x2 : Int32) (x3 : Int32) : Option (Hp × Int32) :=
  (F_X12_isCard h x0 x1).bind (fun r1 => if r1 = 0 then (F_X12_is h x0 ((1 : Int32))).bind (fun r2 => some ((r2.1, r2.2 &&& 1))) else (F_X12_isColumn h x2).bind (fun r3 => if r3 = 0 then (F_X12_is h x0 ((1 : Int32))).bind (fun r4 => some ((r4.1, r4.2 &&& 1))) else if x3 < 0 then (F_X12_is h x0 ((1 : Int32))).bind (fun r5 => some ((r5.1, r5.2 &&& 1))) else if x3 ≤ ((4095 : Int32)) then gd (ib ((((8 : Int32)) + (((11 : Int32)) * x1)) + x2) (LEN (GR x0 0))) ((F_X12_is (uI h (GR x0 0) (nx ((((8 : Int32)) + (((11 : Int32)) * x1)) + x2)) x3) x0 ((0 : Int32))).bind (fun r6 => some ((r6.1, r6.2 &&& 1)))) else (F_X12_is h x0 ((1 : Int32))).bind (fun r7 => some ((r7.1, r7.2 &&& 1)))))
set_option maxHeartbeats 4000000 in
set_option maxRecDepth 100000 in
theorem go_X12_holes {Γ : Cx} (hO : Ok Γ mX12_holes) (h : Hp) (x0 : Nat) (x1 : Int32) (x2 : Int32) (x3 : Int32) (hx0 : Is x0 12) {K : Hp × Int32 → Prop} (hR : ∀ r, K r → emHI r = tgt Γ) : EG Γ mX12_holes 0 [(0, rf Γ x0), (1, .int x1), (2, .int x2), (3, .int x3)] [] h (F_X12_holes h x0 x1 x2 x3) K := by
  unfold F_X12_holes
  refine x_aload_n hO 0 rfl rfl dX12_holes_0 ?_
  refine x_iload_n hO 1 rfl rfl dX12_holes_1 ?_
  refine y_PI (x_callV hO lv_RX12_149 hx0 vc_12 (by decide) (As := [.int x1]) rfl (Nat.le_of_ble_eq_true rfl) (ok_X12_isCard (cG Γ) h x0 x1 hx0) dX12_holes_2 rfl (Nat.le_of_ble_eq_true rfl)) (fun r1 => ?_)
  refine x_if_eq hO (tg := 26) dX12_holes_5 (by decide) ?_ ?_
  · refine x_aload_n hO 0 rfl rfl dX12_holes_26 ?_
    refine x_iconst hO (v := 1) (by decide) dX12_holes_27 ?_
    refine y_HI (x_callV hO lv_RX12_117 hx0 vc_12 (by decide) (As := [.int ((1 : Int32))]) rfl (Nat.le_of_ble_eq_true rfl) (ok_X12_is (cG Γ) h x0 ((1 : Int32)) hx0) dX12_holes_28 rfl (Nat.le_of_ble_eq_true rfl)) (fun r2 => ?_)
    exact x_zret hO rfl dX12_holes_31 (hR _)
  · refine x_iload_n hO 2 rfl rfl dX12_holes_8 ?_
    refine y_PI (x_callS hO lt_RX12_152 (As := [.int x2]) rfl (Nat.le_of_ble_eq_true rfl) (ok_X12_isColumn (cG Γ) h x2) dX12_holes_9 rfl (Nat.le_of_ble_eq_true rfl)) (fun r3 => ?_)
    refine x_if_eq hO (tg := 26) dX12_holes_12 (by decide) ?_ ?_
    · refine x_aload_n hO 0 rfl rfl dX12_holes_26 ?_
      refine x_iconst hO (v := 1) (by decide) dX12_holes_27 ?_
      refine y_HI (x_callV hO lv_RX12_117 hx0 vc_12 (by decide) (As := [.int ((1 : Int32))]) rfl (Nat.le_of_ble_eq_true rfl) (ok_X12_is (cG Γ) h x0 ((1 : Int32)) hx0) dX12_holes_28 rfl (Nat.le_of_ble_eq_true rfl)) (fun r4 => ?_)
      exact x_zret hO rfl dX12_holes_31 (hR _)
    · refine x_iload_n hO 3 rfl rfl dX12_holes_15 ?_
      refine x_if_lt hO (tg := 26) dX12_holes_16 (by decide) ?_ ?_
      · refine x_aload_n hO 0 rfl rfl dX12_holes_26 ?_
        refine x_iconst hO (v := 1) (by decide) dX12_holes_27 ?_
        refine y_HI (x_callV hO lv_RX12_117 hx0 vc_12 (by decide) (As := [.int ((1 : Int32))]) rfl (Nat.le_of_ble_eq_true rfl) (ok_X12_is (cG Γ) h x0 ((1 : Int32)) hx0) dX12_holes_28 rfl (Nat.le_of_ble_eq_true rfl)) (fun r5 => ?_)
        exact x_zret hO rfl dX12_holes_31 (hR _)
      · refine x_iload_n hO 3 rfl rfl dX12_holes_19 ?_
        refine x_sipush hO (v := 4095) (by decide) dX12_holes_20 ?_
        refine x_icmp_le hO (tg := 32) dX12_holes_23 (by decide) ?_ ?_
        · refine x_aload_n hO 0 rfl rfl dX12_holes_32 ?_
          refine x_getR hO fl_RX12_7 hx0 dX12_holes_33 ?_
          refine x_bipush hO (v := 8) (by decide) dX12_holes_36 ?_
          refine x_bipush hO (v := 11) (by decide) dX12_holes_38 ?_
          refine x_iload_n hO 1 rfl rfl dX12_holes_40 ?_
          refine x_imul hO dX12_holes_41 ?_
          refine x_iadd hO dX12_holes_42 ?_
          refine x_iload_n hO 2 rfl rfl dX12_holes_43 ?_
          refine x_iadd hO dX12_holes_44 ?_
          refine x_iload_n hO 3 rfl rfl dX12_holes_45 ?_
          refine x_iast hO (gr_12_0 hx0) dX12_holes_46 ?_
          refine x_aload_n hO 0 rfl rfl dX12_holes_47 ?_
          refine x_iconst hO (v := 0) (by decide) dX12_holes_48 ?_
          refine y_HI (x_callV hO lv_RX12_117 hx0 vc_12 (by decide) (As := [.int ((0 : Int32))]) rfl (Nat.le_of_ble_eq_true rfl) (ok_X12_is (cG Γ) (uI h (GR x0 0) (nx ((((8 : Int32)) + (((11 : Int32)) * x1)) + x2)) x3) x0 ((0 : Int32)) hx0) dX12_holes_49 rfl (Nat.le_of_ble_eq_true rfl)) (fun r6 => ?_)
          exact x_zret hO rfl dX12_holes_52 (hR _)
        · refine x_aload_n hO 0 rfl rfl dX12_holes_26 ?_
          refine x_iconst hO (v := 1) (by decide) dX12_holes_27 ?_
          refine y_HI (x_callV hO lv_RX12_117 hx0 vc_12 (by decide) (As := [.int ((1 : Int32))]) rfl (Nat.le_of_ble_eq_true rfl) (ok_X12_is (cG Γ) h x0 ((1 : Int32)) hx0) dX12_holes_28 rfl (Nat.le_of_ble_eq_true rfl)) (fun r7 => ?_)
          exact x_zret hO rfl dX12_holes_31 (hR _)
theorem ok_X12_holes (G : Gl) (h : Hp) (x0 : Nat) (x1 : Int32) (x2 : Int32) (x3 : Int32) (hx0 : Is x0 12) : CN G mX12_holes [.ref (gb G + x0), .int x1, .int x2, .int x3] h ((F_X12_holes h x0 x1 x2 x3).map (emHI)) := CN.fn pn_RX12 (Nat.le_of_ble_eq_true rfl) (fun Γ hG hO => by subst hG; exact go_X12_holes hO h x0 x1 x2 x3 hx0 (fun _ q => q))
noncomputable def F_X12_isField (h : Hp) (x0 : Int32) (x1 : Int32) : Option (Int32) :=
  (F_X12_isColumn h x0).bind (fun r1 => if r1 = 0 then some ((0 : Int32)) else (F_X12_isColumn h x1).bind (fun r2 => if r2 = 0 then some ((0 : Int32)) else if x1 < x0 then some ((0 : Int32)) else if ((6 : Int32)) ≤ (x1 - x0) then some ((0 : Int32)) else some ((1 : Int32))))
set_option maxHeartbeats 4000000 in
set_option maxRecDepth 100000 in
theorem go_X12_isField {Γ : Cx} (hO : Ok Γ mX12_isField) (h : Hp) (x0 : Int32) (x1 : Int32) {K : Int32 → Prop} (hR : ∀ r, K r → emPI h r = tgt Γ) : EG Γ mX12_isField 0 [(0, .int x0), (1, .int x1)] [] h (F_X12_isField h x0 x1) K := by
  unfold F_X12_isField
  refine x_iload_n hO 0 rfl rfl dX12_isField_0 ?_
  refine y_PI (x_callS hO lt_RX12_152 (As := [.int x0]) rfl (Nat.le_of_ble_eq_true rfl) (ok_X12_isColumn (cG Γ) h x0) dX12_isField_1 rfl (Nat.le_of_ble_eq_true rfl)) (fun r1 => ?_)
  refine x_if_eq hO (tg := 31) dX12_isField_4 (by decide) ?_ ?_
  · refine x_iconst hO (v := 0) (by decide) dX12_isField_31 ?_
    exact x_zretv hO rfl (by decide) dX12_isField_32 (hR _)
  · refine x_iload_n hO 1 rfl rfl dX12_isField_7 ?_
    refine y_PI (x_callS hO lt_RX12_152 (As := [.int x1]) rfl (Nat.le_of_ble_eq_true rfl) (ok_X12_isColumn (cG Γ) h x1) dX12_isField_8 rfl (Nat.le_of_ble_eq_true rfl)) (fun r2 => ?_)
    refine x_if_eq hO (tg := 31) dX12_isField_11 (by decide) ?_ ?_
    · refine x_iconst hO (v := 0) (by decide) dX12_isField_31 ?_
      exact x_zretv hO rfl (by decide) dX12_isField_32 (hR _)
    · refine x_iload_n hO 0 rfl rfl dX12_isField_14 ?_
      refine x_iload_n hO 1 rfl rfl dX12_isField_15 ?_
      refine x_icmp_gt hO (tg := 31) dX12_isField_16 (by decide) ?_ ?_
      · refine x_iconst hO (v := 0) (by decide) dX12_isField_31 ?_
        exact x_zretv hO rfl (by decide) dX12_isField_32 (hR _)
      · refine x_iload_n hO 1 rfl rfl dX12_isField_19 ?_
        refine x_iload_n hO 0 rfl rfl dX12_isField_20 ?_
        refine x_isub hO dX12_isField_21 ?_
        refine x_bipush hO (v := 6) (by decide) dX12_isField_22 ?_
        refine x_icmp_ge hO (tg := 31) dX12_isField_24 (by decide) ?_ ?_
        · refine x_iconst hO (v := 0) (by decide) dX12_isField_31 ?_
          exact x_zretv hO rfl (by decide) dX12_isField_32 (hR _)
        · refine x_iconst hO (v := 1) (by decide) dX12_isField_27 ?_
          refine x_goto hO (tg := 32) dX12_isField_28 (by decide) ?_
          exact x_zretv hO rfl (by decide) dX12_isField_32 (hR _)
theorem ok_X12_isField (G : Gl) (h : Hp) (x0 : Int32) (x1 : Int32) : CN G mX12_isField [.int x0, .int x1] h ((F_X12_isField h x0 x1).map (emPI h)) := CN.fn pn_RX12 (Nat.le_of_ble_eq_true rfl) (fun Γ hG hO => by subst hG; exact go_X12_isField hO h x0 x1 (fun _ q => q))
noncomputable def F_X12_joined (h : Hp) (x0 : Nat) (x1 : Int32) (x2 : Int32) : Option (Hp × Int32) :=
  (F_X12_isMean h x0 x1).bind (fun r1 => if r1 = 0 then (F_X12_refuse h x0 ((1 : Int32))).bind (fun r2 => some ((r2.1, r2.2))) else (F_X12_isCode h x0 x2).bind (fun r3 => if r3 = 0 then (F_X12_refuse h x0 ((1 : Int32))).bind (fun r8 => some ((r8.1, r8.2))) else gd (ib (((372 : Int32)) + (((2 : Int32)) * x1)) (LEN (GR x0 0))) (if (hI h (GR x0 0) (nx (((372 : Int32)) + (((2 : Int32)) * x1)))) = x2 then (F_X12_gives h x0 x1).bind (fun r7 => some ((r7.1, r7.2))) else (F_X12_joinedIn h x0 ((0 : Int32)) x1 x2).bind (fun r4 => if r4 = ((-1 : Int32)) then (F_X12_refuse h x0 ((6 : Int32))).bind (fun r6 => some ((r6.1, r6.2))) else (F_X12_gives h x0 r4).bind (fun r5 => some ((r5.1, r5.2)))))))
set_option maxHeartbeats 4000000 in
set_option maxRecDepth 100000 in
theorem go_X12_joined {Γ : Cx} (hO : Ok Γ mX12_joined) (h : Hp) (x0 : Nat) (x1 : Int32) (x2 : Int32) (hx0 : Is x0 12) {K : Hp × Int32 → Prop} (hR : ∀ r, K r → emHI r = tgt Γ) : EG Γ mX12_joined 0 [(0, rf Γ x0), (1, .int x1), (2, .int x2)] [] h (F_X12_joined h x0 x1 x2) K := by
  unfold F_X12_joined
  refine x_aload_n hO 0 rfl rfl dX12_joined_0 ?_
  refine x_iload_n hO 1 rfl rfl dX12_joined_1 ?_
  refine y_PI (x_callV hO lv_RX12_274 hx0 vc_12 (by decide) (As := [.int x1]) rfl (Nat.le_of_ble_eq_true rfl) (ok_X12_isMean (cG Γ) h x0 x1 hx0) dX12_joined_2 rfl (Nat.le_of_ble_eq_true rfl)) (fun r1 => ?_)
  refine x_if_eq hO (tg := 16) dX12_joined_5 (by decide) ?_ ?_
  · refine x_aload_n hO 0 rfl rfl dX12_joined_16 ?_
    refine x_iconst hO (v := 1) (by decide) dX12_joined_17 ?_
    refine y_HI (x_callV hO lv_RX12_137 hx0 vc_12 (by decide) (As := [.int ((1 : Int32))]) rfl (Nat.le_of_ble_eq_true rfl) (ok_X12_refuse (cG Γ) h x0 ((1 : Int32)) hx0) dX12_joined_18 rfl (Nat.le_of_ble_eq_true rfl)) (fun r2 => ?_)
    exact x_iret hO rfl dX12_joined_21 (hR _)
  · refine x_aload_n hO 0 rfl rfl dX12_joined_8 ?_
    refine x_iload_n hO 2 rfl rfl dX12_joined_9 ?_
    refine y_PI (x_callV hO lv_RX12_271 hx0 vc_12 (by decide) (As := [.int x2]) rfl (Nat.le_of_ble_eq_true rfl) (ok_X12_isCode (cG Γ) h x0 x2 hx0) dX12_joined_10 rfl (Nat.le_of_ble_eq_true rfl)) (fun r3 => ?_)
    refine x_if_ne hO (tg := 22) dX12_joined_13 (by decide) ?_ ?_
    · refine x_aload_n hO 0 rfl rfl dX12_joined_22 ?_
      refine x_getR hO fl_RX12_7 hx0 dX12_joined_23 ?_
      refine x_sipush hO (v := 372) (by decide) dX12_joined_26 ?_
      refine x_iconst hO (v := 2) (by decide) dX12_joined_29 ?_
      refine x_iload_n hO 1 rfl rfl dX12_joined_30 ?_
      refine x_imul hO dX12_joined_31 ?_
      refine x_iadd hO dX12_joined_32 ?_
      refine x_iald hO (gr_12_0 hx0) dX12_joined_33 ?_
      refine x_iload_n hO 2 rfl rfl dX12_joined_34 ?_
      refine x_icmp_ne hO (tg := 44) dX12_joined_35 (by decide) ?_ ?_
      · refine x_aload_n hO 0 rfl rfl dX12_joined_44 ?_
        refine x_iconst hO (v := 0) (by decide) dX12_joined_45 ?_
        refine x_iload_n hO 1 rfl rfl dX12_joined_46 ?_
        refine x_iload_n hO 2 rfl rfl dX12_joined_47 ?_
        refine y_PI (x_callV hO lv_RX12_238 hx0 vc_12 (by decide) (As := [.int ((0 : Int32)), .int x1, .int x2]) rfl (Nat.le_of_ble_eq_true rfl) (ok_X12_joinedIn (cG Γ) h x0 ((0 : Int32)) x1 x2 hx0) dX12_joined_48 rfl (Nat.le_of_ble_eq_true rfl)) (fun r4 => ?_)
        refine x_istore_n hO rfl [(3, .int r4), (0, rf Γ x0), (1, .int x1), (2, .int x2)] dX12_joined_51 (by decide) rfl ?_
        refine x_iload_n hO 0 rfl rfl dX12_joined_52 ?_
        refine x_iconst hO (v := -1) (by decide) dX12_joined_53 ?_
        refine x_icmp_ne hO (tg := 66) dX12_joined_54 (by decide) ?_ ?_
        · refine x_aload_n hO 1 rfl rfl dX12_joined_66 ?_
          refine x_iload_n hO 0 rfl rfl dX12_joined_67 ?_
          refine y_HI (x_callV hO lv_RX12_146 hx0 vc_12 (by decide) (As := [.int r4]) rfl (Nat.le_of_ble_eq_true rfl) (ok_X12_gives (cG Γ) h x0 r4 hx0) dX12_joined_68 rfl (Nat.le_of_ble_eq_true rfl)) (fun r5 => ?_)
          exact x_iret hO rfl dX12_joined_71 (hR _)
        · refine x_aload_n hO 1 rfl rfl dX12_joined_57 ?_
          refine x_bipush hO (v := 6) (by decide) dX12_joined_58 ?_
          refine y_HI (x_callV hO lv_RX12_137 hx0 vc_12 (by decide) (As := [.int ((6 : Int32))]) rfl (Nat.le_of_ble_eq_true rfl) (ok_X12_refuse (cG Γ) h x0 ((6 : Int32)) hx0) dX12_joined_60 rfl (Nat.le_of_ble_eq_true rfl)) (fun r6 => ?_)
          refine x_goto hO (tg := 71) dX12_joined_63 (by decide) ?_
          exact x_iret hO rfl dX12_joined_71 (hR _)
      · refine x_aload_n hO 0 rfl rfl dX12_joined_38 ?_
        refine x_iload_n hO 1 rfl rfl dX12_joined_39 ?_
        refine y_HI (x_callV hO lv_RX12_146 hx0 vc_12 (by decide) (As := [.int x1]) rfl (Nat.le_of_ble_eq_true rfl) (ok_X12_gives (cG Γ) h x0 x1 hx0) dX12_joined_40 rfl (Nat.le_of_ble_eq_true rfl)) (fun r7 => ?_)
        exact x_iret hO rfl dX12_joined_43 (hR _)
    · refine x_aload_n hO 0 rfl rfl dX12_joined_16 ?_
      refine x_iconst hO (v := 1) (by decide) dX12_joined_17 ?_
      refine y_HI (x_callV hO lv_RX12_137 hx0 vc_12 (by decide) (As := [.int ((1 : Int32))]) rfl (Nat.le_of_ble_eq_true rfl) (ok_X12_refuse (cG Γ) h x0 ((1 : Int32)) hx0) dX12_joined_18 rfl (Nat.le_of_ble_eq_true rfl)) (fun r8 => ?_)
      exact x_iret hO rfl dX12_joined_21 (hR _)
theorem ok_X12_joined (G : Gl) (h : Hp) (x0 : Nat) (x1 : Int32) (x2 : Int32) (hx0 : Is x0 12) : CN G mX12_joined [.ref (gb G + x0), .int x1, .int x2] h ((F_X12_joined h x0 x1 x2).map (emHI)) := CN.fn pn_RX12 (Nat.le_of_ble_eq_true rfl) (fun Γ hG hO => by subst hG; exact go_X12_joined hO h x0 x1 x2 hx0 (fun _ q => q))
