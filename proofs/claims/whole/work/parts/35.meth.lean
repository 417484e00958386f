noncomputable def J_X11_meant_125 (h : Hp) (x0 : Nat) (x1 : Int32) (x2 : Int32) (x4 : Int32) (s0 : Int32) : Option (Hp × Int32) :=
  if s0 = 0 then if x4 = ((1 : Int32)) then (F_X2_howManyMean h (GR x0 2) x1 x2).bind (fun r4 => (F_X11_answer h x0 r4).bind (fun r5 => some ((r5.1, r5.2)))) else (F_X11_answer h x0 ((0 : Int32))).bind (fun r3 => some ((r3.1, r3.2))) else (F_X2_howManyMean h (GR x0 2) x1 x2).bind (fun r1 => (F_X11_answer h x0 r1).bind (fun r2 => some ((r2.1, r2.2))))
set_option maxHeartbeats 4000000 in
set_option maxRecDepth 100000 in
theorem go_X11_meant_J125 {Γ : Cx} (hO : Ok Γ mX11_meant) (h : Hp) (x0 : Nat) (x1 : Int32) (x2 : Int32) (x4 : Int32) (s0 : Int32) (hx0 : Is x0 11) {K : Hp × Int32 → Prop} (hR : ∀ r, K r → emHI r = tgt Γ) : EG Γ mX11_meant 125 [(0, rf Γ x0), (1, .int x1), (2, .int x2), (4, .int x4)] [.int s0] h (J_X11_meant_125 h x0 x1 x2 x4 s0) K := by
  unfold J_X11_meant_125
  refine x_istore hO [(7, .int s0), (0, rf Γ x0), (1, .int x1), (2, .int x2), (4, .int x4)] dX11_meant_125 (by decide) rfl ?_
  refine x_aload_n hO 1 rfl rfl dX11_meant_127 ?_
  refine x_iload hO 0 rfl dX11_meant_128 ?_
  refine x_if_ne hO (tg := 139) dX11_meant_130 (by decide) ?_ ?_
  · refine x_aload_n hO 1 rfl rfl dX11_meant_139 ?_
    refine x_getR hO fl_RX11_22 hx0 dX11_meant_140 ?_
    refine x_iload_n hO 2 rfl rfl dX11_meant_143 ?_
    refine x_iload_n hO 3 rfl rfl dX11_meant_144 ?_
    refine y_PI (x_callV hO lv_RX11_372 (gr_11_2 hx0) vc_2 (by decide) (As := [.int x1, .int x2]) rfl (Nat.le_of_ble_eq_true rfl) (ok_X2_howManyMean (cG Γ) h (GR x0 2) x1 x2 (gr_11_2 hx0)) dX11_meant_145 rfl (Nat.le_of_ble_eq_true rfl)) (fun r1 => ?_)
    refine x_goto hO (tg := 152) dX11_meant_148 (by decide) ?_
    refine y_HI (x_callV hO lv_RX11_157 hx0 vc_11 (by decide) (As := [.int r1]) rfl (Nat.le_of_ble_eq_true rfl) (ok_X11_answer (cG Γ) h x0 r1 hx0) dX11_meant_152 rfl (Nat.le_of_ble_eq_true rfl)) (fun r2 => ?_)
    exact x_iret hO rfl dX11_meant_155 (hR _)
  · refine x_iload hO 4 rfl dX11_meant_133 ?_
    refine x_iconst hO (v := 1) (by decide) dX11_meant_135 ?_
    refine x_icmp_ne hO (tg := 151) dX11_meant_136 (by decide) ?_ ?_
    · refine x_iconst hO (v := 0) (by decide) dX11_meant_151 ?_
      refine y_HI (x_callV hO lv_RX11_157 hx0 vc_11 (by decide) (As := [.int ((0 : Int32))]) rfl (Nat.le_of_ble_eq_true rfl) (ok_X11_answer (cG Γ) h x0 ((0 : Int32)) hx0) dX11_meant_152 rfl (Nat.le_of_ble_eq_true rfl)) (fun r3 => ?_)
      exact x_iret hO rfl dX11_meant_155 (hR _)
    · refine x_aload_n hO 1 rfl rfl dX11_meant_139 ?_
      refine x_getR hO fl_RX11_22 hx0 dX11_meant_140 ?_
      refine x_iload_n hO 2 rfl rfl dX11_meant_143 ?_
      refine x_iload_n hO 3 rfl rfl dX11_meant_144 ?_
      refine y_PI (x_callV hO lv_RX11_372 (gr_11_2 hx0) vc_2 (by decide) (As := [.int x1, .int x2]) rfl (Nat.le_of_ble_eq_true rfl) (ok_X2_howManyMean (cG Γ) h (GR x0 2) x1 x2 (gr_11_2 hx0)) dX11_meant_145 rfl (Nat.le_of_ble_eq_true rfl)) (fun r4 => ?_)
      refine x_goto hO (tg := 152) dX11_meant_148 (by decide) ?_
      refine y_HI (x_callV hO lv_RX11_157 hx0 vc_11 (by decide) (As := [.int r4]) rfl (Nat.le_of_ble_eq_true rfl) (ok_X11_answer (cG Γ) h x0 r4 hx0) dX11_meant_152 rfl (Nat.le_of_ble_eq_true rfl)) (fun r5 => ?_)
      exact x_iret hO rfl dX11_meant_155 (hR _)
noncomputable def J_X11_meant_50 (h : Hp) (x0 : Nat) (x1 : Int32) (x2 : Int32) (x3 : Int32) (x4 : Int32) (x5 : Nat) (s0 : Int32) : Option (Hp × Int32) :=
  if s0 = 0 then (F_X11_refuse h x0 ((1 : Int32))).bind (fun r1 => some ((r1.1, r1.2))) else gd (ib x3 (LEN (GR x5 3))) (gd (ib x1 (LEN (GR x5 3))) (if (hI h (GR x5 3) (nx x3)) = (hI h (GR x5 3) (nx x1)) then (F_X11_refuse h x0 ((1 : Int32))).bind (fun r5 => some ((r5.1, r5.2))) else gd (ib x1 (LEN (GR x5 3))) ((F_X0_joinOf h x5 x3 (hI h (GR x5 3) (nx x1))).bind (fun r2 => if r2 = x1 then gd (ib x3 (LEN (GR x5 3))) ((F_X0_joinedFrom h x5 (hI h (GR x5 3) (nx x3)) x1).bind (fun r3 => if r3 = ((1 : Int32)) then J_X11_meant_125 h x0 x1 x2 x4 ((1 : Int32)) else J_X11_meant_125 h x0 x1 x2 x4 ((0 : Int32)))) else (F_X11_answer h x0 ((0 : Int32))).bind (fun r4 => some ((r4.1, r4.2)))))))
set_option maxHeartbeats 4000000 in
set_option maxRecDepth 100000 in
theorem go_X11_meant_J50 {Γ : Cx} (hO : Ok Γ mX11_meant) (h : Hp) (x0 : Nat) (x1 : Int32) (x2 : Int32) (x3 : Int32) (x4 : Int32) (x5 : Nat) (s0 : Int32) (hx0 : Is x0 11) (hx5 : Is x5 0) {K : Hp × Int32 → Prop} (hR : ∀ r, K r → emHI r = tgt Γ) : EG Γ mX11_meant 50 [(0, rf Γ x0), (1, .int x1), (2, .int x2), (3, .int x3), (4, .int x4), (5, rf Γ x5)] [.int s0] h (J_X11_meant_50 h x0 x1 x2 x3 x4 x5 s0) K := by
  unfold J_X11_meant_50
  refine x_istore hO [(6, .int s0), (0, rf Γ x0), (1, .int x1), (2, .int x2), (3, .int x3), (4, .int x4), (5, rf Γ x5)] dX11_meant_50 (by decide) rfl ?_
  refine x_iload hO 0 rfl dX11_meant_52 ?_
  refine x_if_eq hO (tg := 74) dX11_meant_54 (by decide) ?_ ?_
  · refine x_aload_n hO 1 rfl rfl dX11_meant_74 ?_
    refine x_iconst hO (v := 1) (by decide) dX11_meant_75 ?_
    refine y_HI (x_callV hO lv_RX11_119 hx0 vc_11 (by decide) (As := [.int ((1 : Int32))]) rfl (Nat.le_of_ble_eq_true rfl) (ok_X11_refuse (cG Γ) h x0 ((1 : Int32)) hx0) dX11_meant_76 rfl (Nat.le_of_ble_eq_true rfl)) (fun r1 => ?_)
    exact x_iret hO rfl dX11_meant_79 (hR _)
  · refine x_aload hO 6 rfl dX11_meant_57 ?_
    refine x_getR hO fl_RX11_242 hx5 dX11_meant_59 ?_
    refine x_iload_n hO 4 rfl rfl dX11_meant_62 ?_
    refine x_iald hO (gr_0_3 hx5) dX11_meant_63 ?_
    refine x_aload hO 6 rfl dX11_meant_64 ?_
    refine x_getR hO fl_RX11_242 hx5 dX11_meant_66 ?_
    refine x_iload_n hO 2 rfl rfl dX11_meant_69 ?_
    refine x_iald hO (gr_0_3 hx5) dX11_meant_70 ?_
    refine x_icmp_ne hO (tg := 80) dX11_meant_71 (by decide) ?_ ?_
    · refine x_aload hO 6 rfl dX11_meant_80 ?_
      refine x_iload_n hO 4 rfl rfl dX11_meant_82 ?_
      refine x_aload hO 6 rfl dX11_meant_83 ?_
      refine x_getR hO fl_RX11_242 hx5 dX11_meant_85 ?_
      refine x_iload_n hO 2 rfl rfl dX11_meant_88 ?_
      refine x_iald hO (gr_0_3 hx5) dX11_meant_89 ?_
      refine y_PI (x_callV hO lv_RX11_369 hx5 vc_0 (by decide) (As := [.int x3, .int (hI h (GR x5 3) (nx x1))]) rfl (Nat.le_of_ble_eq_true rfl) (ok_X0_joinOf (cG Γ) h x5 x3 (hI h (GR x5 3) (nx x1)) hx5) dX11_meant_90 rfl (Nat.le_of_ble_eq_true rfl)) (fun r2 => ?_)
      refine x_iload_n hO 2 rfl rfl dX11_meant_93 ?_
      refine x_icmp_eq hO (tg := 103) dX11_meant_94 (by decide) ?_ ?_
      · refine x_aload hO 6 rfl dX11_meant_103 ?_
        refine x_aload hO 6 rfl dX11_meant_105 ?_
        refine x_getR hO fl_RX11_242 hx5 dX11_meant_107 ?_
        refine x_iload_n hO 4 rfl rfl dX11_meant_110 ?_
        refine x_iald hO (gr_0_3 hx5) dX11_meant_111 ?_
        refine x_iload_n hO 2 rfl rfl dX11_meant_112 ?_
        refine y_PI (x_callV hO lv_RX11_375 hx5 vc_0 (by decide) (As := [.int (hI h (GR x5 3) (nx x3)), .int x1]) rfl (Nat.le_of_ble_eq_true rfl) (ok_X0_joinedFrom (cG Γ) h x5 (hI h (GR x5 3) (nx x3)) x1 hx5) dX11_meant_113 rfl (Nat.le_of_ble_eq_true rfl)) (fun r3 => ?_)
        refine x_iconst hO (v := 1) (by decide) dX11_meant_116 ?_
        refine x_icmp_ne hO (tg := 124) dX11_meant_117 (by decide) ?_ ?_
        · refine x_iconst hO (v := 0) (by decide) dX11_meant_124 ?_
          exact x_sub [1, 2, 3, 5] rfl (go_X11_meant_J125 hO h x0 x1 x2 x4 ((0 : Int32)) hx0 hR)
        · refine x_iconst hO (v := 1) (by decide) dX11_meant_120 ?_
          refine x_goto hO (tg := 125) dX11_meant_121 (by decide) ?_
          exact x_sub [1, 2, 3, 5] rfl (go_X11_meant_J125 hO h x0 x1 x2 x4 ((1 : Int32)) hx0 hR)
      · refine x_aload_n hO 1 rfl rfl dX11_meant_97 ?_
        refine x_iconst hO (v := 0) (by decide) dX11_meant_98 ?_
        refine y_HI (x_callV hO lv_RX11_157 hx0 vc_11 (by decide) (As := [.int ((0 : Int32))]) rfl (Nat.le_of_ble_eq_true rfl) (ok_X11_answer (cG Γ) h x0 ((0 : Int32)) hx0) dX11_meant_99 rfl (Nat.le_of_ble_eq_true rfl)) (fun r4 => ?_)
        exact x_iret hO rfl dX11_meant_102 (hR _)
    · refine x_aload_n hO 1 rfl rfl dX11_meant_74 ?_
      refine x_iconst hO (v := 1) (by decide) dX11_meant_75 ?_
      refine y_HI (x_callV hO lv_RX11_119 hx0 vc_11 (by decide) (As := [.int ((1 : Int32))]) rfl (Nat.le_of_ble_eq_true rfl) (ok_X11_refuse (cG Γ) h x0 ((1 : Int32)) hx0) dX11_meant_76 rfl (Nat.le_of_ble_eq_true rfl)) (fun r5 => ?_)
      exact x_iret hO rfl dX11_meant_79 (hR _)
noncomputable def J_X11_meant_49 (h : Hp) (x0 : Nat) (x1 : Int32) (x2 : Int32) (x3 : Int32) (x4 : Int32) (x5 : Nat) : Option (Hp × Int32) :=
  J_X11_meant_50 h x0 x1 x2 x3 x4 x5 ((0 : Int32))
set_option maxHeartbeats 4000000 in
set_option maxRecDepth 100000 in
theorem go_X11_meant_J49 {Γ : Cx} (hO : Ok Γ mX11_meant) (h : Hp) (x0 : Nat) (x1 : Int32) (x2 : Int32) (x3 : Int32) (x4 : Int32) (x5 : Nat) (hx0 : Is x0 11) (hx5 : Is x5 0) {K : Hp × Int32 → Prop} (hR : ∀ r, K r → emHI r = tgt Γ) : EG Γ mX11_meant 49 [(0, rf Γ x0), (1, .int x1), (2, .int x2), (3, .int x3), (4, .int x4), (5, rf Γ x5)] [] h (J_X11_meant_49 h x0 x1 x2 x3 x4 x5) K := by
  unfold J_X11_meant_49
  refine x_iconst hO (v := 0) (by decide) dX11_meant_49 ?_
  exact x_sub [0, 1, 2, 3, 4, 5] rfl (go_X11_meant_J50 hO h x0 x1 x2 x3 x4 x5 ((0 : Int32)) hx0 hx5 hR)
noncomputable def F_X11_meant (h : Hp) (x0 : Nat) (x1 : Int32) (x2 : Int32) (x3 : Int32) (x4 : Int32) : Option (Hp × Int32) :=
  (F_X0_isMean h (GR (GR x0 2) 8) x1).bind (fun r1 => if r1 = 0 then J_X11_meant_49 h x0 x1 x2 x3 x4 (GR (GR x0 2) 8) else (F_X11_isColumn h x2).bind (fun r2 => if r2 = 0 then J_X11_meant_49 h x0 x1 x2 x3 x4 (GR (GR x0 2) 8) else (F_X0_isMean h (GR (GR x0 2) 8) x3).bind (fun r3 => if r3 = 0 then J_X11_meant_49 h x0 x1 x2 x3 x4 (GR (GR x0 2) 8) else if x4 < 0 then J_X11_meant_49 h x0 x1 x2 x3 x4 (GR (GR x0 2) 8) else if ((1 : Int32)) < x4 then J_X11_meant_49 h x0 x1 x2 x3 x4 (GR (GR x0 2) 8) else J_X11_meant_50 h x0 x1 x2 x3 x4 (GR (GR x0 2) 8) ((1 : Int32)))))
set_option maxHeartbeats 4000000 in
set_option maxRecDepth 100000 in
theorem go_X11_meant {Γ : Cx} (hO : Ok Γ mX11_meant) (h : Hp) (x0 : Nat) (x1 : Int32) (x2 : Int32) (x3 : Int32) (x4 : Int32) (hx0 : Is x0 11) {K : Hp × Int32 → Prop} (hR : ∀ r, K r → emHI r = tgt Γ) : EG Γ mX11_meant 0 [(0, rf Γ x0), (1, .int x1), (2, .int x2), (3, .int x3), (4, .int x4)] [] h (F_X11_meant h x0 x1 x2 x3 x4) K := by
  unfold F_X11_meant
  refine x_aload_n hO 0 rfl rfl dX11_meant_0 ?_
  refine x_getR hO fl_RX11_22 hx0 dX11_meant_1 ?_
  refine x_getR hO fl_RX11_207 (gr_11_2 hx0) dX11_meant_4 ?_
  refine x_astore hO [(5, rf Γ (GR (GR x0 2) 8)), (0, rf Γ x0), (1, .int x1), (2, .int x2), (3, .int x3), (4, .int x4)] dX11_meant_7 (by decide) rfl ?_
  refine x_aload hO 0 rfl dX11_meant_9 ?_
  refine x_iload_n hO 2 rfl rfl dX11_meant_11 ?_
  refine y_PI (x_callV hO lv_RX11_239 (gr_2_8 (gr_11_2 hx0)) vc_0 (by decide) (As := [.int x1]) rfl (Nat.le_of_ble_eq_true rfl) (ok_X0_isMean (cG Γ) h (GR (GR x0 2) 8) x1 (gr_2_8 (gr_11_2 hx0))) dX11_meant_12 rfl (Nat.le_of_ble_eq_true rfl)) (fun r1 => ?_)
  refine x_if_eq hO (tg := 49) dX11_meant_15 (by decide) ?_ ?_
  · exact x_sub [1, 2, 3, 4, 5, 0] rfl (go_X11_meant_J49 hO h x0 x1 x2 x3 x4 (GR (GR x0 2) 8) hx0 (gr_2_8 (gr_11_2 hx0)) hR)
  · refine x_iload_n hO 3 rfl rfl dX11_meant_18 ?_
    refine y_PI (x_callS hO lt_RX11_163 (As := [.int x2]) rfl (Nat.le_of_ble_eq_true rfl) (ok_X11_isColumn (cG Γ) h x2) dX11_meant_19 rfl (Nat.le_of_ble_eq_true rfl)) (fun r2 => ?_)
    refine x_if_eq hO (tg := 49) dX11_meant_22 (by decide) ?_ ?_
    · exact x_sub [1, 2, 3, 4, 5, 0] rfl (go_X11_meant_J49 hO h x0 x1 x2 x3 x4 (GR (GR x0 2) 8) hx0 (gr_2_8 (gr_11_2 hx0)) hR)
    · refine x_aload hO 0 rfl dX11_meant_25 ?_
      refine x_iload_n hO 4 rfl rfl dX11_meant_27 ?_
      refine y_PI (x_callV hO lv_RX11_239 (gr_2_8 (gr_11_2 hx0)) vc_0 (by decide) (As := [.int x3]) rfl (Nat.le_of_ble_eq_true rfl) (ok_X0_isMean (cG Γ) h (GR (GR x0 2) 8) x3 (gr_2_8 (gr_11_2 hx0))) dX11_meant_28 rfl (Nat.le_of_ble_eq_true rfl)) (fun r3 => ?_)
      refine x_if_eq hO (tg := 49) dX11_meant_31 (by decide) ?_ ?_
      · exact x_sub [1, 2, 3, 4, 5, 0] rfl (go_X11_meant_J49 hO h x0 x1 x2 x3 x4 (GR (GR x0 2) 8) hx0 (gr_2_8 (gr_11_2 hx0)) hR)
      · refine x_iload hO 5 rfl dX11_meant_34 ?_
        refine x_if_lt hO (tg := 49) dX11_meant_36 (by decide) ?_ ?_
        · exact x_sub [1, 2, 3, 4, 5, 0] rfl (go_X11_meant_J49 hO h x0 x1 x2 x3 x4 (GR (GR x0 2) 8) hx0 (gr_2_8 (gr_11_2 hx0)) hR)
        · refine x_iload hO 5 rfl dX11_meant_39 ?_
          refine x_iconst hO (v := 1) (by decide) dX11_meant_41 ?_
          refine x_icmp_gt hO (tg := 49) dX11_meant_42 (by decide) ?_ ?_
          · exact x_sub [1, 2, 3, 4, 5, 0] rfl (go_X11_meant_J49 hO h x0 x1 x2 x3 x4 (GR (GR x0 2) 8) hx0 (gr_2_8 (gr_11_2 hx0)) hR)
          · refine x_iconst hO (v := 1) (by decide) dX11_meant_45 ?_
            refine x_goto hO (tg := 50) dX11_meant_46 (by decide) ?_
            exact x_sub [1, 2, 3, 4, 5, 0] rfl (go_X11_meant_J50 hO h x0 x1 x2 x3 x4 (GR (GR x0 2) 8) ((1 : Int32)) hx0 (gr_2_8 (gr_11_2 hx0)) hR)
theorem ok_X11_meant (G : Gl) (h : Hp) (x0 : Nat) (x1 : Int32) (x2 : Int32) (x3 : Int32) (x4 : Int32) (hx0 : Is x0 11) : CN G mX11_meant [.ref (gb G + x0), .int x1, .int x2, .int x3, .int x4] h ((F_X11_meant h x0 x1 x2 x3 x4).map (emHI)) := CN.fn pn_RX11 (Nat.le_of_ble_eq_true rfl) (fun Γ hG hO => by subst hG; exact go_X11_meant hO h x0 x1 x2 x3 x4 hx0 (fun _ q => q))
noncomputable def F_X11_read (h : Hp) (x0 : Nat) (x1 : Int32) (x2 : Int32) : Option (Hp × Int64) :=
  (F_X11_placeStatus h x0 x1 x2).bind (fun r1 => if r1 = 0 then gd (ib x1 (LEN (GR x0 0))) (gd (ib x2 (LEN (GR (GR (GR x0 0) (nx x1)) 3))) (some ((uI h x0 10 ((0 : Int32)), hL (uI h x0 10 ((0 : Int32))) (GR (GR (GR x0 0) (nx x1)) 3) (nx x2))))) else (F_X11_refuse h x0 r1).bind (fun r3 => some ((r3.1, r3.2.toInt64))))
set_option maxHeartbeats 4000000 in
set_option maxRecDepth 100000 in
theorem go_X11_read {Γ : Cx} (hO : Ok Γ mX11_read) (h : Hp) (x0 : Nat) (x1 : Int32) (x2 : Int32) (hx0 : Is x0 11) {K : Hp × Int64 → Prop} (hR : ∀ r, K r → emHL r = tgt Γ) : EG Γ mX11_read 0 [(0, rf Γ x0), (1, .int x1), (2, .int x2)] [] h (F_X11_read h x0 x1 x2) K := by
  unfold F_X11_read
  refine x_aload_n hO 0 rfl rfl dX11_read_0 ?_
  refine x_iload_n hO 1 rfl rfl dX11_read_1 ?_
  refine x_iload_n hO 2 rfl rfl dX11_read_2 ?_
  refine y_PI (x_callV hO lv_RX11_111 hx0 vc_11 (by decide) (As := [.int x1, .int x2]) rfl (Nat.le_of_ble_eq_true rfl) (ok_X11_placeStatus (cG Γ) h x0 x1 x2 hx0) dX11_read_3 rfl (Nat.le_of_ble_eq_true rfl)) (fun r1 => ?_)
  refine x_istore_n hO rfl [(3, .int r1), (0, rf Γ x0), (1, .int x1), (2, .int x2)] dX11_read_6 (by decide) rfl ?_
  refine x_iload_n hO 0 rfl rfl dX11_read_7 ?_
  refine x_if_eq hO (tg := 18) dX11_read_8 (by decide) ?_ ?_
  · refine x_aload_n hO 1 rfl rfl dX11_read_18 ?_
    refine x_iconst hO (v := 0) (by decide) dX11_read_19 ?_
    refine x_putI hO fl_RX11_72 hx0 dX11_read_20 ?_
    refine x_aload_n hO 1 rfl rfl dX11_read_23 ?_
    refine x_getR hO fl_RX11_11 hx0 dX11_read_24 ?_
    refine x_iload_n hO 2 rfl rfl dX11_read_27 ?_
    refine x_aaldT hO (gr_11_0 hx0) dX11_read_28 (fun q2 => ?_)
    refine x_getR hO fl_RX11_123 q2 dX11_read_29 ?_
    refine x_iload_n hO 3 rfl rfl dX11_read_32 ?_
    refine x_lald hO (gr_10_3 q2) dX11_read_33 ?_
    exact x_lret hO rfl dX11_read_34 (hR _)
  · refine x_aload_n hO 1 rfl rfl dX11_read_11 ?_
    refine x_iload_n hO 0 rfl rfl dX11_read_12 ?_
    refine y_HI (x_callV hO lv_RX11_119 hx0 vc_11 (by decide) (As := [.int r1]) rfl (Nat.le_of_ble_eq_true rfl) (ok_X11_refuse (cG Γ) h x0 r1 hx0) dX11_read_13 rfl (Nat.le_of_ble_eq_true rfl)) (fun r3 => ?_)
    refine x_i2l hO dX11_read_16 ?_
    exact x_lret hO rfl dX11_read_17 (hR _)
theorem ok_X11_read (G : Gl) (h : Hp) (x0 : Nat) (x1 : Int32) (x2 : Int32) (hx0 : Is x0 11) : CN G mX11_read [.ref (gb G + x0), .int x1, .int x2] h ((F_X11_read h x0 x1 x2).map (emHL)) := CN.fn pn_RX11 (Nat.le_of_ble_eq_true rfl) (fun Γ hG hO => by subst hG; exact go_X11_read hO h x0 x1 x2 hx0 (fun _ q => q))
noncomputable def F_X11_tellFraction (h : Hp) (x0 : Nat) (x1 : Int32) (x2 : Int32) : Option (Hp) :=
  (F_X11_commonDivisor h x1 x2).bind (fun r1 => if r1 ≤ 0 then some h else gd (!decide (r1 = 0)) (gd (!decide (r1 = 0)) (some (uL (uL h x0 11 ((x1 / r1).toInt64)) x0 12 ((x2 / r1).toInt64)))))
set_option maxHeartbeats 4000000 in
set_option maxRecDepth 100000 in
theorem go_X11_tellFraction {Γ : Cx} (hO : Ok Γ mX11_tellFraction) (h : Hp) (x0 : Nat) (x1 : Int32) (x2 : Int32) (hx0 : Is x0 11) {K : Hp → Prop} (hR : ∀ r, K r → emHV r = tgt Γ) : EG Γ mX11_tellFraction 0 [(0, rf Γ x0), (1, .int x1), (2, .int x2)] [] h (F_X11_tellFraction h x0 x1 x2) K := by
  unfold F_X11_tellFraction
  refine x_iload_n hO 1 rfl rfl dX11_tellFraction_0 ?_
  refine x_iload_n hO 2 rfl rfl dX11_tellFraction_1 ?_
  refine y_PI (x_callS hO lt_RX11_409 (As := [.int x1, .int x2]) rfl (Nat.le_of_ble_eq_true rfl) (ok_X11_commonDivisor (cG Γ) h x1 x2) dX11_tellFraction_2 rfl (Nat.le_of_ble_eq_true rfl)) (fun r1 => ?_)
  refine x_istore_n hO rfl [(3, .int r1), (0, rf Γ x0), (1, .int x1), (2, .int x2)] dX11_tellFraction_5 (by decide) rfl ?_
  refine x_iload_n hO 0 rfl rfl dX11_tellFraction_6 ?_
  refine x_if_le hO (tg := 26) dX11_tellFraction_7 (by decide) ?_ ?_
  · exact x_vret hO rfl dX11_tellFraction_26 (hR _)
  · refine x_aload_n hO 1 rfl rfl dX11_tellFraction_10 ?_
    refine x_iload_n hO 2 rfl rfl dX11_tellFraction_11 ?_
    refine x_iload_n hO 0 rfl rfl dX11_tellFraction_12 ?_
    refine x_idiv hO dX11_tellFraction_13 ?_
    refine x_i2l hO dX11_tellFraction_14 ?_
    refine x_putL hO fl_RX11_76 hx0 dX11_tellFraction_15 ?_
    refine x_aload_n hO 1 rfl rfl dX11_tellFraction_18 ?_
    refine x_iload_n hO 3 rfl rfl dX11_tellFraction_19 ?_
    refine x_iload_n hO 0 rfl rfl dX11_tellFraction_20 ?_
    refine x_idiv hO dX11_tellFraction_21 ?_
    refine x_i2l hO dX11_tellFraction_22 ?_
    refine x_putL hO fl_RX11_80 hx0 dX11_tellFraction_23 ?_
    exact x_vret hO rfl dX11_tellFraction_26 (hR _)
theorem ok_X11_tellFraction (G : Gl) (h : Hp) (x0 : Nat) (x1 : Int32) (x2 : Int32) (hx0 : Is x0 11) : CN G mX11_tellFraction [.ref (gb G + x0), .int x1, .int x2] h ((F_X11_tellFraction h x0 x1 x2).map (emHV)) := CN.fn pn_RX11 (Nat.le_of_ble_eq_true rfl) (fun Γ hG hO => by subst hG; exact go_X11_tellFraction hO h x0 x1 x2 hx0 (fun _ q => q))
noncomputable def F_X11_tray (h : Hp) (x0 : Nat) (x1 : Int32) (x2 : Int32) (x3 : Int32) : Option (Hp × Int32) :=
  (F_X11_isTray h x1).bind (fun r1 => if r1 = 0 then (F_X11_deny h x0 ((1 : Int32))).bind (fun r2 => some ((r2.1, r2.2 &&& 1))) else if x2 < 0 then (F_X11_deny h x0 ((1 : Int32))).bind (fun r3 => some ((r3.1, r3.2 &&& 1))) else if ((4 : Int32)) ≤ x2 then (F_X11_deny h x0 ((1 : Int32))).bind (fun r4 => some ((r4.1, r4.2 &&& 1))) else if x3 < 0 then (F_X11_deny h x0 ((1 : Int32))).bind (fun r5 => some ((r5.1, r5.2 &&& 1))) else if x3 ≤ ((60 : Int32)) then gd (ib x1 (LEN (GR x0 0))) ((F_X10_makeNew h (GR (GR x0 0) (nx x1)) x2 x3).bind (fun r7 => (F_X11_agree r7 x0).bind (fun r8 => some ((r8.1, r8.2 &&& 1))))) else (F_X11_deny h x0 ((1 : Int32))).bind (fun r9 => some ((r9.1, r9.2 &&& 1))))
set_option maxHeartbeats 4000000 in
set_option maxRecDepth 100000 in
theorem go_X11_tray {Γ : Cx} (hO : Ok Γ mX11_tray) (h : Hp) (x0 : Nat) (x1 : Int32) (x2 : Int32) (x3 : Int32) (hx0 : Is x0 11) {K : Hp × Int32 → Prop} (hR : ∀ r, K r → emHI r = tgt Γ) : EG Γ mX11_tray 0 [(0, rf Γ x0), (1, .int x1), (2, .int x2), (3, .int x3)] [] h (F_X11_tray h x0 x1 x2 x3) K := by
  unfold F_X11_tray
  refine x_iload_n hO 1 rfl rfl dX11_tray_0 ?_
  refine y_PI (x_callS hO lt_RX11_96 (As := [.int x1]) rfl (Nat.le_of_ble_eq_true rfl) (ok_X11_isTray (cG Γ) h x1) dX11_tray_1 rfl (Nat.le_of_ble_eq_true rfl)) (fun r1 => ?_)
  refine x_if_eq hO (tg := 26) dX11_tray_4 (by decide) ?_ ?_
  · refine x_aload_n hO 0 rfl rfl dX11_tray_26 ?_
    refine x_iconst hO (v := 1) (by decide) dX11_tray_27 ?_
    refine y_HI (x_callV hO lv_RX11_100 hx0 vc_11 (by decide) (As := [.int ((1 : Int32))]) rfl (Nat.le_of_ble_eq_true rfl) (ok_X11_deny (cG Γ) h x0 ((1 : Int32)) hx0) dX11_tray_28 rfl (Nat.le_of_ble_eq_true rfl)) (fun r2 => ?_)
    exact x_zret hO rfl dX11_tray_31 (hR _)
  · refine x_iload_n hO 2 rfl rfl dX11_tray_7 ?_
    refine x_if_lt hO (tg := 26) dX11_tray_8 (by decide) ?_ ?_
    · refine x_aload_n hO 0 rfl rfl dX11_tray_26 ?_
      refine x_iconst hO (v := 1) (by decide) dX11_tray_27 ?_
      refine y_HI (x_callV hO lv_RX11_100 hx0 vc_11 (by decide) (As := [.int ((1 : Int32))]) rfl (Nat.le_of_ble_eq_true rfl) (ok_X11_deny (cG Γ) h x0 ((1 : Int32)) hx0) dX11_tray_28 rfl (Nat.le_of_ble_eq_true rfl)) (fun r3 => ?_)
      exact x_zret hO rfl dX11_tray_31 (hR _)
    · refine x_iload_n hO 2 rfl rfl dX11_tray_11 ?_
      refine x_iconst hO (v := 4) (by decide) dX11_tray_12 ?_
      refine x_icmp_ge hO (tg := 26) dX11_tray_13 (by decide) ?_ ?_
      · refine x_aload_n hO 0 rfl rfl dX11_tray_26 ?_
        refine x_iconst hO (v := 1) (by decide) dX11_tray_27 ?_
        refine y_HI (x_callV hO lv_RX11_100 hx0 vc_11 (by decide) (As := [.int ((1 : Int32))]) rfl (Nat.le_of_ble_eq_true rfl) (ok_X11_deny (cG Γ) h x0 ((1 : Int32)) hx0) dX11_tray_28 rfl (Nat.le_of_ble_eq_true rfl)) (fun r4 => ?_)
        exact x_zret hO rfl dX11_tray_31 (hR _)
      · refine x_iload_n hO 3 rfl rfl dX11_tray_16 ?_
        refine x_if_lt hO (tg := 26) dX11_tray_17 (by decide) ?_ ?_
        · refine x_aload_n hO 0 rfl rfl dX11_tray_26 ?_
          refine x_iconst hO (v := 1) (by decide) dX11_tray_27 ?_
          refine y_HI (x_callV hO lv_RX11_100 hx0 vc_11 (by decide) (As := [.int ((1 : Int32))]) rfl (Nat.le_of_ble_eq_true rfl) (ok_X11_deny (cG Γ) h x0 ((1 : Int32)) hx0) dX11_tray_28 rfl (Nat.le_of_ble_eq_true rfl)) (fun r5 => ?_)
          exact x_zret hO rfl dX11_tray_31 (hR _)
        · refine x_iload_n hO 3 rfl rfl dX11_tray_20 ?_
          refine x_bipush hO (v := 60) (by decide) dX11_tray_21 ?_
          refine x_icmp_le hO (tg := 32) dX11_tray_23 (by decide) ?_ ?_
          · refine x_aload_n hO 0 rfl rfl dX11_tray_32 ?_
            refine x_getR hO fl_RX11_11 hx0 dX11_tray_33 ?_
            refine x_iload_n hO 1 rfl rfl dX11_tray_36 ?_
            refine x_aaldT hO (gr_11_0 hx0) dX11_tray_37 (fun q6 => ?_)
            refine x_iload_n hO 2 rfl rfl dX11_tray_38 ?_
            refine x_iload_n hO 3 rfl rfl dX11_tray_39 ?_
            refine y_HV (x_callV hO lv_RX11_103 q6 vc_10 (by decide) (As := [.int x2, .int x3]) rfl (Nat.le_of_ble_eq_true rfl) (ok_X10_makeNew (cG Γ) h (GR (GR x0 0) (nx x1)) x2 x3 q6) dX11_tray_40 rfl (Nat.le_of_ble_eq_true rfl)) (fun r7 => ?_)
            refine x_aload_n hO 0 rfl rfl dX11_tray_43 ?_
            refine y_HI (x_callV hO lv_RX11_107 hx0 vc_11 (by decide) (As := []) rfl (Nat.le_of_ble_eq_true rfl) (ok_X11_agree (cG Γ) r7 x0 hx0) dX11_tray_44 rfl (Nat.le_of_ble_eq_true rfl)) (fun r8 => ?_)
            exact x_zret hO rfl dX11_tray_47 (hR _)
          · refine x_aload_n hO 0 rfl rfl dX11_tray_26 ?_
            refine x_iconst hO (v := 1) (by decide) dX11_tray_27 ?_
            refine y_HI (x_callV hO lv_RX11_100 hx0 vc_11 (by decide) (As := [.int ((1 : Int32))]) rfl (Nat.le_of_ble_eq_true rfl) (ok_X11_deny (cG Γ) h x0 ((1 : Int32)) hx0) dX11_tray_28 rfl (Nat.le_of_ble_eq_true rfl)) (fun r9 => ?_)
            exact x_zret hO rfl dX11_tray_31 (hR _)
theorem ok_X11_tray (G : Gl) (h : Hp) (x0 : Nat) (x1 : Int32) (x2 : Int32) (x3 : Int32) (hx0 : Is x0 11) : CN G mX11_tray [.ref (gb G + x0), .int x1, .int x2, .int x3] h ((F_X11_tray h x0 x1 x2 x3).map (emHI)) := CN.fn pn_RX11 (Nat.le_of_ble_eq_true rfl) (fun Γ hG hO => by subst hG; exact go_X11_tray hO h x0 x1 x2 x3 hx0 (fun _ q => q))
noncomputable def F_X11_write (h : Hp) (x0 : Nat) (x1 : Int32) (x2 : Int32) (x3 : Int64) : Option (Hp × Int32) :=
  (F_X11_placeStatus h x0 x1 x2).bind (fun r1 => if r1 = 0 then gd (ib x1 (LEN (GR x0 0))) ((F_X10_put h (GR (GR x0 0) (nx x1)) x2 x3).bind (fun r3 => (F_X11_agree r3 x0).bind (fun r4 => some ((r4.1, r4.2 &&& 1))))) else (F_X11_deny h x0 r1).bind (fun r5 => some ((r5.1, r5.2 &&& 1))))
set_option maxHeartbeats 4000000 in
set_option maxRecDepth 100000 in
theorem go_X11_write {Γ : Cx} (hO : Ok Γ mX11_write) (h : Hp) (x0 : Nat) (x1 : Int32) (x2 : Int32) (x3 : Int64) (hx0 : Is x0 11) {K : Hp × Int32 → Prop} (hR : ∀ r, K r → emHI r = tgt Γ) : EG Γ mX11_write 0 [(0, rf Γ x0), (1, .int x1), (2, .int x2), (3, .long x3)] [] h (F_X11_write h x0 x1 x2 x3) K := by
  unfold F_X11_write
  refine x_aload_n hO 0 rfl rfl dX11_write_0 ?_
  refine x_iload_n hO 1 rfl rfl dX11_write_1 ?_
  refine x_iload_n hO 2 rfl rfl dX11_write_2 ?_
  refine y_PI (x_callV hO lv_RX11_111 hx0 vc_11 (by decide) (As := [.int x1, .int x2]) rfl (Nat.le_of_ble_eq_true rfl) (ok_X11_placeStatus (cG Γ) h x0 x1 x2 hx0) dX11_write_3 rfl (Nat.le_of_ble_eq_true rfl)) (fun r1 => ?_)
  refine x_istore hO [(5, .int r1), (0, rf Γ x0), (1, .int x1), (2, .int x2), (3, .long x3)] dX11_write_6 (by decide) rfl ?_
  refine x_iload hO 0 rfl dX11_write_8 ?_
  refine x_if_eq hO (tg := 20) dX11_write_10 (by decide) ?_ ?_
  · refine x_aload_n hO 1 rfl rfl dX11_write_20 ?_
    refine x_getR hO fl_RX11_11 hx0 dX11_write_21 ?_
    refine x_iload_n hO 2 rfl rfl dX11_write_24 ?_
    refine x_aaldT hO (gr_11_0 hx0) dX11_write_25 (fun q2 => ?_)
    refine x_iload_n hO 3 rfl rfl dX11_write_26 ?_
    refine x_lload_n hO 4 rfl rfl dX11_write_27 ?_
    refine y_HV (x_callV hO lv_RX11_115 q2 vc_10 (by decide) (As := [.int x2, .long x3]) rfl (Nat.le_of_ble_eq_true rfl) (ok_X10_put (cG Γ) h (GR (GR x0 0) (nx x1)) x2 x3 q2) dX11_write_28 rfl (Nat.le_of_ble_eq_true rfl)) (fun r3 => ?_)
    refine x_aload_n hO 1 rfl rfl dX11_write_31 ?_
    refine y_HI (x_callV hO lv_RX11_107 hx0 vc_11 (by decide) (As := []) rfl (Nat.le_of_ble_eq_true rfl) (ok_X11_agree (cG Γ) r3 x0 hx0) dX11_write_32 rfl (Nat.le_of_ble_eq_true rfl)) (fun r4 => ?_)
    exact x_zret hO rfl dX11_write_35 (hR _)
  · refine x_aload_n hO 1 rfl rfl dX11_write_13 ?_
    refine x_iload hO 0 rfl dX11_write_14 ?_
    refine y_HI (x_callV hO lv_RX11_100 hx0 vc_11 (by decide) (As := [.int r1]) rfl (Nat.le_of_ble_eq_true rfl) (ok_X11_deny (cG Γ) h x0 r1 hx0) dX11_write_16 rfl (Nat.le_of_ble_eq_true rfl)) (fun r5 => ?_)
    exact x_zret hO rfl dX11_write_19 (hR _)
theorem ok_X11_write (G : Gl) (h : Hp) (x0 : Nat) (x1 : Int32) (x2 : Int32) (x3 : Int64) (hx0 : Is x0 11) : CN G mX11_write [.ref (gb G + x0), .int x1, .int x2, .long x3] h ((F_X11_write h x0 x1 x2 x3).map (emHI)) := CN.fn pn_RX11 (Nat.le_of_ble_eq_true rfl) (fun Γ hG hO => by subst hG; exact go_X11_write hO h x0 x1 x2 x3 hx0 (fun _ q => q))
noncomputable def B_X12_begins_7 (h : Hp) (x0 : Nat) (x1 : Int32) (x2 : Int32) : Option ((Hp × Int32) ⊕ (Hp)) :=
  if x1 ≤ x2 then some (.inr h) else gd (ib x2 (LEN (GR x0 7))) (gd (ib x2 (LEN (GR x0 8))) (some (.inl (uI h (GR x0 8) (nx x2) (hI h (GR x0 7) (nx x2)).toInt8.toInt32, x2 + (1 : Int32)))))
noncomputable def L_X12_begins_7 (h : Hp) (x0 : Nat) (x1 : Int32) (x2 : Int32) : Option (Hp) := iterW (fun s : Hp × Int32 => B_X12_begins_7 s.1 x0 x1 s.2) (h, x2)
set_option maxHeartbeats 4000000 in
set_option maxRecDepth 100000 in
theorem go_X12_begins_B7 {Γ : Cx} (hO : Ok Γ mX12_begins) (h : Hp) (x0 : Nat) (x1 : Int32) (x2 : Int32) (hx0 : Is x0 12) {K : (Hp × Int32) ⊕ (Hp) → Prop} (hC : ∀ (h : Hp) (x2 : Int32), K (.inl (h, x2)) → EW Γ mX12_begins 7 [(0, rf Γ x0), (1, .int x1), (2, .int x2)] [] h) (hE30 : ∀ (h : Hp), K (.inr h) → EW Γ mX12_begins 30 [(0, rf Γ x0)] [] h) : EG Γ mX12_begins 7 [(0, rf Γ x0), (1, .int x1), (2, .int x2)] [] h (B_X12_begins_7 h x0 x1 x2) K := by
  unfold B_X12_begins_7
  refine x_iload_n hO 2 rfl rfl dX12_begins_7 ?_
  refine x_iload_n hO 1 rfl rfl dX12_begins_8 ?_
  refine x_icmp_ge hO (tg := 30) dX12_begins_9 (by decide) ?_ ?_
  · exact x_leafs [0] rfl (hE30 h)
  · refine x_aload_n hO 0 rfl rfl dX12_begins_12 ?_
    refine x_getR hO fl_RX12_31 hx0 dX12_begins_13 ?_
    refine x_iload_n hO 2 rfl rfl dX12_begins_16 ?_
    refine x_aload_n hO 0 rfl rfl dX12_begins_17 ?_
    refine x_getR hO fl_RX12_27 hx0 dX12_begins_18 ?_
    refine x_iload_n hO 2 rfl rfl dX12_begins_21 ?_
    refine x_bald hO (gr_12_7 hx0) dX12_begins_22 ?_
    refine x_bast hO (gr_12_8 hx0) dX12_begins_23 ?_
    refine x_iinc hO 2 (v := 1) [(2, .int (x2 + (1 : Int32))), (0, rf Γ x0), (1, .int x1)] dX12_begins_24 rfl (by decide) (by decide) rfl ?_
    refine x_goto hO (tg := 7) dX12_begins_27 (by decide) ?_
    exact x_leafs [1, 2, 0] rfl (hC (uI h (GR x0 8) (nx x2) (hI h (GR x0 7) (nx x2)).toInt8.toInt32) (x2 + (1 : Int32)))
set_option maxHeartbeats 4000000 in
set_option maxRecDepth 100000 in
theorem go_X12_begins_L7 {Γ : Cx} (hO : Ok Γ mX12_begins) (h : Hp) (x0 : Nat) (x1 : Int32) (x2 : Int32) (hx0 : Is x0 12) {K : Hp → Prop} (hE30 : ∀ (h : Hp), K (h) → EW Γ mX12_begins 30 [(0, rf Γ x0)] [] h) : EG Γ mX12_begins 7 [(0, rf Γ x0), (1, .int x1), (2, .int x2)] [] h (L_X12_begins_7 h x0 x1 x2) K := by
  have q := x_loop (Γ := Γ) (M := mX12_begins) (pc := 7) (B := fun s : Hp × Int32 => B_X12_begins_7 s.1 x0 x1 s.2) (lvf := fun s => [(0, rf Γ x0), (1, .int x1), (2, .int s.2)]) (hf := fun s => s.1) (Ky := K) (fun s => go_X12_begins_B7 hO s.1 x0 x1 s.2 hx0 (fun _ _ => id) hE30) (h, x2)
  exact q
noncomputable def F_X12_begins (h : Hp) (x0 : Nat) (x1 : Int32) : Option (Hp) :=
  (L_X12_begins_7 (uI h x0 10 x1) x0 x1 ((0 : Int32))).bind (fun e1 => (F_X12_ahead (uI (uI (uI (uI e1 x0 9 ((0 : Int32))) x0 17 ((0 : Int32))) x0 16 ((-1 : Int32))) x0 13 ((0 : Int32))) x0).bind (fun r2 => some r2))
set_option maxHeartbeats 4000000 in
set_option maxRecDepth 100000 in
theorem go_X12_begins {Γ : Cx} (hO : Ok Γ mX12_begins) (h : Hp) (x0 : Nat) (x1 : Int32) (hx0 : Is x0 12) {K : Hp → Prop} (hR : ∀ r, K r → emHV r = tgt Γ) : EG Γ mX12_begins 0 [(0, rf Γ x0), (1, .int x1)] [] h (F_X12_begins h x0 x1) K := by
  unfold F_X12_begins
  refine x_aload_n hO 0 rfl rfl dX12_begins_0 ?_
  refine x_iload_n hO 1 rfl rfl dX12_begins_1 ?_
  refine x_putI hO fl_RX12_168 hx0 dX12_begins_2 ?_
  refine x_iconst hO (v := 0) (by decide) dX12_begins_5 ?_
  refine x_istore_n hO rfl [(2, .int ((0 : Int32))), (0, rf Γ x0), (1, .int x1)] dX12_begins_6 (by decide) rfl ?_
  refine x_bind (x_sub [1, 2, 0] rfl (go_X12_begins_L7 hO (uI h x0 10 x1) x0 x1 ((0 : Int32)) hx0 (fun y1_0 hx => ?_)))
  refine x_run (t := ((F_X12_ahead (uI (uI (uI (uI y1_0 x0 9 ((0 : Int32))) x0 17 ((0 : Int32))) x0 16 ((-1 : Int32))) x0 13 ((0 : Int32))) x0).bind (fun r2 => some r2) : Option (Hp))) hx ?_
  refine x_aload_n hO 0 rfl rfl dX12_begins_30 ?_
  refine x_iconst hO (v := 0) (by decide) dX12_begins_31 ?_
  refine x_putI hO fl_RX12_161 hx0 dX12_begins_32 ?_
  refine x_aload_n hO 0 rfl rfl dX12_begins_35 ?_
  refine x_iconst hO (v := 0) (by decide) dX12_begins_36 ?_
  refine x_putI hO fl_RX12_207 hx0 dX12_begins_37 ?_
  refine x_aload_n hO 0 rfl rfl dX12_begins_40 ?_
  refine x_iconst hO (v := -1) (by decide) dX12_begins_41 ?_
  refine x_putI hO fl_RX12_38 hx0 dX12_begins_42 ?_
  refine x_aload_n hO 0 rfl rfl dX12_begins_45 ?_
  refine x_iconst hO (v := 0) (by decide) dX12_begins_46 ?_
  refine x_putI hO fl_RX12_171 hx0 dX12_begins_47 ?_
  refine x_aload_n hO 0 rfl rfl dX12_begins_50 ?_
  refine y_HV (x_callV hO lv_RX12_210 hx0 vc_12 (by decide) (As := []) rfl (Nat.le_of_ble_eq_true rfl) (ok_X12_ahead (cG Γ) (uI (uI (uI (uI y1_0 x0 9 ((0 : Int32))) x0 17 ((0 : Int32))) x0 16 ((-1 : Int32))) x0 13 ((0 : Int32))) x0 hx0) dX12_begins_51 rfl (Nat.le_of_ble_eq_true rfl)) (fun r2 => ?_)
  exact x_vret hO rfl dX12_begins_54 (hR _)
theorem ok_X12_begins (G : Gl) (h : Hp) (x0 : Nat) (x1 : Int32) (hx0 : Is x0 12) : CN G mX12_begins [.ref (gb G + x0), .int x1] h ((F_X12_begins h x0 x1).map (emHV)) := CN.fn pn_RX12 (Nat.le_of_ble_eq_true rfl) (fun Γ hG hO => by subst hG; exact go_X12_begins hO h x0 x1 hx0 (fun _ q => q))
noncomputable def J_X12_card_85 (h : Hp) (x0 : Nat) (x1 : Int32) (x2 : Int32) : Option (Hp × Int32) :=
  if x2 = ((16 : Int32)) then (F_X12_ofCard h x0 x1 ((8 : Int32))).bind (fun r7 => (F_X12_gives h x0 r7).bind (fun r8 => some ((r8.1, r8.2)))) else if x2 = ((17 : Int32)) then (F_X12_ofCard h x0 x1 ((9 : Int32))).bind (fun r5 => (F_X12_gives h x0 r5).bind (fun r6 => some ((r6.1, r6.2)))) else if x2 = ((18 : Int32)) then (F_X12_ofCard h x0 x1 ((10 : Int32))).bind (fun r3 => (F_X12_gives h x0 r3).bind (fun r4 => some ((r4.1, r4.2)))) else (F_X12_placeOf h x0 x1).bind (fun r1 => (F_X12_gives h x0 r1).bind (fun r2 => some ((r2.1, r2.2))))
set_option maxHeartbeats 4000000 in
set_option maxRecDepth 100000 in
theorem go_X12_card_J85 {Γ : Cx} (hO : Ok Γ mX12_card) (h : Hp) (x0 : Nat) (x1 : Int32) (x2 : Int32) (hx0 : Is x0 12) {K : Hp × Int32 → Prop} (hR : ∀ r, K r → emHI r = tgt Γ) : EG Γ mX12_card 85 [(0, rf Γ x0), (1, .int x1), (2, .int x2)] [] h (J_X12_card_85 h x0 x1 x2) K := by
  unfold J_X12_card_85
  refine x_aload_n hO 0 rfl rfl dX12_card_85 ?_
  refine x_iload_n hO 2 rfl rfl dX12_card_86 ?_
  refine x_bipush hO (v := 16) (by decide) dX12_card_87 ?_
  refine x_icmp_ne hO (tg := 102) dX12_card_89 (by decide) ?_ ?_
  · refine x_iload_n hO 2 rfl rfl dX12_card_102 ?_
    refine x_bipush hO (v := 17) (by decide) dX12_card_103 ?_
    refine x_icmp_ne hO (tg := 118) dX12_card_105 (by decide) ?_ ?_
    · refine x_iload_n hO 2 rfl rfl dX12_card_118 ?_
      refine x_bipush hO (v := 18) (by decide) dX12_card_119 ?_
      refine x_icmp_ne hO (tg := 134) dX12_card_121 (by decide) ?_ ?_
      · refine x_aload_n hO 0 rfl rfl dX12_card_134 ?_
        refine x_iload_n hO 1 rfl rfl dX12_card_135 ?_
        refine y_PI (x_callV hO lv_RX12_158 hx0 vc_12 (by decide) (As := [.int x1]) rfl (Nat.le_of_ble_eq_true rfl) (ok_X12_placeOf (cG Γ) h x0 x1 hx0) dX12_card_136 rfl (Nat.le_of_ble_eq_true rfl)) (fun r1 => ?_)
        refine y_HI (x_callV hO lv_RX12_146 hx0 vc_12 (by decide) (As := [.int r1]) rfl (Nat.le_of_ble_eq_true rfl) (ok_X12_gives (cG Γ) h x0 r1 hx0) dX12_card_139 rfl (Nat.le_of_ble_eq_true rfl)) (fun r2 => ?_)
        exact x_iret hO rfl dX12_card_142 (hR _)
      · refine x_aload_n hO 0 rfl rfl dX12_card_124 ?_
        refine x_iload_n hO 1 rfl rfl dX12_card_125 ?_
        refine x_bipush hO (v := 10) (by decide) dX12_card_126 ?_
        refine y_PI (x_callV hO lv_RX12_130 hx0 vc_12 (by decide) (As := [.int x1, .int ((10 : Int32))]) rfl (Nat.le_of_ble_eq_true rfl) (ok_X12_ofCard (cG Γ) h x0 x1 ((10 : Int32)) hx0) dX12_card_128 rfl (Nat.le_of_ble_eq_true rfl)) (fun r3 => ?_)
        refine x_goto hO (tg := 139) dX12_card_131 (by decide) ?_
        refine y_HI (x_callV hO lv_RX12_146 hx0 vc_12 (by decide) (As := [.int r3]) rfl (Nat.le_of_ble_eq_true rfl) (ok_X12_gives (cG Γ) h x0 r3 hx0) dX12_card_139 rfl (Nat.le_of_ble_eq_true rfl)) (fun r4 => ?_)
        exact x_iret hO rfl dX12_card_142 (hR _)
    · refine x_aload_n hO 0 rfl rfl dX12_card_108 ?_
      refine x_iload_n hO 1 rfl rfl dX12_card_109 ?_
      refine x_bipush hO (v := 9) (by decide) dX12_card_110 ?_
      refine y_PI (x_callV hO lv_RX12_130 hx0 vc_12 (by decide) (As := [.int x1, .int ((9 : Int32))]) rfl (Nat.le_of_ble_eq_true rfl) (ok_X12_ofCard (cG Γ) h x0 x1 ((9 : Int32)) hx0) dX12_card_112 rfl (Nat.le_of_ble_eq_true rfl)) (fun r5 => ?_)
      refine x_goto hO (tg := 139) dX12_card_115 (by decide) ?_
      refine y_HI (x_callV hO lv_RX12_146 hx0 vc_12 (by decide) (As := [.int r5]) rfl (Nat.le_of_ble_eq_true rfl) (ok_X12_gives (cG Γ) h x0 r5 hx0) dX12_card_139 rfl (Nat.le_of_ble_eq_true rfl)) (fun r6 => ?_)
      exact x_iret hO rfl dX12_card_142 (hR _)
  · refine x_aload_n hO 0 rfl rfl dX12_card_92 ?_
    refine x_iload_n hO 1 rfl rfl dX12_card_93 ?_
    refine x_bipush hO (v := 8) (by decide) dX12_card_94 ?_
    refine y_PI (x_callV hO lv_RX12_130 hx0 vc_12 (by decide) (As := [.int x1, .int ((8 : Int32))]) rfl (Nat.le_of_ble_eq_true rfl) (ok_X12_ofCard (cG Γ) h x0 x1 ((8 : Int32)) hx0) dX12_card_96 rfl (Nat.le_of_ble_eq_true rfl)) (fun r7 => ?_)
    refine x_goto hO (tg := 139) dX12_card_99 (by decide) ?_
    refine y_HI (x_callV hO lv_RX12_146 hx0 vc_12 (by decide) (As := [.int r7]) rfl (Nat.le_of_ble_eq_true rfl) (ok_X12_gives (cG Γ) h x0 r7 hx0) dX12_card_139 rfl (Nat.le_of_ble_eq_true rfl)) (fun r8 => ?_)
    exact x_iret hO rfl dX12_card_142 (hR _)
noncomputable def F_X12_card (h : Hp) (x0 : Nat) (x1 : Int32) (x2 : Int32) : Option (Hp × Int32) :=
  (F_X12_isCard h x0 x1).bind (fun r1 => if r1 = 0 then (F_X12_refuse h x0 ((1 : Int32))).bind (fun r2 => some ((r2.1, r2.2))) else if x2 < 0 then (F_X12_refuse h x0 ((1 : Int32))).bind (fun r3 => some ((r3.1, r3.2))) else if x2 ≤ ((19 : Int32)) then if ((8 : Int32)) ≤ x2 then if ((16 : Int32)) ≤ x2 then if x2 = ((17 : Int32)) then (F_X12_ofCard h x0 x1 ((9 : Int32))).bind (fun r4 => if r4 = ((-1 : Int32)) then (F_X12_refuse h x0 ((6 : Int32))).bind (fun r5 => some ((r5.1, r5.2))) else J_X12_card_85 h x0 x1 x2) else J_X12_card_85 h x0 x1 x2 else (F_X12_reads h x0 x1 (x2 - ((8 : Int32)))).bind (fun r6 => (F_X12_gives h x0 r6).bind (fun r7 => some ((r7.1, r7.2)))) else (F_X12_ofCard h x0 x1 x2).bind (fun r8 => (F_X12_gives h x0 r8).bind (fun r9 => some ((r9.1, r9.2)))) else (F_X12_refuse h x0 ((1 : Int32))).bind (fun r10 => some ((r10.1, r10.2))))
set_option maxHeartbeats 4000000 in
set_option maxRecDepth 100000 in
theorem go_X12_card {Γ : Cx} (hO : Ok Γ mX12_card) (h : Hp) (x0 : Nat) (x1 : Int32) (x2 : Int32) (hx0 : Is x0 12) {K : Hp × Int32 → Prop} (hR : ∀ r, K r → emHI r = tgt Γ) : EG Γ mX12_card 0 [(0, rf Γ x0), (1, .int x1), (2, .int x2)] [] h (F_X12_card h x0 x1 x2) K := by
  unfold F_X12_card
  refine x_aload_n hO 0 rfl rfl dX12_card_0 ?_
  refine x_iload_n hO 1 rfl rfl dX12_card_1 ?_
  refine y_PI (x_callV hO lv_RX12_149 hx0 vc_12 (by decide) (As := [.int x1]) rfl (Nat.le_of_ble_eq_true rfl) (ok_X12_isCard (cG Γ) h x0 x1 hx0) dX12_card_2 rfl (Nat.le_of_ble_eq_true rfl)) (fun r1 => ?_)
  refine x_if_eq hO (tg := 18) dX12_card_5 (by decide) ?_ ?_
  · refine x_aload_n hO 0 rfl rfl dX12_card_18 ?_
    refine x_iconst hO (v := 1) (by decide) dX12_card_19 ?_
    refine y_HI (x_callV hO lv_RX12_137 hx0 vc_12 (by decide) (As := [.int ((1 : Int32))]) rfl (Nat.le_of_ble_eq_true rfl) (ok_X12_refuse (cG Γ) h x0 ((1 : Int32)) hx0) dX12_card_20 rfl (Nat.le_of_ble_eq_true rfl)) (fun r2 => ?_)
    exact x_iret hO rfl dX12_card_23 (hR _)
  · refine x_iload_n hO 2 rfl rfl dX12_card_8 ?_
    refine x_if_lt hO (tg := 18) dX12_card_9 (by decide) ?_ ?_
    · refine x_aload_n hO 0 rfl rfl dX12_card_18 ?_
      refine x_iconst hO (v := 1) (by decide) dX12_card_19 ?_
      refine y_HI (x_callV hO lv_RX12_137 hx0 vc_12 (by decide) (As := [.int ((1 : Int32))]) rfl (Nat.le_of_ble_eq_true rfl) (ok_X12_refuse (cG Γ) h x0 ((1 : Int32)) hx0) dX12_card_20 rfl (Nat.le_of_ble_eq_true rfl)) (fun r3 => ?_)
      exact x_iret hO rfl dX12_card_23 (hR _)
    · refine x_iload_n hO 2 rfl rfl dX12_card_12 ?_
      refine x_bipush hO (v := 19) (by decide) dX12_card_13 ?_
      refine x_icmp_le hO (tg := 24) dX12_card_15 (by decide) ?_ ?_
      · refine x_iload_n hO 2 rfl rfl dX12_card_24 ?_
        refine x_bipush hO (v := 8) (by decide) dX12_card_25 ?_
        refine x_icmp_ge hO (tg := 41) dX12_card_27 (by decide) ?_ ?_
        · refine x_iload_n hO 2 rfl rfl dX12_card_41 ?_
          refine x_bipush hO (v := 16) (by decide) dX12_card_42 ?_
          refine x_icmp_ge hO (tg := 61) dX12_card_44 (by decide) ?_ ?_
          · refine x_iload_n hO 2 rfl rfl dX12_card_61 ?_
            refine x_bipush hO (v := 17) (by decide) dX12_card_62 ?_
            refine x_icmp_ne hO (tg := 85) dX12_card_64 (by decide) ?_ ?_
            · exact x_sub [0, 1, 2] rfl (go_X12_card_J85 hO h x0 x1 x2 hx0 hR)
            · refine x_aload_n hO 0 rfl rfl dX12_card_67 ?_
              refine x_iload_n hO 1 rfl rfl dX12_card_68 ?_
              refine x_bipush hO (v := 9) (by decide) dX12_card_69 ?_
              refine y_PI (x_callV hO lv_RX12_130 hx0 vc_12 (by decide) (As := [.int x1, .int ((9 : Int32))]) rfl (Nat.le_of_ble_eq_true rfl) (ok_X12_ofCard (cG Γ) h x0 x1 ((9 : Int32)) hx0) dX12_card_71 rfl (Nat.le_of_ble_eq_true rfl)) (fun r4 => ?_)
              refine x_iconst hO (v := -1) (by decide) dX12_card_74 ?_
              refine x_icmp_ne hO (tg := 85) dX12_card_75 (by decide) ?_ ?_
              · exact x_sub [0, 1, 2] rfl (go_X12_card_J85 hO h x0 x1 x2 hx0 hR)
              · refine x_aload_n hO 0 rfl rfl dX12_card_78 ?_
                refine x_bipush hO (v := 6) (by decide) dX12_card_79 ?_
                refine y_HI (x_callV hO lv_RX12_137 hx0 vc_12 (by decide) (As := [.int ((6 : Int32))]) rfl (Nat.le_of_ble_eq_true rfl) (ok_X12_refuse (cG Γ) h x0 ((6 : Int32)) hx0) dX12_card_81 rfl (Nat.le_of_ble_eq_true rfl)) (fun r5 => ?_)
                exact x_iret hO rfl dX12_card_84 (hR _)
          · refine x_aload_n hO 0 rfl rfl dX12_card_47 ?_
            refine x_aload_n hO 0 rfl rfl dX12_card_48 ?_
            refine x_iload_n hO 1 rfl rfl dX12_card_49 ?_
            refine x_iload_n hO 2 rfl rfl dX12_card_50 ?_
            refine x_bipush hO (v := 8) (by decide) dX12_card_51 ?_
            refine x_isub hO dX12_card_53 ?_
            refine y_PI (x_callV hO lv_RX12_155 hx0 vc_12 (by decide) (As := [.int x1, .int (x2 - ((8 : Int32)))]) rfl (Nat.le_of_ble_eq_true rfl) (ok_X12_reads (cG Γ) h x0 x1 (x2 - ((8 : Int32))) hx0) dX12_card_54 rfl (Nat.le_of_ble_eq_true rfl)) (fun r6 => ?_)
            refine y_HI (x_callV hO lv_RX12_146 hx0 vc_12 (by decide) (As := [.int r6]) rfl (Nat.le_of_ble_eq_true rfl) (ok_X12_gives (cG Γ) h x0 r6 hx0) dX12_card_57 rfl (Nat.le_of_ble_eq_true rfl)) (fun r7 => ?_)
            exact x_iret hO rfl dX12_card_60 (hR _)
        · refine x_aload_n hO 0 rfl rfl dX12_card_30 ?_
          refine x_aload_n hO 0 rfl rfl dX12_card_31 ?_
          refine x_iload_n hO 1 rfl rfl dX12_card_32 ?_
          refine x_iload_n hO 2 rfl rfl dX12_card_33 ?_
          refine y_PI (x_callV hO lv_RX12_130 hx0 vc_12 (by decide) (As := [.int x1, .int x2]) rfl (Nat.le_of_ble_eq_true rfl) (ok_X12_ofCard (cG Γ) h x0 x1 x2 hx0) dX12_card_34 rfl (Nat.le_of_ble_eq_true rfl)) (fun r8 => ?_)
          refine y_HI (x_callV hO lv_RX12_146 hx0 vc_12 (by decide) (As := [.int r8]) rfl (Nat.le_of_ble_eq_true rfl) (ok_X12_gives (cG Γ) h x0 r8 hx0) dX12_card_37 rfl (Nat.le_of_ble_eq_true rfl)) (fun r9 => ?_)
          exact x_iret hO rfl dX12_card_40 (hR _)
      · refine x_aload_n hO 0 rfl rfl dX12_card_18 ?_
        refine x_iconst hO (v := 1) (by decide) dX12_card_19 ?_
        refine y_HI (x_callV hO lv_RX12_137 hx0 vc_12 (by decide) (As := [.int ((1 : Int32))]) rfl (Nat.le_of_ble_eq_true rfl) (ok_X12_refuse (cG Γ) h x0 ((1 : Int32)) hx0) dX12_card_20 rfl (Nat.le_of_ble_eq_true rfl)) (fun r10 => ?_)
        exact x_iret hO rfl dX12_card_23 (hR _)
theorem ok_X12_card (G : Gl) (h : Hp) (x0 : Nat) (x1 : Int32) (x2 : Int32) (hx0 : Is x0 12) : CN G mX12_card [.ref (gb G + x0), .int x1, .int x2] h ((F_X12_card h x0 x1 x2).map (emHI)) := CN.fn pn_RX12 (Nat.le_of_ble_eq_true rfl) (fun Γ hG hO => by subst hG; exact go_X12_card hO h x0 x1 x2 hx0 (fun _ q => q))
noncomputable def F_X12_closes (h : Hp) (x0 : Nat) : Option (Hp × Int32) :=
  if (hI h x0 11) = ((4 : Int32)) then (F_X12_ahead h x0).bind (fun r1 => some ((r1, (1 : Int32)))) else (F_X12_fails h x0 ((2 : Int32))).bind (fun r2 => some ((r2.1, r2.2 &&& 1)))
set_option maxHeartbeats 4000000 in
set_option maxRecDepth 100000 in
theorem go_X12_closes {Γ : Cx} (hO : Ok Γ mX12_closes) (h : Hp) (x0 : Nat) (hx0 : Is x0 12) {K : Hp × Int32 → Prop} (hR : ∀ r, K r → emHI r = tgt Γ) : EG Γ mX12_closes 0 [(0, rf Γ x0)] [] h (F_X12_closes h x0) K := by
  unfold F_X12_closes
  refine x_aload_n hO 0 rfl rfl dX12_closes_0 ?_
  refine x_getI hO fl_RX12_183 hx0 dX12_closes_1 ?_
  refine x_iconst hO (v := 4) (by decide) dX12_closes_4 ?_
  refine x_icmp_eq hO (tg := 14) dX12_closes_5 (by decide) ?_ ?_
  · refine x_aload_n hO 0 rfl rfl dX12_closes_14 ?_
    refine y_HV (x_callV hO lv_RX12_210 hx0 vc_12 (by decide) (As := []) rfl (Nat.le_of_ble_eq_true rfl) (ok_X12_ahead (cG Γ) h x0 hx0) dX12_closes_15 rfl (Nat.le_of_ble_eq_true rfl)) (fun r1 => ?_)
    refine x_iconst hO (v := 1) (by decide) dX12_closes_18 ?_
    exact x_zretv hO rfl (by decide) dX12_closes_19 (hR _)
  · refine x_aload_n hO 0 rfl rfl dX12_closes_8 ?_
    refine x_iconst hO (v := 2) (by decide) dX12_closes_9 ?_
    refine y_HI (x_callV hO lv_RX12_213 hx0 vc_12 (by decide) (As := [.int ((2 : Int32))]) rfl (Nat.le_of_ble_eq_true rfl) (ok_X12_fails (cG Γ) h x0 ((2 : Int32)) hx0) dX12_closes_10 rfl (Nat.le_of_ble_eq_true rfl)) (fun r2 => ?_)
    exact x_zret hO rfl dX12_closes_13 (hR _)
theorem ok_X12_closes (G : Gl) (h : Hp) (x0 : Nat) (hx0 : Is x0 12) : CN G mX12_closes [.ref (gb G + x0)] h ((F_X12_closes h x0).map (emHI)) := CN.fn pn_RX12 (Nat.le_of_ble_eq_true rfl) (fun Γ hG hO => by subst hG; exact go_X12_closes hO h x0 hx0 (fun _ q => q))
noncomputable def F_X12_count (h : Hp) (x0 : Nat) (x1 : Int32) (x2 : Int32) : Option (Hp × Int32) :=
  (F_X12_isMean h x0 x1).bind (fun r1 => if r1 = 0 then (F_X12_refuse h x0 ((1 : Int32))).bind (fun r2 => some ((r2.1, r2.2))) else (F_X12_isColumn h x2).bind (fun r3 => if r3 = 0 then (F_X12_refuse h x0 ((1 : Int32))).bind (fun r4 => some ((r4.1, r4.2))) else (F_X12_countsOf h x0 x1 x2).bind (fun r5 => (F_X12_gives h x0 r5).bind (fun r6 => some ((r6.1, r6.2))))))
set_option maxHeartbeats 4000000 in
set_option maxRecDepth 100000 in
theorem go_X12_count {Γ : Cx} (hO : Ok Γ mX12_count) (h : Hp) (x0 : Nat) (x1 : Int32) (x2 : Int32) (hx0 : Is x0 12) {K : Hp × Int32 → Prop} (hR : ∀ r, K r → emHI r = tgt Γ) : EG Γ mX12_count 0 [(0, rf Γ x0), (1, .int x1), (2, .int x2)] [] h (F_X12_count h x0 x1 x2) K := by
  unfold F_X12_count
  refine x_aload_n hO 0 rfl rfl dX12_count_0 ?_
  refine x_iload_n hO 1 rfl rfl dX12_count_1 ?_
  refine y_PI (x_callV hO lv_RX12_274 hx0 vc_12 (by decide) (As := [.int x1]) rfl (Nat.le_of_ble_eq_true rfl) (ok_X12_isMean (cG Γ) h x0 x1 hx0) dX12_count_2 rfl (Nat.le_of_ble_eq_true rfl)) (fun r1 => ?_)
  refine x_if_eq hO (tg := 28) dX12_count_5 (by decide) ?_ ?_
  · refine x_aload_n hO 0 rfl rfl dX12_count_28 ?_
    refine x_iconst hO (v := 1) (by decide) dX12_count_29 ?_
    refine y_HI (x_callV hO lv_RX12_137 hx0 vc_12 (by decide) (As := [.int ((1 : Int32))]) rfl (Nat.le_of_ble_eq_true rfl) (ok_X12_refuse (cG Γ) h x0 ((1 : Int32)) hx0) dX12_count_30 rfl (Nat.le_of_ble_eq_true rfl)) (fun r2 => ?_)
    exact x_iret hO rfl dX12_count_33 (hR _)
  · refine x_iload_n hO 2 rfl rfl dX12_count_8 ?_
    refine y_PI (x_callS hO lt_RX12_152 (As := [.int x2]) rfl (Nat.le_of_ble_eq_true rfl) (ok_X12_isColumn (cG Γ) h x2) dX12_count_9 rfl (Nat.le_of_ble_eq_true rfl)) (fun r3 => ?_)
    refine x_if_eq hO (tg := 28) dX12_count_12 (by decide) ?_ ?_
    · refine x_aload_n hO 0 rfl rfl dX12_count_28 ?_
      refine x_iconst hO (v := 1) (by decide) dX12_count_29 ?_
      refine y_HI (x_callV hO lv_RX12_137 hx0 vc_12 (by decide) (As := [.int ((1 : Int32))]) rfl (Nat.le_of_ble_eq_true rfl) (ok_X12_refuse (cG Γ) h x0 ((1 : Int32)) hx0) dX12_count_30 rfl (Nat.le_of_ble_eq_true rfl)) (fun r4 => ?_)
      exact x_iret hO rfl dX12_count_33 (hR _)
    · refine x_aload_n hO 0 rfl rfl dX12_count_15 ?_
      refine x_aload_n hO 0 rfl rfl dX12_count_16 ?_
      refine x_iload_n hO 1 rfl rfl dX12_count_17 ?_
      refine x_iload_n hO 2 rfl rfl dX12_count_18 ?_
      refine y_PI (x_callV hO lv_RX12_400 hx0 vc_12 (by decide) (As := [.int x1, .int x2]) rfl (Nat.le_of_ble_eq_true rfl) (ok_X12_countsOf (cG Γ) h x0 x1 x2 hx0) dX12_count_19 rfl (Nat.le_of_ble_eq_true rfl)) (fun r5 => ?_)
      refine y_HI (x_callV hO lv_RX12_146 hx0 vc_12 (by decide) (As := [.int r5]) rfl (Nat.le_of_ble_eq_true rfl) (ok_X12_gives (cG Γ) h x0 r5 hx0) dX12_count_22 rfl (Nat.le_of_ble_eq_true rfl)) (fun r6 => ?_)
      refine x_goto hO (tg := 33) dX12_count_25 (by decide) ?_
      exact x_iret hO rfl dX12_count_33 (hR _)
theorem ok_X12_count (G : Gl) (h : Hp) (x0 : Nat) (x1 : Int32) (x2 : Int32) (hx0 : Is x0 12) : CN G mX12_count [.ref (gb G + x0), .int x1, .int x2] h ((F_X12_count h x0 x1 x2).map (emHI)) := CN.fn pn_RX12 (Nat.le_of_ble_eq_true rfl) (fun Γ hG hO => by subst hG; exact go_X12_count hO h x0 x1 x2 hx0 (fun _ q => q))
noncomputable def B_X12_habit_54 (h : Hp) (x0 : Nat) (x1 : Int32) (x2 : Int32) (x3 : Int32) (x4 : Int32) (x5 : Int32) (x6 : Int32) : Option ((Int32 × Int32) ⊕ (Int32)) :=
  if ((8 : Int32)) ≤ x6 then some (.inr x5) else if x5 = 0 then (F_X12_reads h x0 x4 x6).bind (fun r1 => if r1 = ((11 : Int32)) then some (.inl ((1 : Int32), x6 + (1 : Int32))) else some (.inl ((0 : Int32), x6 + (1 : Int32)))) else some (.inl ((1 : Int32), x6 + (1 : Int32)))
noncomputable def L_X12_habit_54 (h : Hp) (x0 : Nat) (x1 : Int32) (x2 : Int32) (x3 : Int32) (x4 : Int32) (x5 : Int32) (x6 : Int32) : Option (Int32) := iterW (fun s : Int32 × Int32 => B_X12_habit_54 h x0 x1 x2 x3 x4 s.1 s.2) (x5, x6)
set_option maxHeartbeats 4000000 in
set_option maxRecDepth 100000 in
theorem go_X12_habit_B54 {Γ : Cx} (hO : Ok Γ mX12_habit) (h : Hp) (x0 : Nat) (x1 : Int32) (x2 : Int32) (x3 : Int32) (x4 : Int32) (x5 : Int32) (x6 : Int32) (hx0 : Is x0 12) {K : (Int32 × Int32) ⊕ (Int32) → Prop} (hC : ∀ (x5 : Int32) (x6 : Int32), K (.inl (x5, x6)) → EW Γ mX12_habit 54 [(0, rf Γ x0), (1, .int x1), (2, .int x2), (3, .int x3), (4, .int x4), (5, .int x5), (6, .int x6)] [] h) (hE92 : ∀ (x5 : Int32), K (.inr x5) → EW Γ mX12_habit 92 [(0, rf Γ x0), (1, .int x1), (2, .int x2), (3, .int x3), (4, .int x4), (5, .int x5)] [] h) : EG Γ mX12_habit 54 [(0, rf Γ x0), (1, .int x1), (2, .int x2), (3, .int x3), (4, .int x4), (5, .int x5), (6, .int x6)] [] h (B_X12_habit_54 h x0 x1 x2 x3 x4 x5 x6) K := by
  unfold B_X12_habit_54
  refine x_iload hO 6 rfl dX12_habit_54 ?_
  refine x_bipush hO (v := 8) (by decide) dX12_habit_56 ?_
  refine x_icmp_ge hO (tg := 92) dX12_habit_58 (by decide) ?_ ?_
  · exact x_leafs [0, 1, 2, 3, 4, 5] rfl (hE92 x5)
  · refine x_iload hO 5 rfl dX12_habit_61 ?_
    refine x_if_ne hO (tg := 79) dX12_habit_63 (by decide) ?_ ?_
    · refine x_iconst hO (v := 1) (by decide) dX12_habit_79 ?_
      refine x_goto hO (tg := 84) dX12_habit_80 (by decide) ?_
      refine x_istore hO [(5, .int ((1 : Int32))), (0, rf Γ x0), (1, .int x1), (2, .int x2), (3, .int x3), (4, .int x4), (6, .int x6)] dX12_habit_84 (by decide) rfl ?_
      refine x_iinc hO 6 (v := 1) [(6, .int (x6 + (1 : Int32))), (5, .int ((1 : Int32))), (0, rf Γ x0), (1, .int x1), (2, .int x2), (3, .int x3), (4, .int x4)] dX12_habit_86 rfl (by decide) (by decide) rfl ?_
      refine x_goto hO (tg := 54) dX12_habit_89 (by decide) ?_
      exact x_leafs [2, 3, 4, 5, 6, 1, 0] rfl (hC ((1 : Int32)) (x6 + (1 : Int32)))
    · refine x_aload_n hO 0 rfl rfl dX12_habit_66 ?_
      refine x_iload hO 4 rfl dX12_habit_67 ?_
      refine x_iload hO 6 rfl dX12_habit_69 ?_
      refine y_PI (x_callV hO lv_RX12_155 hx0 vc_12 (by decide) (As := [.int x4, .int x6]) rfl (Nat.le_of_ble_eq_true rfl) (ok_X12_reads (cG Γ) h x0 x4 x6 hx0) dX12_habit_71 rfl (Nat.le_of_ble_eq_true rfl)) (fun r1 => ?_)
      refine x_bipush hO (v := 11) (by decide) dX12_habit_74 ?_
      refine x_icmp_ne hO (tg := 83) dX12_habit_76 (by decide) ?_ ?_
      · refine x_iconst hO (v := 0) (by decide) dX12_habit_83 ?_
        refine x_istore hO [(5, .int ((0 : Int32))), (0, rf Γ x0), (1, .int x1), (2, .int x2), (3, .int x3), (4, .int x4), (6, .int x6)] dX12_habit_84 (by decide) rfl ?_
        refine x_iinc hO 6 (v := 1) [(6, .int (x6 + (1 : Int32))), (5, .int ((0 : Int32))), (0, rf Γ x0), (1, .int x1), (2, .int x2), (3, .int x3), (4, .int x4)] dX12_habit_86 rfl (by decide) (by decide) rfl ?_
        refine x_goto hO (tg := 54) dX12_habit_89 (by decide) ?_
        exact x_leafs [2, 3, 4, 5, 6, 1, 0] rfl (hC ((0 : Int32)) (x6 + (1 : Int32)))
      · refine x_iconst hO (v := 1) (by decide) dX12_habit_79 ?_
        refine x_goto hO (tg := 84) dX12_habit_80 (by decide) ?_
        refine x_istore hO [(5, .int ((1 : Int32))), (0, rf Γ x0), (1, .int x1), (2, .int x2), (3, .int x3), (4, .int x4), (6, .int x6)] dX12_habit_84 (by decide) rfl ?_
        refine x_iinc hO 6 (v := 1) [(6, .int (x6 + (1 : Int32))), (5, .int ((1 : Int32))), (0, rf Γ x0), (1, .int x1), (2, .int x2), (3, .int x3), (4, .int x4)] dX12_habit_86 rfl (by decide) (by decide) rfl ?_
        refine x_goto hO (tg := 54) dX12_habit_89 (by decide) ?_
        exact x_leafs [2, 3, 4, 5, 6, 1, 0] rfl (hC ((1 : Int32)) (x6 + (1 : Int32)))
set_option maxHeartbeats 4000000 in
set_option maxRecDepth 100000 in
theorem go_X12_habit_L54 {Γ : Cx} (hO : Ok Γ mX12_habit) (h : Hp) (x0 : Nat) (x1 : Int32) (x2 : Int32) (x3 : Int32) (x4 : Int32) (x5 : Int32) (x6 : Int32) (hx0 : Is x0 12) {K : Int32 → Prop} (hE92 : ∀ (x5 : Int32), K (x5) → EW Γ mX12_habit 92 [(0, rf Γ x0), (1, .int x1), (2, .int x2), (3, .int x3), (4, .int x4), (5, .int x5)] [] h) : EG Γ mX12_habit 54 [(0, rf Γ x0), (1, .int x1), (2, .int x2), (3, .int x3), (4, .int x4), (5, .int x5), (6, .int x6)] [] h (L_X12_habit_54 h x0 x1 x2 x3 x4 x5 x6) K := by
  have q := x_loop (Γ := Γ) (M := mX12_habit) (pc := 54) (B := fun s : Int32 × Int32 => B_X12_habit_54 h x0 x1 x2 x3 x4 s.1 s.2) (lvf := fun s => [(0, rf Γ x0), (1, .int x1), (2, .int x2), (3, .int x3), (4, .int x4), (5, .int s.1), (6, .int s.2)]) (hf := fun s => h) (Ky := K) (fun s => go_X12_habit_B54 hO h x0 x1 x2 x3 x4 s.1 s.2 hx0 (fun _ _ => id) hE92) (x5, x6)
  exact q
noncomputable def B_X12_habit_22 (h : Hp) (x0 : Nat) (x1 : Int32) (x2 : Int32) (x3 : Int32) (x4 : Int32) : Option ((Int32 × Int32 × Int32) ⊕ (Int32 × Int32)) :=
  gd (ib ((0 : Int32)) (LEN (GR x0 0))) (if (hI h (GR x0 0) (nx ((0 : Int32)))) ≤ x4 then some (.inr ((x2, x3))) else (F_X12_ofCard h x0 x4 ((8 : Int32))).bind (fun r1 => if r1 = x1 then (L_X12_habit_54 h x0 x1 x2 x3 x4 ((0 : Int32)) ((0 : Int32))).bind (fun e2 => if e2 = 0 then some (.inl (x2 + (1 : Int32), x3 + ((0 : Int32)), x4 + (1 : Int32))) else some (.inl (x2 + (1 : Int32), x3 + ((1 : Int32)), x4 + (1 : Int32)))) else some (.inl (x2, x3, x4 + (1 : Int32)))))
noncomputable def L_X12_habit_22 (h : Hp) (x0 : Nat) (x1 : Int32) (x2 : Int32) (x3 : Int32) (x4 : Int32) : Option (Int32 × Int32) := iterW (fun s : Int32 × Int32 × Int32 => B_X12_habit_22 h x0 x1 s.1 s.2.1 s.2.2) (x2, x3, x4)
set_option maxHeartbeats 4000000 in
set_option maxRecDepth 100000 in
theorem go_X12_habit_B22 {Γ : Cx} (hO : Ok Γ mX12_habit) (h : Hp) (x0 : Nat) (x1 : Int32) (x2 : Int32) (x3 : Int32) (x4 : Int32) (hx0 : Is x0 12) {K : (Int32 × Int32 × Int32) ⊕ (Int32 × Int32) → Prop} (hC : ∀ (x2 : Int32) (x3 : Int32) (x4 : Int32), K (.inl (x2, x3, x4)) → EW Γ mX12_habit 22 [(0, rf Γ x0), (1, .int x1), (2, .int x2), (3, .int x3), (4, .int x4)] [] h) (hE114 : ∀ (x2 : Int32) (x3 : Int32), K (.inr ((x2, x3))) → EW Γ mX12_habit 114 [(0, rf Γ x0), (2, .int x2), (3, .int x3)] [] h) : EG Γ mX12_habit 22 [(0, rf Γ x0), (1, .int x1), (2, .int x2), (3, .int x3), (4, .int x4)] [] h (B_X12_habit_22 h x0 x1 x2 x3 x4) K := by
  unfold B_X12_habit_22
  refine x_iload hO 4 rfl dX12_habit_22 ?_
  refine x_aload_n hO 0 rfl rfl dX12_habit_24 ?_
  refine x_getR hO fl_RX12_7 hx0 dX12_habit_25 ?_
  refine x_iconst hO (v := 0) (by decide) dX12_habit_28 ?_
  refine x_iald hO (gr_12_0 hx0) dX12_habit_29 ?_
  refine x_icmp_ge hO (tg := 114) dX12_habit_30 (by decide) ?_ ?_
  · exact x_leafs [0, 2, 3] rfl (hE114 x2 x3)
  · refine x_aload_n hO 0 rfl rfl dX12_habit_33 ?_
    refine x_iload hO 4 rfl dX12_habit_34 ?_
    refine x_bipush hO (v := 8) (by decide) dX12_habit_36 ?_
    refine y_PI (x_callV hO lv_RX12_130 hx0 vc_12 (by decide) (As := [.int x4, .int ((8 : Int32))]) rfl (Nat.le_of_ble_eq_true rfl) (ok_X12_ofCard (cG Γ) h x0 x4 ((8 : Int32)) hx0) dX12_habit_38 rfl (Nat.le_of_ble_eq_true rfl)) (fun r1 => ?_)
    refine x_iload_n hO 1 rfl rfl dX12_habit_41 ?_
    refine x_icmp_eq hO (tg := 48) dX12_habit_42 (by decide) ?_ ?_
    · refine x_iconst hO (v := 0) (by decide) dX12_habit_48 ?_
      refine x_istore hO [(5, .int ((0 : Int32))), (0, rf Γ x0), (1, .int x1), (2, .int x2), (3, .int x3), (4, .int x4)] dX12_habit_49 (by decide) rfl ?_
      refine x_iconst hO (v := 0) (by decide) dX12_habit_51 ?_
      refine x_istore hO [(6, .int ((0 : Int32))), (5, .int ((0 : Int32))), (0, rf Γ x0), (1, .int x1), (2, .int x2), (3, .int x3), (4, .int x4)] dX12_habit_52 (by decide) rfl ?_
      refine x_bind (x_sub [2, 3, 4, 5, 6, 1, 0] rfl (go_X12_habit_L54 hO h x0 x1 x2 x3 x4 ((0 : Int32)) ((0 : Int32)) hx0 (fun y2_0 hx => ?_)))
      refine x_run (t := (if y2_0 = 0 then some (.inl (x2 + (1 : Int32), x3 + ((0 : Int32)), x4 + (1 : Int32))) else some (.inl (x2 + (1 : Int32), x3 + ((1 : Int32)), x4 + (1 : Int32))) : Option ((Int32 × Int32 × Int32) ⊕ (Int32 × Int32)))) hx ?_
      refine x_iinc hO 2 (v := 1) [(2, .int (x2 + (1 : Int32))), (0, rf Γ x0), (1, .int x1), (3, .int x3), (4, .int x4), (5, .int y2_0)] dX12_habit_92 rfl (by decide) (by decide) rfl ?_
      refine x_iload_n hO 3 rfl rfl dX12_habit_95 ?_
      refine x_iload hO 5 rfl dX12_habit_96 ?_
      refine x_if_eq hO (tg := 105) dX12_habit_98 (by decide) ?_ ?_
      · refine x_iconst hO (v := 0) (by decide) dX12_habit_105 ?_
        refine x_iadd hO dX12_habit_106 ?_
        refine x_istore_n hO rfl [(3, .int (x3 + ((0 : Int32)))), (2, .int (x2 + (1 : Int32))), (0, rf Γ x0), (1, .int x1), (4, .int x4), (5, .int y2_0)] dX12_habit_107 (by decide) rfl ?_
        refine x_iinc hO 4 (v := 1) [(4, .int (x4 + (1 : Int32))), (3, .int (x3 + ((0 : Int32)))), (2, .int (x2 + (1 : Int32))), (0, rf Γ x0), (1, .int x1), (5, .int y2_0)] dX12_habit_108 rfl (by decide) (by decide) rfl ?_
        refine x_goto hO (tg := 22) dX12_habit_111 (by decide) ?_
        exact x_leafs [3, 4, 2, 1, 0] rfl (hC (x2 + (1 : Int32)) (x3 + ((0 : Int32))) (x4 + (1 : Int32)))
      · refine x_iconst hO (v := 1) (by decide) dX12_habit_101 ?_
        refine x_goto hO (tg := 106) dX12_habit_102 (by decide) ?_
        refine x_iadd hO dX12_habit_106 ?_
        refine x_istore_n hO rfl [(3, .int (x3 + ((1 : Int32)))), (2, .int (x2 + (1 : Int32))), (0, rf Γ x0), (1, .int x1), (4, .int x4), (5, .int y2_0)] dX12_habit_107 (by decide) rfl ?_
        refine x_iinc hO 4 (v := 1) [(4, .int (x4 + (1 : Int32))), (3, .int (x3 + ((1 : Int32)))), (2, .int (x2 + (1 : Int32))), (0, rf Γ x0), (1, .int x1), (5, .int y2_0)] dX12_habit_108 rfl (by decide) (by decide) rfl ?_
        refine x_goto hO (tg := 22) dX12_habit_111 (by decide) ?_
        exact x_leafs [3, 4, 2, 1, 0] rfl (hC (x2 + (1 : Int32)) (x3 + ((1 : Int32))) (x4 + (1 : Int32)))
    · refine x_goto hO (tg := 108) dX12_habit_45 (by decide) ?_
      refine x_iinc hO 4 (v := 1) [(4, .int (x4 + (1 : Int32))), (0, rf Γ x0), (1, .int x1), (2, .int x2), (3, .int x3)] dX12_habit_108 rfl (by decide) (by decide) rfl ?_
      refine x_goto hO (tg := 22) dX12_habit_111 (by decide) ?_
      exact x_leafs [1, 2, 3, 4, 0] rfl (hC x2 x3 (x4 + (1 : Int32)))
set_option maxHeartbeats 4000000 in
set_option maxRecDepth 100000 in
theorem go_X12_habit_L22 {Γ : Cx} (hO : Ok Γ mX12_habit) (h : Hp) (x0 : Nat) (x1 : Int32) (x2 : Int32) (x3 : Int32) (x4 : Int32) (hx0 : Is x0 12) {K : Int32 × Int32 → Prop} (hE114 : ∀ (x2 : Int32) (x3 : Int32), K ((x2, x3)) → EW Γ mX12_habit 114 [(0, rf Γ x0), (2, .int x2), (3, .int x3)] [] h) : EG Γ mX12_habit 22 [(0, rf Γ x0), (1, .int x1), (2, .int x2), (3, .int x3), (4, .int x4)] [] h (L_X12_habit_22 h x0 x1 x2 x3 x4) K := by
  have q := x_loop (Γ := Γ) (M := mX12_habit) (pc := 22) (B := fun s : Int32 × Int32 × Int32 => B_X12_habit_22 h x0 x1 s.1 s.2.1 s.2.2) (lvf := fun s => [(0, rf Γ x0), (1, .int x1), (2, .int s.1), (3, .int s.2.1), (4, .int s.2.2)]) (hf := fun s => h) (Ky := K) (fun s => go_X12_habit_B22 hO h x0 x1 s.1 s.2.1 s.2.2 hx0 (fun _ _ _ => id) hE114) (x2, x3, x4)
  exact q
noncomputable def B_X12_habit_131 (h : Hp) (x0 : Nat) (x2 : Int32) (x3 : Int32) (x4 : Int32) (x5 : Int32) : Option ((Int32 × Int32) ⊕ (Int32)) :=
  if x5 = 0 then some (.inr x4) else gd (!decide (x5 = 0)) (some (.inl (x5, x4 - x4 / x5 * x5)))
noncomputable def L_X12_habit_131 (h : Hp) (x0 : Nat) (x2 : Int32) (x3 : Int32) (x4 : Int32) (x5 : Int32) : Option (Int32) := iterW (fun s : Int32 × Int32 => B_X12_habit_131 h x0 x2 x3 s.1 s.2) (x4, x5)
set_option maxHeartbeats 4000000 in
set_option maxRecDepth 100000 in
theorem go_X12_habit_B131 {Γ : Cx} (hO : Ok Γ mX12_habit) (h : Hp) (x0 : Nat) (x2 : Int32) (x3 : Int32) (x4 : Int32) (x5 : Int32) (hx0 : Is x0 12) {K : (Int32 × Int32) ⊕ (Int32) → Prop} (hC : ∀ (x4 : Int32) (x5 : Int32), K (.inl (x4, x5)) → EW Γ mX12_habit 131 [(0, rf Γ x0), (2, .int x2), (3, .int x3), (4, .int x4), (5, .int x5)] [] h) (hE154 : ∀ (x4 : Int32), K (.inr x4) → EW Γ mX12_habit 154 [(0, rf Γ x0), (2, .int x2), (3, .int x3), (4, .int x4)] [] h) : EG Γ mX12_habit 131 [(0, rf Γ x0), (2, .int x2), (3, .int x3), (4, .int x4), (5, .int x5)] [] h (B_X12_habit_131 h x0 x2 x3 x4 x5) K := by
  unfold B_X12_habit_131
  refine x_iload hO 4 rfl dX12_habit_131 ?_
  refine x_if_eq hO (tg := 154) dX12_habit_133 (by decide) ?_ ?_
  · exact x_leafs [0, 1, 2, 3] rfl (hE154 x4)
  · refine x_iload hO 3 rfl dX12_habit_136 ?_
    refine x_iload hO 4 rfl dX12_habit_138 ?_
    refine x_irem hO dX12_habit_140 ?_
    refine x_istore hO [(6, .int (x4 - x4 / x5 * x5)), (0, rf Γ x0), (2, .int x2), (3, .int x3), (4, .int x4), (5, .int x5)] dX12_habit_141 (by decide) rfl ?_
    refine x_iload hO 5 rfl dX12_habit_143 ?_
    refine x_istore hO [(4, .int x5), (6, .int (x4 - x4 / x5 * x5)), (0, rf Γ x0), (2, .int x2), (3, .int x3), (5, .int x5)] dX12_habit_145 (by decide) rfl ?_
    refine x_iload hO 1 rfl dX12_habit_147 ?_
    refine x_istore hO [(5, .int (x4 - x4 / x5 * x5)), (4, .int x5), (6, .int (x4 - x4 / x5 * x5)), (0, rf Γ x0), (2, .int x2), (3, .int x3)] dX12_habit_149 (by decide) rfl ?_
    refine x_goto hO (tg := 131) dX12_habit_151 (by decide) ?_
    exact x_leafs [3, 4, 5, 1, 0] rfl (hC x5 (x4 - x4 / x5 * x5))
set_option maxHeartbeats 4000000 in
set_option maxRecDepth 100000 in
theorem go_X12_habit_L131 {Γ : Cx} (hO : Ok Γ mX12_habit) (h : Hp) (x0 : Nat) (x2 : Int32) (x3 : Int32) (x4 : Int32) (x5 : Int32) (hx0 : Is x0 12) {K : Int32 → Prop} (hE154 : ∀ (x4 : Int32), K (x4) → EW Γ mX12_habit 154 [(0, rf Γ x0), (2, .int x2), (3, .int x3), (4, .int x4)] [] h) : EG Γ mX12_habit 131 [(0, rf Γ x0), (2, .int x2), (3, .int x3), (4, .int x4), (5, .int x5)] [] h (L_X12_habit_131 h x0 x2 x3 x4 x5) K := by
  have q := x_loop (Γ := Γ) (M := mX12_habit) (pc := 131) (B := fun s : Int32 × Int32 => B_X12_habit_131 h x0 x2 x3 s.1 s.2) (lvf := fun s => [(0, rf Γ x0), (2, .int x2), (3, .int x3), (4, .int s.1), (5, .int s.2)]) (hf := fun s => h) (Ky := K) (fun s => go_X12_habit_B131 hO h x0 x2 x3 s.1 s.2 hx0 (fun _ _ => id) hE154) (x4, x5)
  exact q
noncomputable def F_X12_habit (h : Hp) (x0 : Nat) (x1 : Int32) : Option (Hp × Int32) :=
  if x1 < 0 then (F_X12_is h x0 ((1 : Int32))).bind (fun r1 => some ((r1.1, r1.2 &&& 1))) else if x1 ≤ ((1 : Int32)) then (L_X12_habit_22 h x0 x1 ((0 : Int32)) ((0 : Int32)) ((0 : Int32))).bind (fun e2 => if e2.1 = 0 then (F_X12_is h x0 ((6 : Int32))).bind (fun r5 => some ((r5.1, r5.2 &&& 1))) else (L_X12_habit_131 h x0 e2.1 e2.2 e2.2 e2.1).bind (fun e3 => gd (!decide (e3 = 0)) (gd (!decide (e3 = 0)) ((F_X12_is (uL (uL h x0 2 ((e2.2 / e3).toInt64)) x0 3 ((e2.1 / e3).toInt64)) x0 ((0 : Int32))).bind (fun r4 => some ((r4.1, r4.2 &&& 1))))))) else (F_X12_is h x0 ((1 : Int32))).bind (fun r6 => some ((r6.1, r6.2 &&& 1)))
set_option maxHeartbeats 4000000 in
set_option maxRecDepth 100000 in
theorem go_X12_habit {Γ : Cx} (hO : Ok Γ mX12_habit) (h : Hp) (x0 : Nat) (x1 : Int32) (hx0 : Is x0 12) {K : Hp × Int32 → Prop} (hR : ∀ r, K r → emHI r = tgt Γ) : EG Γ mX12_habit 0 [(0, rf Γ x0), (1, .int x1)] [] h (F_X12_habit h x0 x1) K := by
  unfold F_X12_habit
  refine x_iload_n hO 1 rfl rfl dX12_habit_0 ?_
  refine x_if_lt hO (tg := 9) dX12_habit_1 (by decide) ?_ ?_
  · refine x_aload_n hO 0 rfl rfl dX12_habit_9 ?_
    refine x_iconst hO (v := 1) (by decide) dX12_habit_10 ?_
    refine y_HI (x_callV hO lv_RX12_117 hx0 vc_12 (by decide) (As := [.int ((1 : Int32))]) rfl (Nat.le_of_ble_eq_true rfl) (ok_X12_is (cG Γ) h x0 ((1 : Int32)) hx0) dX12_habit_11 rfl (Nat.le_of_ble_eq_true rfl)) (fun r1 => ?_)
    exact x_zret hO rfl dX12_habit_14 (hR _)
  · refine x_iload_n hO 1 rfl rfl dX12_habit_4 ?_
    refine x_iconst hO (v := 1) (by decide) dX12_habit_5 ?_
    refine x_icmp_le hO (tg := 15) dX12_habit_6 (by decide) ?_ ?_
    · refine x_iconst hO (v := 0) (by decide) dX12_habit_15 ?_
      refine x_istore_n hO rfl [(2, .int ((0 : Int32))), (0, rf Γ x0), (1, .int x1)] dX12_habit_16 (by decide) rfl ?_
      refine x_iconst hO (v := 0) (by decide) dX12_habit_17 ?_
      refine x_istore_n hO rfl [(3, .int ((0 : Int32))), (2, .int ((0 : Int32))), (0, rf Γ x0), (1, .int x1)] dX12_habit_18 (by decide) rfl ?_
      refine x_iconst hO (v := 0) (by decide) dX12_habit_19 ?_
      refine x_istore hO [(4, .int ((0 : Int32))), (3, .int ((0 : Int32))), (2, .int ((0 : Int32))), (0, rf Γ x0), (1, .int x1)] dX12_habit_20 (by decide) rfl ?_
      refine x_bind (x_sub [3, 4, 2, 1, 0] rfl (go_X12_habit_L22 hO h x0 x1 ((0 : Int32)) ((0 : Int32)) ((0 : Int32)) hx0 (fun y2_0 y2_1 hx => ?_)))
      refine x_run (t := (if y2_0 = 0 then (F_X12_is h x0 ((6 : Int32))).bind (fun r5 => some ((r5.1, r5.2 &&& 1))) else (L_X12_habit_131 h x0 y2_0 y2_1 y2_1 y2_0).bind (fun e3 => gd (!decide (e3 = 0)) (gd (!decide (e3 = 0)) ((F_X12_is (uL (uL h x0 2 ((y2_1 / e3).toInt64)) x0 3 ((y2_0 / e3).toInt64)) x0 ((0 : Int32))).bind (fun r4 => some ((r4.1, r4.2 &&& 1)))))) : Option (Hp × Int32))) hx ?_
      refine x_iload_n hO 1 rfl rfl dX12_habit_114 ?_
      refine x_if_ne hO (tg := 125) dX12_habit_115 (by decide) ?_ ?_
      · refine x_iload_n hO 2 rfl rfl dX12_habit_125 ?_
        refine x_istore hO [(4, .int y2_1), (0, rf Γ x0), (2, .int y2_0), (3, .int y2_1)] dX12_habit_126 (by decide) rfl ?_
        refine x_iload_n hO 2 rfl rfl dX12_habit_128 ?_
        refine x_istore hO [(5, .int y2_0), (4, .int y2_1), (0, rf Γ x0), (2, .int y2_0), (3, .int y2_1)] dX12_habit_129 (by decide) rfl ?_
        refine x_bind (x_sub [2, 3, 4, 1, 0] rfl (go_X12_habit_L131 hO h x0 y2_0 y2_1 y2_1 y2_0 hx0 (fun y3_0 hx => ?_)))
        refine x_run (t := (gd (!decide (y3_0 = 0)) (gd (!decide (y3_0 = 0)) ((F_X12_is (uL (uL h x0 2 ((y2_1 / y3_0).toInt64)) x0 3 ((y2_0 / y3_0).toInt64)) x0 ((0 : Int32))).bind (fun r4 => some ((r4.1, r4.2 &&& 1))))) : Option (Hp × Int32))) hx ?_
        refine x_aload_n hO 0 rfl rfl dX12_habit_154 ?_
        refine x_iload_n hO 2 rfl rfl dX12_habit_155 ?_
        refine x_iload hO 3 rfl dX12_habit_156 ?_
        refine x_idiv hO dX12_habit_158 ?_
        refine x_i2l hO dX12_habit_159 ?_
        refine x_putL hO fl_RX12_110 hx0 dX12_habit_160 ?_
        refine x_aload_n hO 0 rfl rfl dX12_habit_163 ?_
        refine x_iload_n hO 1 rfl rfl dX12_habit_164 ?_
        refine x_iload hO 3 rfl dX12_habit_165 ?_
        refine x_idiv hO dX12_habit_167 ?_
        refine x_i2l hO dX12_habit_168 ?_
        refine x_putL hO fl_RX12_13 hx0 dX12_habit_169 ?_
        refine x_aload_n hO 0 rfl rfl dX12_habit_172 ?_
        refine x_iconst hO (v := 0) (by decide) dX12_habit_173 ?_
        refine y_HI (x_callV hO lv_RX12_117 hx0 vc_12 (by decide) (As := [.int ((0 : Int32))]) rfl (Nat.le_of_ble_eq_true rfl) (ok_X12_is (cG Γ) (uL (uL h x0 2 ((y2_1 / y3_0).toInt64)) x0 3 ((y2_0 / y3_0).toInt64)) x0 ((0 : Int32)) hx0) dX12_habit_174 rfl (Nat.le_of_ble_eq_true rfl)) (fun r4 => ?_)
        exact x_zret hO rfl dX12_habit_177 (hR _)
      · refine x_aload_n hO 0 rfl rfl dX12_habit_118 ?_
        refine x_bipush hO (v := 6) (by decide) dX12_habit_119 ?_
        refine y_HI (x_callV hO lv_RX12_117 hx0 vc_12 (by decide) (As := [.int ((6 : Int32))]) rfl (Nat.le_of_ble_eq_true rfl) (ok_X12_is (cG Γ) h x0 ((6 : Int32)) hx0) dX12_habit_121 rfl (Nat.le_of_ble_eq_true rfl)) (fun r5 => ?_)
        exact x_zret hO rfl dX12_habit_124 (hR _)
    · refine x_aload_n hO 0 rfl rfl dX12_habit_9 ?_
      refine x_iconst hO (v := 1) (by decide) dX12_habit_10 ?_
      refine y_HI (x_callV hO lv_RX12_117 hx0 vc_12 (by decide) (As := [.int ((1 : Int32))]) rfl (Nat.le_of_ble_eq_true rfl) (ok_X12_is (cG Γ) h x0 ((1 : Int32)) hx0) dX12_habit_11 rfl (Nat.le_of_ble_eq_true rfl)) (fun r6 => ?_)
      exact x_zret hO rfl dX12_habit_14 (hR _)
theorem ok_X12_habit (G : Gl) (h : Hp) (x0 : Nat) (x1 : Int32) (hx0 : Is x0 12) : CN G mX12_habit [.ref (gb G + x0), .int x1] h ((F_X12_habit h x0 x1).map (emHI)) := CN.fn pn_RX12 (Nat.le_of_ble_eq_true rfl) (fun Γ hG hO => by subst hG; exact go_X12_habit hO h x0 x1 hx0 (fun _ q => q))
noncomputable def F_X12_itemOf (h : Hp) (x0 : Nat) (x1 : Int32) (x2 : Int32) : Option (Int32) :=
  gd (ib x2 (LEN (GR x0 28))) ((F_X12_reads h x0 x1 (hI h (GR x0 28) (nx x2))).bind (fun r1 => gd (ib x2 (LEN (GR x0 29))) (if (hI h (GR x0 29) (nx x2)) = 0 then some r1 else if r1 ≤ ((9 : Int32)) then gd (ib x2 (LEN (GR x0 29))) (if (hI h (GR x0 29) (nx x2)) = ((1 : Int32)) then some (r1 / ((5 : Int32))) else some (r1 - r1 / ((2 : Int32)) * ((2 : Int32)))) else some ((2 : Int32)))))
set_option maxHeartbeats 4000000 in
set_option maxRecDepth 100000 in
theorem go_X12_itemOf {Γ : Cx} (hO : Ok Γ mX12_itemOf) (h : Hp) (x0 : Nat) (x1 : Int32) (x2 : Int32) (hx0 : Is x0 12) {K : Int32 → Prop} (hR : ∀ r, K r → emPI h r = tgt Γ) : EG Γ mX12_itemOf 0 [(0, rf Γ x0), (1, .int x1), (2, .int x2)] [] h (F_X12_itemOf h x0 x1 x2) K := by
  unfold F_X12_itemOf
  refine x_aload_n hO 0 rfl rfl dX12_itemOf_0 ?_
  refine x_iload_n hO 1 rfl rfl dX12_itemOf_1 ?_
  refine x_aload_n hO 0 rfl rfl dX12_itemOf_2 ?_
  refine x_getR hO fl_RX12_59 hx0 dX12_itemOf_3 ?_
  refine x_iload_n hO 2 rfl rfl dX12_itemOf_6 ?_
  refine x_iald hO (gr_12_28 hx0) dX12_itemOf_7 ?_
  refine y_PI (x_callV hO lv_RX12_155 hx0 vc_12 (by decide) (As := [.int x1, .int (hI h (GR x0 28) (nx x2))]) rfl (Nat.le_of_ble_eq_true rfl) (ok_X12_reads (cG Γ) h x0 x1 (hI h (GR x0 28) (nx x2)) hx0) dX12_itemOf_8 rfl (Nat.le_of_ble_eq_true rfl)) (fun r1 => ?_)
  refine x_istore_n hO rfl [(3, .int r1), (0, rf Γ x0), (1, .int x1), (2, .int x2)] dX12_itemOf_11 (by decide) rfl ?_
  refine x_aload_n hO 1 rfl rfl dX12_itemOf_12 ?_
  refine x_getR hO fl_RX12_62 hx0 dX12_itemOf_13 ?_
  refine x_iload_n hO 3 rfl rfl dX12_itemOf_16 ?_
  refine x_iald hO (gr_12_29 hx0) dX12_itemOf_17 ?_
  refine x_if_ne hO (tg := 23) dX12_itemOf_18 (by decide) ?_ ?_
  · refine x_iload_n hO 0 rfl rfl dX12_itemOf_23 ?_
    refine x_bipush hO (v := 9) (by decide) dX12_itemOf_24 ?_
    refine x_icmp_le hO (tg := 33) dX12_itemOf_26 (by decide) ?_ ?_
    · refine x_aload_n hO 1 rfl rfl dX12_itemOf_33 ?_
      refine x_getR hO fl_RX12_62 hx0 dX12_itemOf_34 ?_
      refine x_iload_n hO 3 rfl rfl dX12_itemOf_37 ?_
      refine x_iald hO (gr_12_29 hx0) dX12_itemOf_38 ?_
      refine x_iconst hO (v := 1) (by decide) dX12_itemOf_39 ?_
      refine x_icmp_ne hO (tg := 49) dX12_itemOf_40 (by decide) ?_ ?_
      · refine x_iload_n hO 0 rfl rfl dX12_itemOf_49 ?_
        refine x_iconst hO (v := 2) (by decide) dX12_itemOf_50 ?_
        refine x_iremc hO (by decide) dX12_itemOf_51 ?_
        exact x_iret hO rfl dX12_itemOf_52 (hR _)
      · refine x_iload_n hO 0 rfl rfl dX12_itemOf_43 ?_
        refine x_iconst hO (v := 5) (by decide) dX12_itemOf_44 ?_
        refine x_idivc hO (by decide) dX12_itemOf_45 ?_
        refine x_goto hO (tg := 52) dX12_itemOf_46 (by decide) ?_
        exact x_iret hO rfl dX12_itemOf_52 (hR _)
    · refine x_iconst hO (v := 2) (by decide) dX12_itemOf_29 ?_
      refine x_goto hO (tg := 52) dX12_itemOf_30 (by decide) ?_
      exact x_iret hO rfl dX12_itemOf_52 (hR _)
  · refine x_iload_n hO 0 rfl rfl dX12_itemOf_21 ?_
    exact x_iret hO rfl dX12_itemOf_22 (hR _)
theorem ok_X12_itemOf (G : Gl) (h : Hp) (x0 : Nat) (x1 : Int32) (x2 : Int32) (hx0 : Is x0 12) : CN G mX12_itemOf [.ref (gb G + x0), .int x1, .int x2] h ((F_X12_itemOf h x0 x1 x2).map (emPI h)) := CN.fn pn_RX12 (Nat.le_of_ble_eq_true rfl) (fun Γ hG hO => by subst hG; exact go_X12_itemOf hO h x0 x1 x2 hx0 (fun _ q => q))
noncomputable def B_X12_meant_105 (h : Hp) (x0 : Nat) (x1 : Int32) (x2 : Int32) (x3 : Int32) (x4 : Int32) (x5 : Int32) (x6 : Int32) (x7 : Int32) : Option ((Int32 × Int32) ⊕ (Int32)) :=
  gd (ib ((3 : Int32)) (LEN (GR x0 0))) (if (hI h (GR x0 0) (nx ((3 : Int32)))) ≤ x7 then some (.inr x6) else if x6 = 0 then if x7 = x3 then some (.inl ((0 : Int32), x7 + (1 : Int32))) else gd (ib (((372 : Int32)) + (((2 : Int32)) * x7)) (LEN (GR x0 0))) (gd (ib (((372 : Int32)) + (((2 : Int32)) * x3)) (LEN (GR x0 0))) (if (hI h (GR x0 0) (nx (((372 : Int32)) + (((2 : Int32)) * x7)))) = (hI h (GR x0 0) (nx (((372 : Int32)) + (((2 : Int32)) * x3)))) then (F_X12_joinedIn h x0 ((0 : Int32)) x7 x5).bind (fun r1 => if r1 = x1 then some (.inl ((1 : Int32), x7 + (1 : Int32))) else some (.inl ((0 : Int32), x7 + (1 : Int32)))) else some (.inl ((0 : Int32), x7 + (1 : Int32))))) else some (.inl ((1 : Int32), x7 + (1 : Int32))))
noncomputable def L_X12_meant_105 (h : Hp) (x0 : Nat) (x1 : Int32) (x2 : Int32) (x3 : Int32) (x4 : Int32) (x5 : Int32) (x6 : Int32) (x7 : Int32) : Option (Int32) := iterW (fun s : Int32 × Int32 => B_X12_meant_105 h x0 x1 x2 x3 x4 x5 s.1 s.2) (x6, x7)
set_option maxHeartbeats 4000000 in
set_option maxRecDepth 100000 in
theorem go_X12_meant_B105 {Γ : Cx} (hO : Ok Γ mX12_meant) (h : Hp) (x0 : Nat) (x1 : Int32) (x2 : Int32) (x3 : Int32) (x4 : Int32) (x5 : Int32) (x6 : Int32) (x7 : Int32) (hx0 : Is x0 12) {K : (Int32 × Int32) ⊕ (Int32) → Prop} (hC : ∀ (x6 : Int32) (x7 : Int32), K (.inl (x6, x7)) → EW Γ mX12_meant 105 [(0, rf Γ x0), (1, .int x1), (2, .int x2), (3, .int x3), (4, .int x4), (5, .int x5), (6, .int x6), (7, .int x7)] [] h) (hE181 : ∀ (x6 : Int32), K (.inr x6) → EW Γ mX12_meant 181 [(0, rf Γ x0), (1, .int x1), (2, .int x2), (4, .int x4), (6, .int x6)] [] h) : EG Γ mX12_meant 105 [(0, rf Γ x0), (1, .int x1), (2, .int x2), (3, .int x3), (4, .int x4), (5, .int x5), (6, .int x6), (7, .int x7)] [] h (B_X12_meant_105 h x0 x1 x2 x3 x4 x5 x6 x7) K := by
  unfold B_X12_meant_105
  refine x_iload hO 7 rfl dX12_meant_105 ?_
  refine x_aload_n hO 0 rfl rfl dX12_meant_107 ?_
  refine x_getR hO fl_RX12_7 hx0 dX12_meant_108 ?_
  refine x_iconst hO (v := 3) (by decide) dX12_meant_111 ?_
  refine x_iald hO (gr_12_0 hx0) dX12_meant_112 ?_
  refine x_icmp_ge hO (tg := 181) dX12_meant_113 (by decide) ?_ ?_
  · exact x_leafs [0, 1, 2, 4, 6] rfl (hE181 x6)
  · refine x_iload hO 6 rfl dX12_meant_116 ?_
    refine x_if_ne hO (tg := 168) dX12_meant_118 (by decide) ?_ ?_
    · refine x_iconst hO (v := 1) (by decide) dX12_meant_168 ?_
      refine x_goto hO (tg := 173) dX12_meant_169 (by decide) ?_
      refine x_istore hO [(6, .int ((1 : Int32))), (0, rf Γ x0), (1, .int x1), (2, .int x2), (3, .int x3), (4, .int x4), (5, .int x5), (7, .int x7)] dX12_meant_173 (by decide) rfl ?_
      refine x_iinc hO 7 (v := 1) [(7, .int (x7 + (1 : Int32))), (6, .int ((1 : Int32))), (0, rf Γ x0), (1, .int x1), (2, .int x2), (3, .int x3), (4, .int x4), (5, .int x5)] dX12_meant_175 rfl (by decide) (by decide) rfl ?_
      refine x_goto hO (tg := 105) dX12_meant_178 (by decide) ?_
      exact x_leafs [2, 3, 4, 5, 6, 7, 1, 0] rfl (hC ((1 : Int32)) (x7 + (1 : Int32)))
    · refine x_iload hO 7 rfl dX12_meant_121 ?_
      refine x_iload_n hO 3 rfl rfl dX12_meant_123 ?_
      refine x_icmp_eq hO (tg := 172) dX12_meant_124 (by decide) ?_ ?_
      · refine x_iconst hO (v := 0) (by decide) dX12_meant_172 ?_
        refine x_istore hO [(6, .int ((0 : Int32))), (0, rf Γ x0), (1, .int x1), (2, .int x2), (3, .int x3), (4, .int x4), (5, .int x5), (7, .int x7)] dX12_meant_173 (by decide) rfl ?_
        refine x_iinc hO 7 (v := 1) [(7, .int (x7 + (1 : Int32))), (6, .int ((0 : Int32))), (0, rf Γ x0), (1, .int x1), (2, .int x2), (3, .int x3), (4, .int x4), (5, .int x5)] dX12_meant_175 rfl (by decide) (by decide) rfl ?_
        refine x_goto hO (tg := 105) dX12_meant_178 (by decide) ?_
        exact x_leafs [2, 3, 4, 5, 6, 7, 1, 0] rfl (hC ((0 : Int32)) (x7 + (1 : Int32)))
      · refine x_aload_n hO 0 rfl rfl dX12_meant_127 ?_
        refine x_getR hO fl_RX12_7 hx0 dX12_meant_128 ?_
        refine x_sipush hO (v := 372) (by decide) dX12_meant_131 ?_
        refine x_iconst hO (v := 2) (by decide) dX12_meant_134 ?_
        refine x_iload hO 7 rfl dX12_meant_135 ?_
        refine x_imul hO dX12_meant_137 ?_
        refine x_iadd hO dX12_meant_138 ?_
        refine x_iald hO (gr_12_0 hx0) dX12_meant_139 ?_
        refine x_aload_n hO 0 rfl rfl dX12_meant_140 ?_
        refine x_getR hO fl_RX12_7 hx0 dX12_meant_141 ?_
        refine x_sipush hO (v := 372) (by decide) dX12_meant_144 ?_
        refine x_iconst hO (v := 2) (by decide) dX12_meant_147 ?_
        refine x_iload_n hO 3 rfl rfl dX12_meant_148 ?_
        refine x_imul hO dX12_meant_149 ?_
        refine x_iadd hO dX12_meant_150 ?_
        refine x_iald hO (gr_12_0 hx0) dX12_meant_151 ?_
        refine x_icmp_ne hO (tg := 172) dX12_meant_152 (by decide) ?_ ?_
        · refine x_iconst hO (v := 0) (by decide) dX12_meant_172 ?_
          refine x_istore hO [(6, .int ((0 : Int32))), (0, rf Γ x0), (1, .int x1), (2, .int x2), (3, .int x3), (4, .int x4), (5, .int x5), (7, .int x7)] dX12_meant_173 (by decide) rfl ?_
          refine x_iinc hO 7 (v := 1) [(7, .int (x7 + (1 : Int32))), (6, .int ((0 : Int32))), (0, rf Γ x0), (1, .int x1), (2, .int x2), (3, .int x3), (4, .int x4), (5, .int x5)] dX12_meant_175 rfl (by decide) (by decide) rfl ?_
          refine x_goto hO (tg := 105) dX12_meant_178 (by decide) ?_
          exact x_leafs [2, 3, 4, 5, 6, 7, 1, 0] rfl (hC ((0 : Int32)) (x7 + (1 : Int32)))
        · refine x_aload_n hO 0 rfl rfl dX12_meant_155 ?_
          refine x_iconst hO (v := 0) (by decide) dX12_meant_156 ?_
          refine x_iload hO 7 rfl dX12_meant_157 ?_
          refine x_iload hO 5 rfl dX12_meant_159 ?_
          refine y_PI (x_callV hO lv_RX12_238 hx0 vc_12 (by decide) (As := [.int ((0 : Int32)), .int x7, .int x5]) rfl (Nat.le_of_ble_eq_true rfl) (ok_X12_joinedIn (cG Γ) h x0 ((0 : Int32)) x7 x5 hx0) dX12_meant_161 rfl (Nat.le_of_ble_eq_true rfl)) (fun r1 => ?_)
          refine x_iload_n hO 1 rfl rfl dX12_meant_164 ?_
          refine x_icmp_ne hO (tg := 172) dX12_meant_165 (by decide) ?_ ?_
          · refine x_iconst hO (v := 0) (by decide) dX12_meant_172 ?_
            refine x_istore hO [(6, .int ((0 : Int32))), (0, rf Γ x0), (1, .int x1), (2, .int x2), (3, .int x3), (4, .int x4), (5, .int x5), (7, .int x7)] dX12_meant_173 (by decide) rfl ?_
            refine x_iinc hO 7 (v := 1) [(7, .int (x7 + (1 : Int32))), (6, .int ((0 : Int32))), (0, rf Γ x0), (1, .int x1), (2, .int x2), (3, .int x3), (4, .int x4), (5, .int x5)] dX12_meant_175 rfl (by decide) (by decide) rfl ?_
            refine x_goto hO (tg := 105) dX12_meant_178 (by decide) ?_
            exact x_leafs [2, 3, 4, 5, 6, 7, 1, 0] rfl (hC ((0 : Int32)) (x7 + (1 : Int32)))
          · refine x_iconst hO (v := 1) (by decide) dX12_meant_168 ?_
            refine x_goto hO (tg := 173) dX12_meant_169 (by decide) ?_
            refine x_istore hO [(6, .int ((1 : Int32))), (0, rf Γ x0), (1, .int x1), (2, .int x2), (3, .int x3), (4, .int x4), (5, .int x5), (7, .int x7)] dX12_meant_173 (by decide) rfl ?_
            refine x_iinc hO 7 (v := 1) [(7, .int (x7 + (1 : Int32))), (6, .int ((1 : Int32))), (0, rf Γ x0), (1, .int x1), (2, .int x2), (3, .int x3), (4, .int x4), (5, .int x5)] dX12_meant_175 rfl (by decide) (by decide) rfl ?_
            refine x_goto hO (tg := 105) dX12_meant_178 (by decide) ?_
            exact x_leafs [2, 3, 4, 5, 6, 7, 1, 0] rfl (hC ((1 : Int32)) (x7 + (1 : Int32)))
set_option maxHeartbeats 4000000 in
set_option maxRecDepth 100000 in
theorem go_X12_meant_L105 {Γ : Cx} (hO : Ok Γ mX12_meant) (h : Hp) (x0 : Nat) (x1 : Int32) (x2 : Int32) (x3 : Int32) (x4 : Int32) (x5 : Int32) (x6 : Int32) (x7 : Int32) (hx0 : Is x0 12) {K : Int32 → Prop} (hE181 : ∀ (x6 : Int32), K (x6) → EW Γ mX12_meant 181 [(0, rf Γ x0), (1, .int x1), (2, .int x2), (4, .int x4), (6, .int x6)] [] h) : EG Γ mX12_meant 105 [(0, rf Γ x0), (1, .int x1), (2, .int x2), (3, .int x3), (4, .int x4), (5, .int x5), (6, .int x6), (7, .int x7)] [] h (L_X12_meant_105 h x0 x1 x2 x3 x4 x5 x6 x7) K := by
  have q := x_loop (Γ := Γ) (M := mX12_meant) (pc := 105) (B := fun s : Int32 × Int32 => B_X12_meant_105 h x0 x1 x2 x3 x4 x5 s.1 s.2) (lvf := fun s => [(0, rf Γ x0), (1, .int x1), (2, .int x2), (3, .int x3), (4, .int x4), (5, .int x5), (6, .int s.1), (7, .int s.2)]) (hf := fun s => h) (Ky := K) (fun s => go_X12_meant_B105 hO h x0 x1 x2 x3 x4 x5 s.1 s.2 hx0 (fun _ _ => id) hE181) (x6, x7)
  exact q
noncomputable def F_X12_meant (h : Hp) (x0 : Nat) (x1 : Int32) (x2 : Int32) (x3 : Int32) (x4 : Int32) : Option (Hp × Int32) :=
  (F_X12_isMean h x0 x1).bind (fun r1 => if r1 = 0 then (F_X12_refuse h x0 ((1 : Int32))).bind (fun r2 => some ((r2.1, r2.2))) else (F_X12_isColumn h x2).bind (fun r3 => if r3 = 0 then (F_X12_refuse h x0 ((1 : Int32))).bind (fun r4 => some ((r4.1, r4.2))) else (F_X12_isMean h x0 x3).bind (fun r5 => if r5 = 0 then (F_X12_refuse h x0 ((1 : Int32))).bind (fun r6 => some ((r6.1, r6.2))) else if x4 < 0 then (F_X12_refuse h x0 ((1 : Int32))).bind (fun r7 => some ((r7.1, r7.2))) else if ((1 : Int32)) < x4 then (F_X12_refuse h x0 ((1 : Int32))).bind (fun r8 => some ((r8.1, r8.2))) else gd (ib (((372 : Int32)) + (((2 : Int32)) * x3)) (LEN (GR x0 0))) (gd (ib (((372 : Int32)) + (((2 : Int32)) * x1)) (LEN (GR x0 0))) (if (hI h (GR x0 0) (nx (((372 : Int32)) + (((2 : Int32)) * x3)))) = (hI h (GR x0 0) (nx (((372 : Int32)) + (((2 : Int32)) * x1)))) then (F_X12_refuse h x0 ((1 : Int32))).bind (fun r18 => some ((r18.1, r18.2))) else gd (ib (((372 : Int32)) + (((2 : Int32)) * x1)) (LEN (GR x0 0))) (bnd (hI h (GR x0 0) (nx (((372 : Int32)) + (((2 : Int32)) * x1)))) (fun v9 => (F_X12_joinedIn h x0 ((0 : Int32)) x3 v9).bind (fun r10 => if r10 = x1 then (L_X12_meant_105 h x0 x1 x2 x3 x4 v9 ((0 : Int32)) ((0 : Int32))).bind (fun e11 => if e11 = 0 then (F_X12_countsOf h x0 x1 x2).bind (fun r12 => (F_X12_gives h x0 r12).bind (fun r13 => some ((r13.1, r13.2)))) else if x4 = 0 then (F_X12_gives h x0 ((0 : Int32))).bind (fun r16 => some ((r16.1, r16.2))) else (F_X12_countsOf h x0 x1 x2).bind (fun r14 => (F_X12_gives h x0 r14).bind (fun r15 => some ((r15.1, r15.2))))) else (F_X12_gives h x0 ((0 : Int32))).bind (fun r17 => some ((r17.1, r17.2)))))))))))
set_option maxHeartbeats 4000000 in
set_option maxRecDepth 100000 in
theorem go_X12_meant {Γ : Cx} (hO : Ok Γ mX12_meant) (h : Hp) (x0 : Nat) (x1 : Int32) (x2 : Int32) (x3 : Int32) (x4 : Int32) (hx0 : Is x0 12) {K : Hp × Int32 → Prop} (hR : ∀ r, K r → emHI r = tgt Γ) : EG Γ mX12_meant 0 [(0, rf Γ x0), (1, .int x1), (2, .int x2), (3, .int x3), (4, .int x4)] [] h (F_X12_meant h x0 x1 x2 x3 x4) K := by
  unfold F_X12_meant
  refine x_aload_n hO 0 rfl rfl dX12_meant_0 ?_
  refine x_iload_n hO 1 rfl rfl dX12_meant_1 ?_
  refine y_PI (x_callV hO lv_RX12_274 hx0 vc_12 (by decide) (As := [.int x1]) rfl (Nat.le_of_ble_eq_true rfl) (ok_X12_isMean (cG Γ) h x0 x1 hx0) dX12_meant_2 rfl (Nat.le_of_ble_eq_true rfl)) (fun r1 => ?_)
  refine x_if_eq hO (tg := 61) dX12_meant_5 (by decide) ?_ ?_
  · refine x_aload_n hO 0 rfl rfl dX12_meant_61 ?_
    refine x_iconst hO (v := 1) (by decide) dX12_meant_62 ?_
    refine y_HI (x_callV hO lv_RX12_137 hx0 vc_12 (by decide) (As := [.int ((1 : Int32))]) rfl (Nat.le_of_ble_eq_true rfl) (ok_X12_refuse (cG Γ) h x0 ((1 : Int32)) hx0) dX12_meant_63 rfl (Nat.le_of_ble_eq_true rfl)) (fun r2 => ?_)
    exact x_iret hO rfl dX12_meant_66 (hR _)
  · refine x_iload_n hO 2 rfl rfl dX12_meant_8 ?_
    refine y_PI (x_callS hO lt_RX12_152 (As := [.int x2]) rfl (Nat.le_of_ble_eq_true rfl) (ok_X12_isColumn (cG Γ) h x2) dX12_meant_9 rfl (Nat.le_of_ble_eq_true rfl)) (fun r3 => ?_)
    refine x_if_eq hO (tg := 61) dX12_meant_12 (by decide) ?_ ?_
    · refine x_aload_n hO 0 rfl rfl dX12_meant_61 ?_
      refine x_iconst hO (v := 1) (by decide) dX12_meant_62 ?_
      refine y_HI (x_callV hO lv_RX12_137 hx0 vc_12 (by decide) (As := [.int ((1 : Int32))]) rfl (Nat.le_of_ble_eq_true rfl) (ok_X12_refuse (cG Γ) h x0 ((1 : Int32)) hx0) dX12_meant_63 rfl (Nat.le_of_ble_eq_true rfl)) (fun r4 => ?_)
      exact x_iret hO rfl dX12_meant_66 (hR _)
    · refine x_aload_n hO 0 rfl rfl dX12_meant_15 ?_
      refine x_iload_n hO 3 rfl rfl dX12_meant_16 ?_
      refine y_PI (x_callV hO lv_RX12_274 hx0 vc_12 (by decide) (As := [.int x3]) rfl (Nat.le_of_ble_eq_true rfl) (ok_X12_isMean (cG Γ) h x0 x3 hx0) dX12_meant_17 rfl (Nat.le_of_ble_eq_true rfl)) (fun r5 => ?_)
      refine x_if_eq hO (tg := 61) dX12_meant_20 (by decide) ?_ ?_
      · refine x_aload_n hO 0 rfl rfl dX12_meant_61 ?_
        refine x_iconst hO (v := 1) (by decide) dX12_meant_62 ?_
        refine y_HI (x_callV hO lv_RX12_137 hx0 vc_12 (by decide) (As := [.int ((1 : Int32))]) rfl (Nat.le_of_ble_eq_true rfl) (ok_X12_refuse (cG Γ) h x0 ((1 : Int32)) hx0) dX12_meant_63 rfl (Nat.le_of_ble_eq_true rfl)) (fun r6 => ?_)
        exact x_iret hO rfl dX12_meant_66 (hR _)
      · refine x_iload hO 4 rfl dX12_meant_23 ?_
        refine x_if_lt hO (tg := 61) dX12_meant_25 (by decide) ?_ ?_
        · refine x_aload_n hO 0 rfl rfl dX12_meant_61 ?_
          refine x_iconst hO (v := 1) (by decide) dX12_meant_62 ?_
          refine y_HI (x_callV hO lv_RX12_137 hx0 vc_12 (by decide) (As := [.int ((1 : Int32))]) rfl (Nat.le_of_ble_eq_true rfl) (ok_X12_refuse (cG Γ) h x0 ((1 : Int32)) hx0) dX12_meant_63 rfl (Nat.le_of_ble_eq_true rfl)) (fun r7 => ?_)
          exact x_iret hO rfl dX12_meant_66 (hR _)
        · refine x_iload hO 4 rfl dX12_meant_28 ?_
          refine x_iconst hO (v := 1) (by decide) dX12_meant_30 ?_
          refine x_icmp_gt hO (tg := 61) dX12_meant_31 (by decide) ?_ ?_
          · refine x_aload_n hO 0 rfl rfl dX12_meant_61 ?_
            refine x_iconst hO (v := 1) (by decide) dX12_meant_62 ?_
            refine y_HI (x_callV hO lv_RX12_137 hx0 vc_12 (by decide) (As := [.int ((1 : Int32))]) rfl (Nat.le_of_ble_eq_true rfl) (ok_X12_refuse (cG Γ) h x0 ((1 : Int32)) hx0) dX12_meant_63 rfl (Nat.le_of_ble_eq_true rfl)) (fun r8 => ?_)
            exact x_iret hO rfl dX12_meant_66 (hR _)
          · refine x_aload_n hO 0 rfl rfl dX12_meant_34 ?_
            refine x_getR hO fl_RX12_7 hx0 dX12_meant_35 ?_
            refine x_sipush hO (v := 372) (by decide) dX12_meant_38 ?_
            refine x_iconst hO (v := 2) (by decide) dX12_meant_41 ?_
            refine x_iload_n hO 3 rfl rfl dX12_meant_42 ?_
            refine x_imul hO dX12_meant_43 ?_
            refine x_iadd hO dX12_meant_44 ?_
            refine x_iald hO (gr_12_0 hx0) dX12_meant_45 ?_
            refine x_aload_n hO 0 rfl rfl dX12_meant_46 ?_
            refine x_getR hO fl_RX12_7 hx0 dX12_meant_47 ?_
            refine x_sipush hO (v := 372) (by decide) dX12_meant_50 ?_
            refine x_iconst hO (v := 2) (by decide) dX12_meant_53 ?_
            refine x_iload_n hO 1 rfl rfl dX12_meant_54 ?_
            refine x_imul hO dX12_meant_55 ?_
            refine x_iadd hO dX12_meant_56 ?_
            refine x_iald hO (gr_12_0 hx0) dX12_meant_57 ?_
            refine x_icmp_ne hO (tg := 67) dX12_meant_58 (by decide) ?_ ?_
            · refine x_aload_n hO 0 rfl rfl dX12_meant_67 ?_
              refine x_getR hO fl_RX12_7 hx0 dX12_meant_68 ?_
              refine x_sipush hO (v := 372) (by decide) dX12_meant_71 ?_
              refine x_iconst hO (v := 2) (by decide) dX12_meant_74 ?_
              refine x_iload_n hO 1 rfl rfl dX12_meant_75 ?_
              refine x_imul hO dX12_meant_76 ?_
              refine x_iadd hO dX12_meant_77 ?_
              refine x_iald hO (gr_12_0 hx0) dX12_meant_78 ?_
              refine x_bnd ?_
              generalize hI h (GR x0 0) (nx (((372 : Int32)) + (((2 : Int32)) * x1))) = v9
              refine x_istore hO [(5, .int v9), (0, rf Γ x0), (1, .int x1), (2, .int x2), (3, .int x3), (4, .int x4)] dX12_meant_79 (by decide) rfl ?_
              refine x_aload_n hO 1 rfl rfl dX12_meant_81 ?_
              refine x_iconst hO (v := 0) (by decide) dX12_meant_82 ?_
              refine x_iload_n hO 4 rfl rfl dX12_meant_83 ?_
              refine x_iload hO 0 rfl dX12_meant_84 ?_
              refine y_PI (x_callV hO lv_RX12_238 hx0 vc_12 (by decide) (As := [.int ((0 : Int32)), .int x3, .int v9]) rfl (Nat.le_of_ble_eq_true rfl) (ok_X12_joinedIn (cG Γ) h x0 ((0 : Int32)) x3 v9 hx0) dX12_meant_86 rfl (Nat.le_of_ble_eq_true rfl)) (fun r10 => ?_)
              refine x_iload_n hO 2 rfl rfl dX12_meant_89 ?_
              refine x_icmp_eq hO (tg := 99) dX12_meant_90 (by decide) ?_ ?_
              · refine x_iconst hO (v := 0) (by decide) dX12_meant_99 ?_
                refine x_istore hO [(6, .int ((0 : Int32))), (5, .int v9), (0, rf Γ x0), (1, .int x1), (2, .int x2), (3, .int x3), (4, .int x4)] dX12_meant_100 (by decide) rfl ?_
                refine x_iconst hO (v := 0) (by decide) dX12_meant_102 ?_
                refine x_istore hO [(7, .int ((0 : Int32))), (6, .int ((0 : Int32))), (5, .int v9), (0, rf Γ x0), (1, .int x1), (2, .int x2), (3, .int x3), (4, .int x4)] dX12_meant_103 (by decide) rfl ?_
                refine x_bind (x_sub [3, 4, 5, 6, 7, 2, 1, 0] rfl (go_X12_meant_L105 hO h x0 x1 x2 x3 x4 v9 ((0 : Int32)) ((0 : Int32)) hx0 (fun y11_0 hx => ?_)))
                refine x_run (t := (if y11_0 = 0 then (F_X12_countsOf h x0 x1 x2).bind (fun r12 => (F_X12_gives h x0 r12).bind (fun r13 => some ((r13.1, r13.2)))) else if x4 = 0 then (F_X12_gives h x0 ((0 : Int32))).bind (fun r16 => some ((r16.1, r16.2))) else (F_X12_countsOf h x0 x1 x2).bind (fun r14 => (F_X12_gives h x0 r14).bind (fun r15 => some ((r15.1, r15.2)))) : Option (Hp × Int32))) hx ?_
                refine x_aload_n hO 0 rfl rfl dX12_meant_181 ?_
                refine x_iload hO 4 rfl dX12_meant_182 ?_
                refine x_if_eq hO (tg := 196) dX12_meant_184 (by decide) ?_ ?_
                · refine x_aload_n hO 0 rfl rfl dX12_meant_196 ?_
                  refine x_iload_n hO 1 rfl rfl dX12_meant_197 ?_
                  refine x_iload_n hO 2 rfl rfl dX12_meant_198 ?_
                  refine y_PI (x_callV hO lv_RX12_400 hx0 vc_12 (by decide) (As := [.int x1, .int x2]) rfl (Nat.le_of_ble_eq_true rfl) (ok_X12_countsOf (cG Γ) h x0 x1 x2 hx0) dX12_meant_199 rfl (Nat.le_of_ble_eq_true rfl)) (fun r12 => ?_)
                  refine y_HI (x_callV hO lv_RX12_146 hx0 vc_12 (by decide) (As := [.int r12]) rfl (Nat.le_of_ble_eq_true rfl) (ok_X12_gives (cG Γ) h x0 r12 hx0) dX12_meant_202 rfl (Nat.le_of_ble_eq_true rfl)) (fun r13 => ?_)
                  exact x_iret hO rfl dX12_meant_205 (hR _)
                · refine x_iload hO 3 rfl dX12_meant_187 ?_
                  refine x_if_ne hO (tg := 196) dX12_meant_189 (by decide) ?_ ?_
                  · refine x_aload_n hO 0 rfl rfl dX12_meant_196 ?_
                    refine x_iload_n hO 1 rfl rfl dX12_meant_197 ?_
                    refine x_iload_n hO 2 rfl rfl dX12_meant_198 ?_
                    refine y_PI (x_callV hO lv_RX12_400 hx0 vc_12 (by decide) (As := [.int x1, .int x2]) rfl (Nat.le_of_ble_eq_true rfl) (ok_X12_countsOf (cG Γ) h x0 x1 x2 hx0) dX12_meant_199 rfl (Nat.le_of_ble_eq_true rfl)) (fun r14 => ?_)
                    refine y_HI (x_callV hO lv_RX12_146 hx0 vc_12 (by decide) (As := [.int r14]) rfl (Nat.le_of_ble_eq_true rfl) (ok_X12_gives (cG Γ) h x0 r14 hx0) dX12_meant_202 rfl (Nat.le_of_ble_eq_true rfl)) (fun r15 => ?_)
                    exact x_iret hO rfl dX12_meant_205 (hR _)
                  · refine x_iconst hO (v := 0) (by decide) dX12_meant_192 ?_
                    refine x_goto hO (tg := 202) dX12_meant_193 (by decide) ?_
                    refine y_HI (x_callV hO lv_RX12_146 hx0 vc_12 (by decide) (As := [.int ((0 : Int32))]) rfl (Nat.le_of_ble_eq_true rfl) (ok_X12_gives (cG Γ) h x0 ((0 : Int32)) hx0) dX12_meant_202 rfl (Nat.le_of_ble_eq_true rfl)) (fun r16 => ?_)
                    exact x_iret hO rfl dX12_meant_205 (hR _)
              · refine x_aload_n hO 1 rfl rfl dX12_meant_93 ?_
                refine x_iconst hO (v := 0) (by decide) dX12_meant_94 ?_
                refine y_HI (x_callV hO lv_RX12_146 hx0 vc_12 (by decide) (As := [.int ((0 : Int32))]) rfl (Nat.le_of_ble_eq_true rfl) (ok_X12_gives (cG Γ) h x0 ((0 : Int32)) hx0) dX12_meant_95 rfl (Nat.le_of_ble_eq_true rfl)) (fun r17 => ?_)
                exact x_iret hO rfl dX12_meant_98 (hR _)
            · refine x_aload_n hO 0 rfl rfl dX12_meant_61 ?_
              refine x_iconst hO (v := 1) (by decide) dX12_meant_62 ?_
              refine y_HI (x_callV hO lv_RX12_137 hx0 vc_12 (by decide) (As := [.int ((1 : Int32))]) rfl (Nat.le_of_ble_eq_true rfl) (ok_X12_refuse (cG Γ) h x0 ((1 : Int32)) hx0) dX12_meant_63 rfl (Nat.le_of_ble_eq_true rfl)) (fun r18 => ?_)
              exact x_iret hO rfl dX12_meant_66 (hR _)
theorem ok_X12_meant (G : Gl) (h : Hp) (x0 : Nat) (x1 : Int32) (x2 : Int32) (x3 : Int32) (x4 : Int32) (hx0 : Is x0 12) : CN G mX12_meant [.ref (gb G + x0), .int x1, .int x2, .int x3, .int x4] h ((F_X12_meant h x0 x1 x2 x3 x4).map (emHI)) := CN.fn pn_RX12 (Nat.le_of_ble_eq_true rfl) (fun Γ hG hO => by subst hG; exact go_X12_meant hO h x0 x1 x2 x3 x4 hx0 (fun _ q => q))
noncomputable def F_X12_number (h : Hp) (x0 : Nat) (x1 : Int32) (x2 : Int32) (x3 : Int32) : Option (Hp × Int32) :=
  if (hI h x0 11) = ((3 : Int32)) then if (hI h x0 14) < x2 then (F_X12_fails h x0 ((4 : Int32))).bind (fun r1 => some ((r1.1, r1.2 &&& 1))) else if (hI h x0 14) ≤ x3 then gd (ib x1 (LEN (GR x0 0))) ((F_X12_ahead (uI h (GR x0 0) (nx x1) (hI h x0 14)) x0).bind (fun r2 => some ((r2, (1 : Int32))))) else (F_X12_fails h x0 ((4 : Int32))).bind (fun r3 => some ((r3.1, r3.2 &&& 1))) else (F_X12_fails h x0 ((2 : Int32))).bind (fun r4 => some ((r4.1, r4.2 &&& 1)))
set_option maxHeartbeats 4000000 in
set_option maxRecDepth 100000 in
theorem go_X12_number {Γ : Cx} (hO : Ok Γ mX12_number) (h : Hp) (x0 : Nat) (x1 : Int32) (x2 : Int32) (x3 : Int32) (hx0 : Is x0 12) {K : Hp × Int32 → Prop} (hR : ∀ r, K r → emHI r = tgt Γ) : EG Γ mX12_number 0 [(0, rf Γ x0), (1, .int x1), (2, .int x2), (3, .int x3)] [] h (F_X12_number h x0 x1 x2 x3) K := by
  unfold F_X12_number
  refine x_aload_n hO 0 rfl rfl dX12_number_0 ?_
  refine x_getI hO fl_RX12_183 hx0 dX12_number_1 ?_
  refine x_iconst hO (v := 3) (by decide) dX12_number_4 ?_
  refine x_icmp_eq hO (tg := 14) dX12_number_5 (by decide) ?_ ?_
  · refine x_aload_n hO 0 rfl rfl dX12_number_14 ?_
    refine x_getI hO fl_RX12_180 hx0 dX12_number_15 ?_
    refine x_iload_n hO 2 rfl rfl dX12_number_18 ?_
    refine x_icmp_lt hO (tg := 30) dX12_number_19 (by decide) ?_ ?_
    · refine x_aload_n hO 0 rfl rfl dX12_number_30 ?_
      refine x_iconst hO (v := 4) (by decide) dX12_number_31 ?_
      refine y_HI (x_callV hO lv_RX12_213 hx0 vc_12 (by decide) (As := [.int ((4 : Int32))]) rfl (Nat.le_of_ble_eq_true rfl) (ok_X12_fails (cG Γ) h x0 ((4 : Int32)) hx0) dX12_number_32 rfl (Nat.le_of_ble_eq_true rfl)) (fun r1 => ?_)
      exact x_zret hO rfl dX12_number_35 (hR _)
    · refine x_aload_n hO 0 rfl rfl dX12_number_22 ?_
      refine x_getI hO fl_RX12_180 hx0 dX12_number_23 ?_
      refine x_iload_n hO 3 rfl rfl dX12_number_26 ?_
      refine x_icmp_le hO (tg := 36) dX12_number_27 (by decide) ?_ ?_
      · refine x_aload_n hO 0 rfl rfl dX12_number_36 ?_
        refine x_getR hO fl_RX12_7 hx0 dX12_number_37 ?_
        refine x_iload_n hO 1 rfl rfl dX12_number_40 ?_
        refine x_aload_n hO 0 rfl rfl dX12_number_41 ?_
        refine x_getI hO fl_RX12_180 hx0 dX12_number_42 ?_
        refine x_iast hO (gr_12_0 hx0) dX12_number_45 ?_
        refine x_aload_n hO 0 rfl rfl dX12_number_46 ?_
        refine y_HV (x_callV hO lv_RX12_210 hx0 vc_12 (by decide) (As := []) rfl (Nat.le_of_ble_eq_true rfl) (ok_X12_ahead (cG Γ) (uI h (GR x0 0) (nx x1) (hI h x0 14)) x0 hx0) dX12_number_47 rfl (Nat.le_of_ble_eq_true rfl)) (fun r2 => ?_)
        refine x_iconst hO (v := 1) (by decide) dX12_number_50 ?_
        exact x_zretv hO rfl (by decide) dX12_number_51 (hR _)
      · refine x_aload_n hO 0 rfl rfl dX12_number_30 ?_
        refine x_iconst hO (v := 4) (by decide) dX12_number_31 ?_
        refine y_HI (x_callV hO lv_RX12_213 hx0 vc_12 (by decide) (As := [.int ((4 : Int32))]) rfl (Nat.le_of_ble_eq_true rfl) (ok_X12_fails (cG Γ) h x0 ((4 : Int32)) hx0) dX12_number_32 rfl (Nat.le_of_ble_eq_true rfl)) (fun r3 => ?_)
        exact x_zret hO rfl dX12_number_35 (hR _)
  · refine x_aload_n hO 0 rfl rfl dX12_number_8 ?_
    refine x_iconst hO (v := 2) (by decide) dX12_number_9 ?_
    refine y_HI (x_callV hO lv_RX12_213 hx0 vc_12 (by decide) (As := [.int ((2 : Int32))]) rfl (Nat.le_of_ble_eq_true rfl) (ok_X12_fails (cG Γ) h x0 ((2 : Int32)) hx0) dX12_number_10 rfl (Nat.le_of_ble_eq_true rfl)) (fun r4 => ?_)
    exact x_zret hO rfl dX12_number_13 (hR _)
theorem ok_X12_number (G : Gl) (h : Hp) (x0 : Nat) (x1 : Int32) (x2 : Int32) (x3 : Int32) (hx0 : Is x0 12) : CN G mX12_number [.ref (gb G + x0), .int x1, .int x2, .int x3] h ((F_X12_number h x0 x1 x2 x3).map (emHI)) := CN.fn pn_RX12 (Nat.le_of_ble_eq_true rfl) (fun Γ hG hO => by subst hG; exact go_X12_number hO h x0 x1 x2 x3 hx0 (fun _ q => q))
noncomputable def B_X12_numberOf_6 (h : Hp) (x0 : Nat) (x1 : Int32) (x3 : Int32) (x4 : Int32) (x5 : Int32) : Option ((Int32 × Int32) ⊕ (Int32)) :=
  if x3 < x5 then some (.inr x4) else (F_X12_reads h x0 x1 x5).bind (fun r1 => if r1 = ((11 : Int32)) then some (.inr ((-1 : Int32))) else if r1 = ((10 : Int32)) then some (.inl ((((10 : Int32)) * x4) + ((0 : Int32)), x5 + (1 : Int32))) else some (.inl ((((10 : Int32)) * x4) + r1, x5 + (1 : Int32))))
noncomputable def L_X12_numberOf_6 (h : Hp) (x0 : Nat) (x1 : Int32) (x3 : Int32) (x4 : Int32) (x5 : Int32) : Option (Int32) := iterW (fun s : Int32 × Int32 => B_X12_numberOf_6 h x0 x1 x3 s.1 s.2) (x4, x5)
set_option maxHeartbeats 4000000 in
set_option maxRecDepth 100000 in
theorem go_X12_numberOf_B6 {Γ : Cx} (hO : Ok Γ mX12_numberOf) (h : Hp) (x0 : Nat) (x1 : Int32) (x3 : Int32) (x4 : Int32) (x5 : Int32) (hx0 : Is x0 12) {K : (Int32 × Int32) ⊕ (Int32) → Prop} (hC : ∀ (x4 : Int32) (x5 : Int32), K (.inl (x4, x5)) → EW Γ mX12_numberOf 6 [(0, rf Γ x0), (1, .int x1), (3, .int x3), (4, .int x4), (5, .int x5)] [] h) (hR : ∀ r, K (.inr r) → emPI h r = tgt Γ) : EG Γ mX12_numberOf 6 [(0, rf Γ x0), (1, .int x1), (3, .int x3), (4, .int x4), (5, .int x5)] [] h (B_X12_numberOf_6 h x0 x1 x3 x4 x5) K := by
  unfold B_X12_numberOf_6
  refine x_iload hO 4 rfl dX12_numberOf_6 ?_
  refine x_iload_n hO 2 rfl rfl dX12_numberOf_8 ?_
  refine x_icmp_gt hO (tg := 57) dX12_numberOf_9 (by decide) ?_ ?_
  · refine x_iload hO 3 rfl dX12_numberOf_57 ?_
    exact x_iret hO rfl dX12_numberOf_59 (hR _)
  · refine x_aload_n hO 0 rfl rfl dX12_numberOf_12 ?_
    refine x_iload_n hO 1 rfl rfl dX12_numberOf_13 ?_
    refine x_iload hO 4 rfl dX12_numberOf_14 ?_
    refine y_PI (x_callV hO lv_RX12_155 hx0 vc_12 (by decide) (As := [.int x1, .int x5]) rfl (Nat.le_of_ble_eq_true rfl) (ok_X12_reads (cG Γ) h x0 x1 x5 hx0) dX12_numberOf_16 rfl (Nat.le_of_ble_eq_true rfl)) (fun r1 => ?_)
    refine x_istore hO [(6, .int r1), (0, rf Γ x0), (1, .int x1), (3, .int x3), (4, .int x4), (5, .int x5)] dX12_numberOf_19 (by decide) rfl ?_
    refine x_iload hO 0 rfl dX12_numberOf_21 ?_
    refine x_bipush hO (v := 11) (by decide) dX12_numberOf_23 ?_
    refine x_icmp_ne hO (tg := 30) dX12_numberOf_25 (by decide) ?_ ?_
    · refine x_bipush hO (v := 10) (by decide) dX12_numberOf_30 ?_
      refine x_iload hO 4 rfl dX12_numberOf_32 ?_
      refine x_imul hO dX12_numberOf_34 ?_
      refine x_iload hO 0 rfl dX12_numberOf_35 ?_
      refine x_bipush hO (v := 10) (by decide) dX12_numberOf_37 ?_
      refine x_icmp_ne hO (tg := 46) dX12_numberOf_39 (by decide) ?_ ?_
      · refine x_iload hO 0 rfl dX12_numberOf_46 ?_
        refine x_iadd hO dX12_numberOf_48 ?_
        refine x_istore hO [(4, .int ((((10 : Int32)) * x4) + r1)), (6, .int r1), (0, rf Γ x0), (1, .int x1), (3, .int x3), (5, .int x5)] dX12_numberOf_49 (by decide) rfl ?_
        refine x_iinc hO 5 (v := 1) [(5, .int (x5 + (1 : Int32))), (4, .int ((((10 : Int32)) * x4) + r1)), (6, .int r1), (0, rf Γ x0), (1, .int x1), (3, .int x3)] dX12_numberOf_51 rfl (by decide) (by decide) rfl ?_
        refine x_goto hO (tg := 6) dX12_numberOf_54 (by decide) ?_
        exact x_leafs [3, 4, 5, 1, 0] rfl (hC ((((10 : Int32)) * x4) + r1) (x5 + (1 : Int32)))
      · refine x_iconst hO (v := 0) (by decide) dX12_numberOf_42 ?_
        refine x_goto hO (tg := 48) dX12_numberOf_43 (by decide) ?_
        refine x_iadd hO dX12_numberOf_48 ?_
        refine x_istore hO [(4, .int ((((10 : Int32)) * x4) + ((0 : Int32)))), (6, .int r1), (0, rf Γ x0), (1, .int x1), (3, .int x3), (5, .int x5)] dX12_numberOf_49 (by decide) rfl ?_
        refine x_iinc hO 5 (v := 1) [(5, .int (x5 + (1 : Int32))), (4, .int ((((10 : Int32)) * x4) + ((0 : Int32)))), (6, .int r1), (0, rf Γ x0), (1, .int x1), (3, .int x3)] dX12_numberOf_51 rfl (by decide) (by decide) rfl ?_
        refine x_goto hO (tg := 6) dX12_numberOf_54 (by decide) ?_
        exact x_leafs [3, 4, 5, 1, 0] rfl (hC ((((10 : Int32)) * x4) + ((0 : Int32))) (x5 + (1 : Int32)))
    · refine x_iconst hO (v := -1) (by decide) dX12_numberOf_28 ?_
      exact x_iret hO rfl dX12_numberOf_29 (hR _)
set_option maxHeartbeats 4000000 in
set_option maxRecDepth 100000 in
theorem go_X12_numberOf_L6 {Γ : Cx} (hO : Ok Γ mX12_numberOf) (h : Hp) (x0 : Nat) (x1 : Int32) (x3 : Int32) (x4 : Int32) (x5 : Int32) (hx0 : Is x0 12) {K : Int32 → Prop} (hR : ∀ r, K (r) → emPI h r = tgt Γ) : EG Γ mX12_numberOf 6 [(0, rf Γ x0), (1, .int x1), (3, .int x3), (4, .int x4), (5, .int x5)] [] h (L_X12_numberOf_6 h x0 x1 x3 x4 x5) K := by
  have q := x_loop (Γ := Γ) (M := mX12_numberOf) (pc := 6) (B := fun s : Int32 × Int32 => B_X12_numberOf_6 h x0 x1 x3 s.1 s.2) (lvf := fun s => [(0, rf Γ x0), (1, .int x1), (3, .int x3), (4, .int s.1), (5, .int s.2)]) (hf := fun s => h) (Ky := K) (fun s => go_X12_numberOf_B6 hO h x0 x1 x3 s.1 s.2 hx0 (fun _ _ => id) hR) (x4, x5)
  exact q
noncomputable def F_X12_numberOf (h : Hp) (x0 : Nat) (x1 : Int32) (x2 : Int32) (x3 : Int32) : Option (Int32) :=
  L_X12_numberOf_6 h x0 x1 x3 ((0 : Int32)) x2
set_option maxHeartbeats 4000000 in
set_option maxRecDepth 100000 in
theorem go_X12_numberOf {Γ : Cx} (hO : Ok Γ mX12_numberOf) (h : Hp) (x0 : Nat) (x1 : Int32) (x2 : Int32) (x3 : Int32) (hx0 : Is x0 12) {K : Int32 → Prop} (hR : ∀ r, K r → emPI h r = tgt Γ) : EG Γ mX12_numberOf 0 [(0, rf Γ x0), (1, .int x1), (2, .int x2), (3, .int x3)] [] h (F_X12_numberOf h x0 x1 x2 x3) K := by
  unfold F_X12_numberOf
  refine x_iconst hO (v := 0) (by decide) dX12_numberOf_0 ?_
  refine x_istore hO [(4, .int ((0 : Int32))), (0, rf Γ x0), (1, .int x1), (2, .int x2), (3, .int x3)] dX12_numberOf_1 (by decide) rfl ?_
  refine x_iload_n hO 3 rfl rfl dX12_numberOf_3 ?_
  refine x_istore hO [(5, .int x2), (4, .int ((0 : Int32))), (0, rf Γ x0), (1, .int x1), (2, .int x2), (3, .int x3)] dX12_numberOf_4 (by decide) rfl ?_
  exact x_sub [2, 3, 5, 1, 0] rfl (go_X12_numberOf_L6 hO h x0 x1 x3 ((0 : Int32)) x2 hx0 hR)
theorem ok_X12_numberOf (G : Gl) (h : Hp) (x0 : Nat) (x1 : Int32) (x2 : Int32) (x3 : Int32) (hx0 : Is x0 12) : CN G mX12_numberOf [.ref (gb G + x0), .int x1, .int x2, .int x3] h ((F_X12_numberOf h x0 x1 x2 x3).map (emPI h)) := CN.fn pn_RX12 (Nat.le_of_ble_eq_true rfl) (fun Γ hG hO => by subst hG; exact go_X12_numberOf hO h x0 x1 x2 x3 hx0 (fun _ q => q))
noncomputable def B_X12_passes_15 (h : Hp) (x0 : Nat) (x1 : Int32) (x2 : Int32) (x3 : Int32) (x4 : Int32) : Option ((Hp × Int32) ⊕ (Hp)) :=
  if x3 ≤ x4 then some (.inr h) else if x2 = 0 then some (.inr h) else if (hI h x0 26) = x3 then gd (ib x4 (LEN (GR x0 25))) ((F_X12_reads h x0 (hI h (GR x0 25) (nx x4)) x1).bind (fun r1 => if r1 = ((10 : Int32)) then some (.inl (uI h x0 26 x4, x4 + (1 : Int32))) else some (.inl (h, x4 + (1 : Int32))))) else some (.inr h)
noncomputable def L_X12_passes_15 (h : Hp) (x0 : Nat) (x1 : Int32) (x2 : Int32) (x3 : Int32) (x4 : Int32) : Option (Hp) := iterW (fun s : Hp × Int32 => B_X12_passes_15 s.1 x0 x1 x2 x3 s.2) (h, x4)
set_option maxHeartbeats 4000000 in
set_option maxRecDepth 100000 in
theorem go_X12_passes_B15 {Γ : Cx} (hO : Ok Γ mX12_passes) (h : Hp) (x0 : Nat) (x1 : Int32) (x2 : Int32) (x3 : Int32) (x4 : Int32) (hx0 : Is x0 12) {K : (Hp × Int32) ⊕ (Hp) → Prop} (hC : ∀ (h : Hp) (x4 : Int32), K (.inl (h, x4)) → EW Γ mX12_passes 15 [(0, rf Γ x0), (1, .int x1), (2, .int x2), (3, .int x3), (4, .int x4)] [] h) (hE62 : ∀ (h : Hp), K (.inr h) → EW Γ mX12_passes 62 [(0, rf Γ x0), (1, .int x1), (3, .int x3)] [] h) : EG Γ mX12_passes 15 [(0, rf Γ x0), (1, .int x1), (2, .int x2), (3, .int x3), (4, .int x4)] [] h (B_X12_passes_15 h x0 x1 x2 x3 x4) K := by
  unfold B_X12_passes_15
  refine x_iload hO 4 rfl dX12_passes_15 ?_
  refine x_iload_n hO 3 rfl rfl dX12_passes_17 ?_
  refine x_icmp_ge hO (tg := 62) dX12_passes_18 (by decide) ?_ ?_
  · exact x_leafs [0, 1, 3] rfl (hE62 h)
  · refine x_iload_n hO 2 rfl rfl dX12_passes_21 ?_
    refine x_if_eq hO (tg := 62) dX12_passes_22 (by decide) ?_ ?_
    · exact x_leafs [0, 1, 3] rfl (hE62 h)
    · refine x_aload_n hO 0 rfl rfl dX12_passes_25 ?_
      refine x_getI hO fl_RX12_277 hx0 dX12_passes_26 ?_
      refine x_iload_n hO 3 rfl rfl dX12_passes_29 ?_
      refine x_icmp_ne hO (tg := 62) dX12_passes_30 (by decide) ?_ ?_
      · exact x_leafs [0, 1, 3] rfl (hE62 h)
      · refine x_aload_n hO 0 rfl rfl dX12_passes_33 ?_
        refine x_aload_n hO 0 rfl rfl dX12_passes_34 ?_
        refine x_getR hO fl_RX12_56 hx0 dX12_passes_35 ?_
        refine x_iload hO 4 rfl dX12_passes_38 ?_
        refine x_iald hO (gr_12_25 hx0) dX12_passes_40 ?_
        refine x_iload_n hO 1 rfl rfl dX12_passes_41 ?_
        refine y_PI (x_callV hO lv_RX12_155 hx0 vc_12 (by decide) (As := [.int (hI h (GR x0 25) (nx x4)), .int x1]) rfl (Nat.le_of_ble_eq_true rfl) (ok_X12_reads (cG Γ) h x0 (hI h (GR x0 25) (nx x4)) x1 hx0) dX12_passes_42 rfl (Nat.le_of_ble_eq_true rfl)) (fun r1 => ?_)
        refine x_bipush hO (v := 10) (by decide) dX12_passes_45 ?_
        refine x_icmp_ne hO (tg := 56) dX12_passes_47 (by decide) ?_ ?_
        · refine x_iinc hO 4 (v := 1) [(4, .int (x4 + (1 : Int32))), (0, rf Γ x0), (1, .int x1), (2, .int x2), (3, .int x3)] dX12_passes_56 rfl (by decide) (by decide) rfl ?_
          refine x_goto hO (tg := 15) dX12_passes_59 (by decide) ?_
          exact x_leafs [1, 2, 3, 4, 0] rfl (hC h (x4 + (1 : Int32)))
        · refine x_aload_n hO 0 rfl rfl dX12_passes_50 ?_
          refine x_iload hO 4 rfl dX12_passes_51 ?_
          refine x_putI hO fl_RX12_277 hx0 dX12_passes_53 ?_
          refine x_iinc hO 4 (v := 1) [(4, .int (x4 + (1 : Int32))), (0, rf Γ x0), (1, .int x1), (2, .int x2), (3, .int x3)] dX12_passes_56 rfl (by decide) (by decide) rfl ?_
          refine x_goto hO (tg := 15) dX12_passes_59 (by decide) ?_
          exact x_leafs [1, 2, 3, 4, 0] rfl (hC (uI h x0 26 x4) (x4 + (1 : Int32)))
set_option maxHeartbeats 4000000 in
set_option maxRecDepth 100000 in
theorem go_X12_passes_L15 {Γ : Cx} (hO : Ok Γ mX12_passes) (h : Hp) (x0 : Nat) (x1 : Int32) (x2 : Int32) (x3 : Int32) (x4 : Int32) (hx0 : Is x0 12) {K : Hp → Prop} (hE62 : ∀ (h : Hp), K (h) → EW Γ mX12_passes 62 [(0, rf Γ x0), (1, .int x1), (3, .int x3)] [] h) : EG Γ mX12_passes 15 [(0, rf Γ x0), (1, .int x1), (2, .int x2), (3, .int x3), (4, .int x4)] [] h (L_X12_passes_15 h x0 x1 x2 x3 x4) K := by
  have q := x_loop (Γ := Γ) (M := mX12_passes) (pc := 15) (B := fun s : Hp × Int32 => B_X12_passes_15 s.1 x0 x1 x2 x3 s.2) (lvf := fun s => [(0, rf Γ x0), (1, .int x1), (2, .int x2), (3, .int x3), (4, .int s.2)]) (hf := fun s => s.1) (Ky := K) (fun s => go_X12_passes_B15 hO s.1 x0 x1 x2 x3 s.2 hx0 (fun _ _ => id) hE62) (h, x4)
  exact q
noncomputable def B_X12_passes_99 (h : Hp) (x0 : Nat) (x1 : Int32) (x5 : Int32) (x6 : Int32) (x4 : Int32) (x7 : Int32) : Option ((Hp × Int32 × Int32) ⊕ (Hp × Int32)) :=
  if (hI h x0 26) ≤ x7 then some (.inr ((h, x4))) else gd (ib x7 (LEN (GR x0 25))) ((F_X12_reads h x0 (hI h (GR x0 25) (nx x7)) x1).bind (fun r1 => if r1 = x5 then gd (ib x7 (LEN (GR x0 25))) (gd (ib x4 (LEN (GR x0 24))) (some (.inl (uI h (GR x0 24) (nx x4) (hI h (GR x0 25) (nx x7)), x4 + (1 : Int32), x7 + (1 : Int32))))) else some (.inl (h, x4, x7 + (1 : Int32)))))
noncomputable def L_X12_passes_99 (h : Hp) (x0 : Nat) (x1 : Int32) (x5 : Int32) (x6 : Int32) (x4 : Int32) (x7 : Int32) : Option (Hp × Int32) := iterW (fun s : Hp × Int32 × Int32 => B_X12_passes_99 s.1 x0 x1 x5 x6 s.2.1 s.2.2) (h, x4, x7)
set_option maxHeartbeats 4000000 in
set_option maxRecDepth 100000 in
theorem go_X12_passes_B99 {Γ : Cx} (hO : Ok Γ mX12_passes) (h : Hp) (x0 : Nat) (x1 : Int32) (x5 : Int32) (x6 : Int32) (x4 : Int32) (x7 : Int32) (hx0 : Is x0 12) {K : (Hp × Int32 × Int32) ⊕ (Hp × Int32) → Prop} (hC : ∀ (h : Hp) (x4 : Int32) (x7 : Int32), K (.inl (h, x4, x7)) → EW Γ mX12_passes 99 [(0, rf Γ x0), (1, .int x1), (4, .int x4), (5, .int x5), (6, .int x6), (7, .int x7)] [] h) (hE151 : ∀ (h : Hp) (x4 : Int32), K (.inr ((h, x4))) → EW Γ mX12_passes 151 [(0, rf Γ x0), (1, .int x1), (4, .int x4), (5, .int x5), (6, .int x6)] [] h) : EG Γ mX12_passes 99 [(0, rf Γ x0), (1, .int x1), (4, .int x4), (5, .int x5), (6, .int x6), (7, .int x7)] [] h (B_X12_passes_99 h x0 x1 x5 x6 x4 x7) K := by
  unfold B_X12_passes_99
  refine x_iload hO 5 rfl dX12_passes_99 ?_
  refine x_aload_n hO 0 rfl rfl dX12_passes_101 ?_
  refine x_getI hO fl_RX12_277 hx0 dX12_passes_102 ?_
  refine x_icmp_ge hO (tg := 151) dX12_passes_105 (by decide) ?_ ?_
  · exact x_leafs [0, 1, 2, 3, 4] rfl (hE151 h x4)
  · refine x_aload_n hO 0 rfl rfl dX12_passes_108 ?_
    refine x_aload_n hO 0 rfl rfl dX12_passes_109 ?_
    refine x_getR hO fl_RX12_56 hx0 dX12_passes_110 ?_
    refine x_iload hO 5 rfl dX12_passes_113 ?_
    refine x_iald hO (gr_12_25 hx0) dX12_passes_115 ?_
    refine x_iload_n hO 1 rfl rfl dX12_passes_116 ?_
    refine y_PI (x_callV hO lv_RX12_155 hx0 vc_12 (by decide) (As := [.int (hI h (GR x0 25) (nx x7)), .int x1]) rfl (Nat.le_of_ble_eq_true rfl) (ok_X12_reads (cG Γ) h x0 (hI h (GR x0 25) (nx x7)) x1 hx0) dX12_passes_117 rfl (Nat.le_of_ble_eq_true rfl)) (fun r1 => ?_)
    refine x_iload hO 3 rfl dX12_passes_120 ?_
    refine x_icmp_eq hO (tg := 128) dX12_passes_122 (by decide) ?_ ?_
    · refine x_aload_n hO 0 rfl rfl dX12_passes_128 ?_
      refine x_getR hO fl_RX12_53 hx0 dX12_passes_129 ?_
      refine x_iload hO 2 rfl dX12_passes_132 ?_
      refine x_aload_n hO 0 rfl rfl dX12_passes_134 ?_
      refine x_getR hO fl_RX12_56 hx0 dX12_passes_135 ?_
      refine x_iload hO 5 rfl dX12_passes_138 ?_
      refine x_iald hO (gr_12_25 hx0) dX12_passes_140 ?_
      refine x_iast hO (gr_12_24 hx0) dX12_passes_141 ?_
      refine x_iinc hO 2 (v := 1) [(4, .int (x4 + (1 : Int32))), (0, rf Γ x0), (1, .int x1), (5, .int x5), (6, .int x6), (7, .int x7)] dX12_passes_142 rfl (by decide) (by decide) rfl ?_
      refine x_iinc hO 5 (v := 1) [(7, .int (x7 + (1 : Int32))), (4, .int (x4 + (1 : Int32))), (0, rf Γ x0), (1, .int x1), (5, .int x5), (6, .int x6)] dX12_passes_145 rfl (by decide) (by decide) rfl ?_
      refine x_goto hO (tg := 99) dX12_passes_148 (by decide) ?_
      exact x_leafs [2, 3, 1, 4, 5, 0] rfl (hC (uI h (GR x0 24) (nx x4) (hI h (GR x0 25) (nx x7))) (x4 + (1 : Int32)) (x7 + (1 : Int32)))
    · refine x_goto hO (tg := 145) dX12_passes_125 (by decide) ?_
      refine x_iinc hO 5 (v := 1) [(7, .int (x7 + (1 : Int32))), (0, rf Γ x0), (1, .int x1), (4, .int x4), (5, .int x5), (6, .int x6)] dX12_passes_145 rfl (by decide) (by decide) rfl ?_
      refine x_goto hO (tg := 99) dX12_passes_148 (by decide) ?_
      exact x_leafs [1, 2, 3, 4, 5, 0] rfl (hC h x4 (x7 + (1 : Int32)))
set_option maxHeartbeats 4000000 in
set_option maxRecDepth 100000 in
theorem go_X12_passes_L99 {Γ : Cx} (hO : Ok Γ mX12_passes) (h : Hp) (x0 : Nat) (x1 : Int32) (x5 : Int32) (x6 : Int32) (x4 : Int32) (x7 : Int32) (hx0 : Is x0 12) {K : Hp × Int32 → Prop} (hE151 : ∀ (h : Hp) (x4 : Int32), K ((h, x4)) → EW Γ mX12_passes 151 [(0, rf Γ x0), (1, .int x1), (4, .int x4), (5, .int x5), (6, .int x6)] [] h) : EG Γ mX12_passes 99 [(0, rf Γ x0), (1, .int x1), (4, .int x4), (5, .int x5), (6, .int x6), (7, .int x7)] [] h (L_X12_passes_99 h x0 x1 x5 x6 x4 x7) K := by
  have q := x_loop (Γ := Γ) (M := mX12_passes) (pc := 99) (B := fun s : Hp × Int32 × Int32 => B_X12_passes_99 s.1 x0 x1 x5 x6 s.2.1 s.2.2) (lvf := fun s => [(0, rf Γ x0), (1, .int x1), (4, .int s.2.1), (5, .int x5), (6, .int x6), (7, .int s.2.2)]) (hf := fun s => s.1) (Ky := K) (fun s => go_X12_passes_B99 hO s.1 x0 x1 x5 x6 s.2.1 s.2.2 hx0 (fun _ _ _ => id) hE151) (h, x4, x7)
  exact q
noncomputable def B_X12_passes_85 (h : Hp) (x0 : Nat) (x1 : Int32) (x4 : Int32) (x5 : Int32) : Option ((Hp × Int32 × Int32) ⊕ (Hp)) :=
  if ((11 : Int32)) < x5 then some (.inr h) else (L_X12_passes_99 h x0 x1 x5 x4 x4 ((0 : Int32))).bind (fun e1 => if e1.2 ≤ x4 then some (.inl (uI e1.1 x0 27 ((hI e1.1 x0 27) + ((0 : Int32))), e1.2, x5 + (1 : Int32))) else some (.inl (uI e1.1 x0 27 ((hI e1.1 x0 27) + ((1 : Int32))), e1.2, x5 + (1 : Int32))))
noncomputable def L_X12_passes_85 (h : Hp) (x0 : Nat) (x1 : Int32) (x4 : Int32) (x5 : Int32) : Option (Hp) := iterW (fun s : Hp × Int32 × Int32 => B_X12_passes_85 s.1 x0 x1 s.2.1 s.2.2) (h, x4, x5)
set_option maxHeartbeats 4000000 in
set_option maxRecDepth 100000 in
theorem go_X12_passes_B85 {Γ : Cx} (hO : Ok Γ mX12_passes) (h : Hp) (x0 : Nat) (x1 : Int32) (x4 : Int32) (x5 : Int32) (hx0 : Is x0 12) {K : (Hp × Int32 × Int32) ⊕ (Hp) → Prop} (hC : ∀ (h : Hp) (x4 : Int32) (x5 : Int32), K (.inl (h, x4, x5)) → EW Γ mX12_passes 85 [(0, rf Γ x0), (1, .int x1), (4, .int x4), (5, .int x5)] [] h) (hE178 : ∀ (h : Hp), K (.inr h) → EW Γ mX12_passes 178 [(0, rf Γ x0)] [] h) : EG Γ mX12_passes 85 [(0, rf Γ x0), (1, .int x1), (4, .int x4), (5, .int x5)] [] h (B_X12_passes_85 h x0 x1 x4 x5) K := by
  unfold B_X12_passes_85
  refine x_iload hO 3 rfl dX12_passes_85 ?_
  refine x_bipush hO (v := 11) (by decide) dX12_passes_87 ?_
  refine x_icmp_gt hO (tg := 178) dX12_passes_89 (by decide) ?_ ?_
  · exact x_leafs [0] rfl (hE178 h)
  · refine x_iload hO 2 rfl dX12_passes_92 ?_
    refine x_istore hO [(6, .int x4), (0, rf Γ x0), (1, .int x1), (4, .int x4), (5, .int x5)] dX12_passes_94 (by decide) rfl ?_
    refine x_iconst hO (v := 0) (by decide) dX12_passes_96 ?_
    refine x_istore hO [(7, .int ((0 : Int32))), (6, .int x4), (0, rf Γ x0), (1, .int x1), (4, .int x4), (5, .int x5)] dX12_passes_97 (by decide) rfl ?_
    refine x_bind (x_sub [2, 3, 4, 5, 1, 0] rfl (go_X12_passes_L99 hO h x0 x1 x5 x4 x4 ((0 : Int32)) hx0 (fun y1_0 y1_1 hx => ?_)))
    refine x_run (t := (if y1_1 ≤ x4 then some (.inl (uI y1_0 x0 27 ((hI y1_0 x0 27) + ((0 : Int32))), y1_1, x5 + (1 : Int32))) else some (.inl (uI y1_0 x0 27 ((hI y1_0 x0 27) + ((1 : Int32))), y1_1, x5 + (1 : Int32))) : Option ((Hp × Int32 × Int32) ⊕ (Hp)))) hx ?_
    refine x_aload_n hO 0 rfl rfl dX12_passes_151 ?_
    refine x_dup_r hO dX12_passes_152 ?_
    refine x_getI hO fl_RX12_280 hx0 dX12_passes_153 ?_
    refine x_iload hO 2 rfl dX12_passes_156 ?_
    refine x_iload hO 4 rfl dX12_passes_158 ?_
    refine x_icmp_le hO (tg := 167) dX12_passes_160 (by decide) ?_ ?_
    · refine x_iconst hO (v := 0) (by decide) dX12_passes_167 ?_
      refine x_iadd hO dX12_passes_168 ?_
      refine x_putI hO fl_RX12_280 hx0 dX12_passes_169 ?_
      refine x_iinc hO 3 (v := 1) [(5, .int (x5 + (1 : Int32))), (0, rf Γ x0), (1, .int x1), (4, .int y1_1), (6, .int x4)] dX12_passes_172 rfl (by decide) (by decide) rfl ?_
      refine x_goto hO (tg := 85) dX12_passes_175 (by decide) ?_
      exact x_leafs [1, 2, 3, 0] rfl (hC (uI y1_0 x0 27 ((hI y1_0 x0 27) + ((0 : Int32)))) y1_1 (x5 + (1 : Int32)))
    · refine x_iconst hO (v := 1) (by decide) dX12_passes_163 ?_
      refine x_goto hO (tg := 168) dX12_passes_164 (by decide) ?_
      refine x_iadd hO dX12_passes_168 ?_
      refine x_putI hO fl_RX12_280 hx0 dX12_passes_169 ?_
      refine x_iinc hO 3 (v := 1) [(5, .int (x5 + (1 : Int32))), (0, rf Γ x0), (1, .int x1), (4, .int y1_1), (6, .int x4)] dX12_passes_172 rfl (by decide) (by decide) rfl ?_
      refine x_goto hO (tg := 85) dX12_passes_175 (by decide) ?_
      exact x_leafs [1, 2, 3, 0] rfl (hC (uI y1_0 x0 27 ((hI y1_0 x0 27) + ((1 : Int32)))) y1_1 (x5 + (1 : Int32)))
set_option maxHeartbeats 4000000 in
set_option maxRecDepth 100000 in
theorem go_X12_passes_L85 {Γ : Cx} (hO : Ok Γ mX12_passes) (h : Hp) (x0 : Nat) (x1 : Int32) (x4 : Int32) (x5 : Int32) (hx0 : Is x0 12) {K : Hp → Prop} (hE178 : ∀ (h : Hp), K (h) → EW Γ mX12_passes 178 [(0, rf Γ x0)] [] h) : EG Γ mX12_passes 85 [(0, rf Γ x0), (1, .int x1), (4, .int x4), (5, .int x5)] [] h (L_X12_passes_85 h x0 x1 x4 x5) K := by
  have q := x_loop (Γ := Γ) (M := mX12_passes) (pc := 85) (B := fun s : Hp × Int32 × Int32 => B_X12_passes_85 s.1 x0 x1 s.2.1 s.2.2) (lvf := fun s => [(0, rf Γ x0), (1, .int x1), (4, .int s.2.1), (5, .int s.2.2)]) (hf := fun s => s.1) (Ky := K) (fun s => go_X12_passes_B85 hO s.1 x0 x1 s.2.1 s.2.2 hx0 (fun _ _ _ => id) hE178) (h, x4, x5)
  exact q
noncomputable def B_X12_passes_181 (h : Hp) (x0 : Nat) (x5 : Int32) : Option ((Hp × Int32) ⊕ (Hp)) :=
  if (hI h x0 26) ≤ x5 then some (.inr h) else gd (ib x5 (LEN (GR x0 24))) (gd (ib x5 (LEN (GR x0 25))) (some (.inl (uI h (GR x0 25) (nx x5) (hI h (GR x0 24) (nx x5)), x5 + (1 : Int32)))))
noncomputable def L_X12_passes_181 (h : Hp) (x0 : Nat) (x5 : Int32) : Option (Hp) := iterW (fun s : Hp × Int32 => B_X12_passes_181 s.1 x0 s.2) (h, x5)
set_option maxHeartbeats 4000000 in
set_option maxRecDepth 100000 in
theorem go_X12_passes_B181 {Γ : Cx} (hO : Ok Γ mX12_passes) (h : Hp) (x0 : Nat) (x5 : Int32) (hx0 : Is x0 12) {K : (Hp × Int32) ⊕ (Hp) → Prop} (hC : ∀ (h : Hp) (x5 : Int32), K (.inl (h, x5)) → EW Γ mX12_passes 181 [(0, rf Γ x0), (5, .int x5)] [] h) (hR : ∀ r, K (.inr r) → emHV r = tgt Γ) : EG Γ mX12_passes 181 [(0, rf Γ x0), (5, .int x5)] [] h (B_X12_passes_181 h x0 x5) K := by
  unfold B_X12_passes_181
  refine x_iload hO 1 rfl dX12_passes_181 ?_
  refine x_aload_n hO 0 rfl rfl dX12_passes_183 ?_
  refine x_getI hO fl_RX12_277 hx0 dX12_passes_184 ?_
  refine x_icmp_ge hO (tg := 210) dX12_passes_187 (by decide) ?_ ?_
  · exact x_vret hO rfl dX12_passes_210 (hR _)
  · refine x_aload_n hO 0 rfl rfl dX12_passes_190 ?_
    refine x_getR hO fl_RX12_56 hx0 dX12_passes_191 ?_
    refine x_iload hO 1 rfl dX12_passes_194 ?_
    refine x_aload_n hO 0 rfl rfl dX12_passes_196 ?_
    refine x_getR hO fl_RX12_53 hx0 dX12_passes_197 ?_
    refine x_iload hO 1 rfl dX12_passes_200 ?_
    refine x_iald hO (gr_12_24 hx0) dX12_passes_202 ?_
    refine x_iast hO (gr_12_25 hx0) dX12_passes_203 ?_
    refine x_iinc hO 1 (v := 1) [(5, .int (x5 + (1 : Int32))), (0, rf Γ x0)] dX12_passes_204 rfl (by decide) (by decide) rfl ?_
    refine x_goto hO (tg := 181) dX12_passes_207 (by decide) ?_
    exact x_leafs [1, 0] rfl (hC (uI h (GR x0 25) (nx x5) (hI h (GR x0 24) (nx x5))) (x5 + (1 : Int32)))
set_option maxHeartbeats 4000000 in
set_option maxRecDepth 100000 in
theorem go_X12_passes_L181 {Γ : Cx} (hO : Ok Γ mX12_passes) (h : Hp) (x0 : Nat) (x5 : Int32) (hx0 : Is x0 12) {K : Hp → Prop} (hR : ∀ r, K (r) → emHV r = tgt Γ) : EG Γ mX12_passes 181 [(0, rf Γ x0), (5, .int x5)] [] h (L_X12_passes_181 h x0 x5) K := by
  have q := x_loop (Γ := Γ) (M := mX12_passes) (pc := 181) (B := fun s : Hp × Int32 => B_X12_passes_181 s.1 x0 s.2) (lvf := fun s => [(0, rf Γ x0), (5, .int s.2)]) (hf := fun s => s.1) (Ky := K) (fun s => go_X12_passes_B181 hO s.1 x0 s.2 hx0 (fun _ _ => id) hR) (h, x5)
  exact q
noncomputable def J_X12_passes_62 (h : Hp) (x0 : Nat) (x1 : Int32) (x3 : Int32) : Option (Hp) :=
  if x3 ≤ (hI h x0 26) then (L_X12_passes_85 (uI h x0 27 ((0 : Int32))) x0 x1 ((0 : Int32)) ((0 : Int32))).bind (fun e1 => L_X12_passes_181 e1 x0 ((0 : Int32))) else (L_X12_passes_85 (uI h x0 27 ((1 : Int32))) x0 x1 ((0 : Int32)) ((0 : Int32))).bind (fun e2 => L_X12_passes_181 e2 x0 ((0 : Int32)))
set_option maxHeartbeats 4000000 in
set_option maxRecDepth 100000 in
theorem go_X12_passes_J62 {Γ : Cx} (hO : Ok Γ mX12_passes) (h : Hp) (x0 : Nat) (x1 : Int32) (x3 : Int32) (hx0 : Is x0 12) {K : Hp → Prop} (hR : ∀ r, K r → emHV r = tgt Γ) : EG Γ mX12_passes 62 [(0, rf Γ x0), (1, .int x1), (3, .int x3)] [] h (J_X12_passes_62 h x0 x1 x3) K := by
  unfold J_X12_passes_62
  refine x_aload_n hO 0 rfl rfl dX12_passes_62 ?_
  refine x_aload_n hO 0 rfl rfl dX12_passes_63 ?_
  refine x_getI hO fl_RX12_277 hx0 dX12_passes_64 ?_
  refine x_iload_n hO 2 rfl rfl dX12_passes_67 ?_
  refine x_icmp_ge hO (tg := 75) dX12_passes_68 (by decide) ?_ ?_
  · refine x_iconst hO (v := 0) (by decide) dX12_passes_75 ?_
    refine x_putI hO fl_RX12_280 hx0 dX12_passes_76 ?_
    refine x_iconst hO (v := 0) (by decide) dX12_passes_79 ?_
    refine x_istore hO [(4, .int ((0 : Int32))), (0, rf Γ x0), (1, .int x1), (3, .int x3)] dX12_passes_80 (by decide) rfl ?_
    refine x_iconst hO (v := 0) (by decide) dX12_passes_82 ?_
    refine x_istore hO [(5, .int ((0 : Int32))), (4, .int ((0 : Int32))), (0, rf Γ x0), (1, .int x1), (3, .int x3)] dX12_passes_83 (by decide) rfl ?_
    refine x_bind (x_sub [2, 3, 1, 0] rfl (go_X12_passes_L85 hO (uI h x0 27 ((0 : Int32))) x0 x1 ((0 : Int32)) ((0 : Int32)) hx0 (fun y1_0 hx => ?_)))
    refine x_run (t := (L_X12_passes_181 y1_0 x0 ((0 : Int32)) : Option (Hp))) hx ?_
    refine x_iconst hO (v := 0) (by decide) dX12_passes_178 ?_
    refine x_istore hO [(5, .int ((0 : Int32))), (0, rf Γ x0)] dX12_passes_179 (by decide) rfl ?_
    exact x_sub [1, 0] rfl (go_X12_passes_L181 hO y1_0 x0 ((0 : Int32)) hx0 hR)
  · refine x_iconst hO (v := 1) (by decide) dX12_passes_71 ?_
    refine x_goto hO (tg := 76) dX12_passes_72 (by decide) ?_
    refine x_putI hO fl_RX12_280 hx0 dX12_passes_76 ?_
    refine x_iconst hO (v := 0) (by decide) dX12_passes_79 ?_
    refine x_istore hO [(4, .int ((0 : Int32))), (0, rf Γ x0), (1, .int x1), (3, .int x3)] dX12_passes_80 (by decide) rfl ?_
    refine x_iconst hO (v := 0) (by decide) dX12_passes_82 ?_
    refine x_istore hO [(5, .int ((0 : Int32))), (4, .int ((0 : Int32))), (0, rf Γ x0), (1, .int x1), (3, .int x3)] dX12_passes_83 (by decide) rfl ?_
    refine x_bind (x_sub [2, 3, 1, 0] rfl (go_X12_passes_L85 hO (uI h x0 27 ((1 : Int32))) x0 x1 ((0 : Int32)) ((0 : Int32)) hx0 (fun y2_0 hx => ?_)))
    refine x_run (t := (L_X12_passes_181 y2_0 x0 ((0 : Int32)) : Option (Hp))) hx ?_
    refine x_iconst hO (v := 0) (by decide) dX12_passes_178 ?_
    refine x_istore hO [(5, .int ((0 : Int32))), (0, rf Γ x0)] dX12_passes_179 (by decide) rfl ?_
    exact x_sub [1, 0] rfl (go_X12_passes_L181 hO y2_0 x0 ((0 : Int32)) hx0 hR)
noncomputable def F_X12_passes (h : Hp) (x0 : Nat) (x1 : Int32) (x2 : Int32) : Option (Hp) :=
  gd (ib ((0 : Int32)) (LEN (GR x0 0))) ((L_X12_passes_15 (uI h x0 26 (hI h (GR x0 0) (nx ((0 : Int32))))) x0 x1 x2 (hI h (GR x0 0) (nx ((0 : Int32)))) ((0 : Int32))).bind (fun e1 => J_X12_passes_62 e1 x0 x1 (hI h (GR x0 0) (nx ((0 : Int32))))))
set_option maxHeartbeats 4000000 in
set_option maxRecDepth 100000 in
theorem go_X12_passes {Γ : Cx} (hO : Ok Γ mX12_passes) (h : Hp) (x0 : Nat) (x1 : Int32) (x2 : Int32) (hx0 : Is x0 12) {K : Hp → Prop} (hR : ∀ r, K r → emHV r = tgt Γ) : EG Γ mX12_passes 0 [(0, rf Γ x0), (1, .int x1), (2, .int x2)] [] h (F_X12_passes h x0 x1 x2) K := by
  unfold F_X12_passes
  refine x_aload_n hO 0 rfl rfl dX12_passes_0 ?_
  refine x_getR hO fl_RX12_7 hx0 dX12_passes_1 ?_
  refine x_iconst hO (v := 0) (by decide) dX12_passes_4 ?_
  refine x_iald hO (gr_12_0 hx0) dX12_passes_5 ?_
  refine x_istore_n hO rfl [(3, .int (hI h (GR x0 0) (nx ((0 : Int32))))), (0, rf Γ x0), (1, .int x1), (2, .int x2)] dX12_passes_6 (by decide) rfl ?_
  refine x_aload_n hO 1 rfl rfl dX12_passes_7 ?_
  refine x_iload_n hO 0 rfl rfl dX12_passes_8 ?_
  refine x_putI hO fl_RX12_277 hx0 dX12_passes_9 ?_
  refine x_iconst hO (v := 0) (by decide) dX12_passes_12 ?_
  refine x_istore hO [(4, .int ((0 : Int32))), (3, .int (hI h (GR x0 0) (nx ((0 : Int32))))), (0, rf Γ x0), (1, .int x1), (2, .int x2)] dX12_passes_13 (by decide) rfl ?_
  refine x_bind (x_sub [2, 3, 4, 1, 0] rfl (go_X12_passes_L15 hO (uI h x0 26 (hI h (GR x0 0) (nx ((0 : Int32))))) x0 x1 x2 (hI h (GR x0 0) (nx ((0 : Int32)))) ((0 : Int32)) hx0 (fun y1_0 hx => ?_)))
  refine x_run (t := (J_X12_passes_62 y1_0 x0 x1 (hI h (GR x0 0) (nx ((0 : Int32)))) : Option (Hp))) hx ?_
  exact x_sub [0, 1, 2] rfl (go_X12_passes_J62 hO y1_0 x0 x1 (hI h (GR x0 0) (nx ((0 : Int32)))) hx0 hR)
theorem ok_X12_passes (G : Gl) (h : Hp) (x0 : Nat) (x1 : Int32) (x2 : Int32) (hx0 : Is x0 12) : CN G mX12_passes [.ref (gb G + x0), .int x1, .int x2] h ((F_X12_passes h x0 x1 x2).map (emHV)) := CN.fn pn_RX12 (Nat.le_of_ble_eq_true rfl) (fun Γ hG hO => by subst hG; exact go_X12_passes hO h x0 x1 x2 hx0 (fun _ q => q))
noncomputable def J_X12_puts_61 (h : Hp) (x0 : Nat) (x1 : Int32) (x2 : Int32) (x3 : Int32) (x4 : Int32) (x5 : Int32) (s0 : Int32) (s1 : Int32) : Option ((Hp × Int32 × Int32) ⊕ (Hp × Int32)) :=
  if s0 = s1 then gd (ib x5 (LEN (GR x0 25))) (gd (ib (((338 : Int32)) + x3) (LEN (GR x0 0))) (some (.inl (uI h (GR x0 0) (nx (((338 : Int32)) + x3)) (hI h (GR x0 25) (nx x5)), x3 + (1 : Int32), x5 + (1 : Int32))))) else some (.inl (h, x3, x5 + (1 : Int32)))
set_option maxHeartbeats 4000000 in
set_option maxRecDepth 100000 in
theorem go_X12_puts_J61 {Γ : Cx} (hO : Ok Γ mX12_puts) (h : Hp) (x0 : Nat) (x1 : Int32) (x2 : Int32) (x3 : Int32) (x4 : Int32) (x5 : Int32) (s0 : Int32) (s1 : Int32) (hx0 : Is x0 12) {K : (Hp × Int32 × Int32) ⊕ (Hp × Int32) → Prop} (hC : ∀ (h : Hp) (x3 : Int32) (x5 : Int32), K (.inl (h, x3, x5)) → EW Γ mX12_puts 18 [(0, rf Γ x0), (1, .int x1), (2, .int x2), (3, .int x3), (4, .int x4), (5, .int x5)] [] h) (hE93 : ∀ (h : Hp) (x3 : Int32), K (.inr ((h, x3))) → EW Γ mX12_puts 93 [(0, rf Γ x0), (1, .int x1), (2, .int x2), (3, .int x3), (4, .int x4)] [] h) : EG Γ mX12_puts 61 [(0, rf Γ x0), (1, .int x1), (2, .int x2), (3, .int x3), (4, .int x4), (5, .int x5)] [.int s1, .int s0] h (J_X12_puts_61 h x0 x1 x2 x3 x4 x5 s0 s1) K := by
  unfold J_X12_puts_61
  refine x_icmp_eq hO (tg := 67) dX12_puts_61 (by decide) ?_ ?_
  · refine x_aload_n hO 0 rfl rfl dX12_puts_67 ?_
    refine x_getR hO fl_RX12_7 hx0 dX12_puts_68 ?_
    refine x_sipush hO (v := 338) (by decide) dX12_puts_71 ?_
    refine x_iload_n hO 3 rfl rfl dX12_puts_74 ?_
    refine x_iadd hO dX12_puts_75 ?_
    refine x_aload_n hO 0 rfl rfl dX12_puts_76 ?_
    refine x_getR hO fl_RX12_56 hx0 dX12_puts_77 ?_
    refine x_iload hO 5 rfl dX12_puts_80 ?_
    refine x_iald hO (gr_12_25 hx0) dX12_puts_82 ?_
    refine x_iast hO (gr_12_0 hx0) dX12_puts_83 ?_
    refine x_iinc hO 3 (v := 1) [(3, .int (x3 + (1 : Int32))), (0, rf Γ x0), (1, .int x1), (2, .int x2), (4, .int x4), (5, .int x5)] dX12_puts_84 rfl (by decide) (by decide) rfl ?_
    refine x_iinc hO 5 (v := 1) [(5, .int (x5 + (1 : Int32))), (3, .int (x3 + (1 : Int32))), (0, rf Γ x0), (1, .int x1), (2, .int x2), (4, .int x4)] dX12_puts_87 rfl (by decide) (by decide) rfl ?_
    refine x_goto hO (tg := 18) dX12_puts_90 (by decide) ?_
    exact x_leafs [2, 3, 4, 1, 5, 0] rfl (hC (uI h (GR x0 0) (nx (((338 : Int32)) + x3)) (hI h (GR x0 25) (nx x5))) (x3 + (1 : Int32)) (x5 + (1 : Int32)))
  · refine x_goto hO (tg := 87) dX12_puts_64 (by decide) ?_
    refine x_iinc hO 5 (v := 1) [(5, .int (x5 + (1 : Int32))), (0, rf Γ x0), (1, .int x1), (2, .int x2), (3, .int x3), (4, .int x4)] dX12_puts_87 rfl (by decide) (by decide) rfl ?_
    refine x_goto hO (tg := 18) dX12_puts_90 (by decide) ?_
    exact x_leafs [1, 2, 3, 4, 5, 0] rfl (hC h x3 (x5 + (1 : Int32)))
noncomputable def J_X12_puts_50 (h : Hp) (x0 : Nat) (x1 : Int32) (x2 : Int32) (x3 : Int32) (x4 : Int32) (x5 : Int32) (s0 : Int32) : Option ((Hp × Int32 × Int32) ⊕ (Hp × Int32)) :=
  if x4 = ((1 : Int32)) then J_X12_puts_61 h x0 x1 x2 x3 x4 x5 s0 ((1 : Int32)) else J_X12_puts_61 h x0 x1 x2 x3 x4 x5 s0 ((0 : Int32))
set_option maxHeartbeats 4000000 in
set_option maxRecDepth 100000 in
theorem go_X12_puts_J50 {Γ : Cx} (hO : Ok Γ mX12_puts) (h : Hp) (x0 : Nat) (x1 : Int32) (x2 : Int32) (x3 : Int32) (x4 : Int32) (x5 : Int32) (s0 : Int32) (hx0 : Is x0 12) {K : (Hp × Int32 × Int32) ⊕ (Hp × Int32) → Prop} (hC : ∀ (h : Hp) (x3 : Int32) (x5 : Int32), K (.inl (h, x3, x5)) → EW Γ mX12_puts 18 [(0, rf Γ x0), (1, .int x1), (2, .int x2), (3, .int x3), (4, .int x4), (5, .int x5)] [] h) (hE93 : ∀ (h : Hp) (x3 : Int32), K (.inr ((h, x3))) → EW Γ mX12_puts 93 [(0, rf Γ x0), (1, .int x1), (2, .int x2), (3, .int x3), (4, .int x4)] [] h) : EG Γ mX12_puts 50 [(0, rf Γ x0), (1, .int x1), (2, .int x2), (3, .int x3), (4, .int x4), (5, .int x5)] [.int s0] h (J_X12_puts_50 h x0 x1 x2 x3 x4 x5 s0) K := by
  unfold J_X12_puts_50
  refine x_iload hO 4 rfl dX12_puts_50 ?_
  refine x_iconst hO (v := 1) (by decide) dX12_puts_52 ?_
  refine x_icmp_ne hO (tg := 60) dX12_puts_53 (by decide) ?_ ?_
  · refine x_iconst hO (v := 0) (by decide) dX12_puts_60 ?_
    exact x_sub [0, 1, 2, 3, 4, 5] rfl (go_X12_puts_J61 hO h x0 x1 x2 x3 x4 x5 s0 ((0 : Int32)) hx0 hC hE93)
  · refine x_iconst hO (v := 1) (by decide) dX12_puts_56 ?_
    refine x_goto hO (tg := 61) dX12_puts_57 (by decide) ?_
    exact x_sub [0, 1, 2, 3, 4, 5] rfl (go_X12_puts_J61 hO h x0 x1 x2 x3 x4 x5 s0 ((1 : Int32)) hx0 hC hE93)
noncomputable def B_X12_puts_18 (h : Hp) (x0 : Nat) (x1 : Int32) (x2 : Int32) (x4 : Int32) (x3 : Int32) (x5 : Int32) : Option ((Hp × Int32 × Int32) ⊕ (Hp × Int32)) :=
  gd (ib ((0 : Int32)) (LEN (GR x0 0))) (if (hI h (GR x0 0) (nx ((0 : Int32)))) ≤ x5 then some (.inr ((h, x3))) else gd (ib x5 (LEN (GR x0 25))) ((F_X12_reads h x0 (hI h (GR x0 25) (nx x5)) x1).bind (fun r1 => if r1 = x2 then J_X12_puts_50 h x0 x1 x2 x3 x4 x5 ((1 : Int32)) else J_X12_puts_50 h x0 x1 x2 x3 x4 x5 ((0 : Int32)))))
noncomputable def L_X12_puts_18 (h : Hp) (x0 : Nat) (x1 : Int32) (x2 : Int32) (x4 : Int32) (x3 : Int32) (x5 : Int32) : Option (Hp × Int32) := iterW (fun s : Hp × Int32 × Int32 => B_X12_puts_18 s.1 x0 x1 x2 x4 s.2.1 s.2.2) (h, x3, x5)
set_option maxHeartbeats 4000000 in
set_option maxRecDepth 100000 in
theorem go_X12_puts_B18 {Γ : Cx} (hO : Ok Γ mX12_puts) (h : Hp) (x0 : Nat) (x1 : Int32) (x2 : Int32) (x4 : Int32) (x3 : Int32) (x5 : Int32) (hx0 : Is x0 12) {K : (Hp × Int32 × Int32) ⊕ (Hp × Int32) → Prop} (hC : ∀ (h : Hp) (x3 : Int32) (x5 : Int32), K (.inl (h, x3, x5)) → EW Γ mX12_puts 18 [(0, rf Γ x0), (1, .int x1), (2, .int x2), (3, .int x3), (4, .int x4), (5, .int x5)] [] h) (hE93 : ∀ (h : Hp) (x3 : Int32), K (.inr ((h, x3))) → EW Γ mX12_puts 93 [(0, rf Γ x0), (1, .int x1), (2, .int x2), (3, .int x3), (4, .int x4)] [] h) : EG Γ mX12_puts 18 [(0, rf Γ x0), (1, .int x1), (2, .int x2), (3, .int x3), (4, .int x4), (5, .int x5)] [] h (B_X12_puts_18 h x0 x1 x2 x4 x3 x5) K := by
  unfold B_X12_puts_18
  refine x_iload hO 5 rfl dX12_puts_18 ?_
  refine x_aload_n hO 0 rfl rfl dX12_puts_20 ?_
  refine x_getR hO fl_RX12_7 hx0 dX12_puts_21 ?_
  refine x_iconst hO (v := 0) (by decide) dX12_puts_24 ?_
  refine x_iald hO (gr_12_0 hx0) dX12_puts_25 ?_
  refine x_icmp_ge hO (tg := 93) dX12_puts_26 (by decide) ?_ ?_
  · exact x_leafs [0, 1, 2, 3, 4] rfl (hE93 h x3)
  · refine x_aload_n hO 0 rfl rfl dX12_puts_29 ?_
    refine x_aload_n hO 0 rfl rfl dX12_puts_30 ?_
    refine x_getR hO fl_RX12_56 hx0 dX12_puts_31 ?_
    refine x_iload hO 5 rfl dX12_puts_34 ?_
    refine x_iald hO (gr_12_25 hx0) dX12_puts_36 ?_
    refine x_iload_n hO 1 rfl rfl dX12_puts_37 ?_
    refine y_PI (x_callV hO lv_RX12_155 hx0 vc_12 (by decide) (As := [.int (hI h (GR x0 25) (nx x5)), .int x1]) rfl (Nat.le_of_ble_eq_true rfl) (ok_X12_reads (cG Γ) h x0 (hI h (GR x0 25) (nx x5)) x1 hx0) dX12_puts_38 rfl (Nat.le_of_ble_eq_true rfl)) (fun r1 => ?_)
    refine x_iload_n hO 2 rfl rfl dX12_puts_41 ?_
    refine x_icmp_ne hO (tg := 49) dX12_puts_42 (by decide) ?_ ?_
    · refine x_iconst hO (v := 0) (by decide) dX12_puts_49 ?_
      exact x_sub [0, 1, 2, 3, 4, 5] rfl (go_X12_puts_J50 hO h x0 x1 x2 x3 x4 x5 ((0 : Int32)) hx0 hC hE93)
    · refine x_iconst hO (v := 1) (by decide) dX12_puts_45 ?_
      refine x_goto hO (tg := 50) dX12_puts_46 (by decide) ?_
      exact x_sub [0, 1, 2, 3, 4, 5] rfl (go_X12_puts_J50 hO h x0 x1 x2 x3 x4 x5 ((1 : Int32)) hx0 hC hE93)
set_option maxHeartbeats 4000000 in
set_option maxRecDepth 100000 in
theorem go_X12_puts_L18 {Γ : Cx} (hO : Ok Γ mX12_puts) (h : Hp) (x0 : Nat) (x1 : Int32) (x2 : Int32) (x4 : Int32) (x3 : Int32) (x5 : Int32) (hx0 : Is x0 12) {K : Hp × Int32 → Prop} (hE93 : ∀ (h : Hp) (x3 : Int32), K ((h, x3)) → EW Γ mX12_puts 93 [(0, rf Γ x0), (1, .int x1), (2, .int x2), (3, .int x3), (4, .int x4)] [] h) : EG Γ mX12_puts 18 [(0, rf Γ x0), (1, .int x1), (2, .int x2), (3, .int x3), (4, .int x4), (5, .int x5)] [] h (L_X12_puts_18 h x0 x1 x2 x4 x3 x5) K := by
  have q := x_loop (Γ := Γ) (M := mX12_puts) (pc := 18) (B := fun s : Hp × Int32 × Int32 => B_X12_puts_18 s.1 x0 x1 x2 x4 s.2.1 s.2.2) (lvf := fun s => [(0, rf Γ x0), (1, .int x1), (2, .int x2), (3, .int s.2.1), (4, .int x4), (5, .int s.2.2)]) (hf := fun s => s.1) (Ky := K) (fun s => go_X12_puts_B18 hO s.1 x0 x1 x2 x4 s.2.1 s.2.2 hx0 (fun _ _ _ => id) hE93) (h, x3, x5)
  exact q
noncomputable def B_X12_puts_9 (h : Hp) (x0 : Nat) (x1 : Int32) (x2 : Int32) (x3 : Int32) (x4 : Int32) : Option ((Hp × Int32 × Int32) ⊕ (Hp)) :=
  if ((2 : Int32)) ≤ x4 then some (.inr h) else (L_X12_puts_18 h x0 x1 x2 x4 x3 ((0 : Int32))).bind (fun e1 => some (.inl (e1.1, e1.2, x4 + (1 : Int32))))
noncomputable def L_X12_puts_9 (h : Hp) (x0 : Nat) (x1 : Int32) (x2 : Int32) (x3 : Int32) (x4 : Int32) : Option (Hp) := iterW (fun s : Hp × Int32 × Int32 => B_X12_puts_9 s.1 x0 x1 x2 s.2.1 s.2.2) (h, x3, x4)
set_option maxHeartbeats 4000000 in
set_option maxRecDepth 100000 in
theorem go_X12_puts_B9 {Γ : Cx} (hO : Ok Γ mX12_puts) (h : Hp) (x0 : Nat) (x1 : Int32) (x2 : Int32) (x3 : Int32) (x4 : Int32) (hx0 : Is x0 12) {K : (Hp × Int32 × Int32) ⊕ (Hp) → Prop} (hC : ∀ (h : Hp) (x3 : Int32) (x4 : Int32), K (.inl (h, x3, x4)) → EW Γ mX12_puts 9 [(0, rf Γ x0), (1, .int x1), (2, .int x2), (3, .int x3), (4, .int x4)] [] h) (hR : ∀ r, K (.inr r) → emHV r = tgt Γ) : EG Γ mX12_puts 9 [(0, rf Γ x0), (1, .int x1), (2, .int x2), (3, .int x3), (4, .int x4)] [] h (B_X12_puts_9 h x0 x1 x2 x3 x4) K := by
  unfold B_X12_puts_9
  refine x_iload hO 4 rfl dX12_puts_9 ?_
  refine x_iconst hO (v := 2) (by decide) dX12_puts_11 ?_
  refine x_icmp_ge hO (tg := 99) dX12_puts_12 (by decide) ?_ ?_
  · exact x_vret hO rfl dX12_puts_99 (hR _)
  · refine x_iconst hO (v := 0) (by decide) dX12_puts_15 ?_
    refine x_istore hO [(5, .int ((0 : Int32))), (0, rf Γ x0), (1, .int x1), (2, .int x2), (3, .int x3), (4, .int x4)] dX12_puts_16 (by decide) rfl ?_
    refine x_bind (x_sub [1, 2, 3, 4, 5, 0] rfl (go_X12_puts_L18 hO h x0 x1 x2 x4 x3 ((0 : Int32)) hx0 (fun y1_0 y1_1 hx => ?_)))
    refine x_run (t := (some (.inl (y1_0, y1_1, x4 + (1 : Int32))) : Option ((Hp × Int32 × Int32) ⊕ (Hp)))) hx ?_
    refine x_iinc hO 4 (v := 1) [(4, .int (x4 + (1 : Int32))), (0, rf Γ x0), (1, .int x1), (2, .int x2), (3, .int y1_1)] dX12_puts_93 rfl (by decide) (by decide) rfl ?_
    refine x_goto hO (tg := 9) dX12_puts_96 (by decide) ?_
    exact x_leafs [1, 2, 3, 4, 0] rfl (hC y1_0 y1_1 (x4 + (1 : Int32)))
set_option maxHeartbeats 4000000 in
set_option maxRecDepth 100000 in
theorem go_X12_puts_L9 {Γ : Cx} (hO : Ok Γ mX12_puts) (h : Hp) (x0 : Nat) (x1 : Int32) (x2 : Int32) (x3 : Int32) (x4 : Int32) (hx0 : Is x0 12) {K : Hp → Prop} (hR : ∀ r, K (r) → emHV r = tgt Γ) : EG Γ mX12_puts 9 [(0, rf Γ x0), (1, .int x1), (2, .int x2), (3, .int x3), (4, .int x4)] [] h (L_X12_puts_9 h x0 x1 x2 x3 x4) K := by
  have q := x_loop (Γ := Γ) (M := mX12_puts) (pc := 9) (B := fun s : Hp × Int32 × Int32 => B_X12_puts_9 s.1 x0 x1 x2 s.2.1 s.2.2) (lvf := fun s => [(0, rf Γ x0), (1, .int x1), (2, .int x2), (3, .int s.2.1), (4, .int s.2.2)]) (hf := fun s => s.1) (Ky := K) (fun s => go_X12_puts_B9 hO s.1 x0 x1 x2 s.2.1 s.2.2 hx0 (fun _ _ _ => id) hR) (h, x3, x4)
  exact q
noncomputable def F_X12_puts (h : Hp) (x0 : Nat) (x1 : Int32) (x2 : Int32) : Option (Hp) :=
  (F_X12_takes h x0).bind (fun r1 => L_X12_puts_9 r1 x0 x1 x2 ((0 : Int32)) ((0 : Int32)))
set_option maxHeartbeats 4000000 in
set_option maxRecDepth 100000 in
theorem go_X12_puts {Γ : Cx} (hO : Ok Γ mX12_puts) (h : Hp) (x0 : Nat) (x1 : Int32) (x2 : Int32) (hx0 : Is x0 12) {K : Hp → Prop} (hR : ∀ r, K r → emHV r = tgt Γ) : EG Γ mX12_puts 0 [(0, rf Γ x0), (1, .int x1), (2, .int x2)] [] h (F_X12_puts h x0 x1 x2) K := by
  unfold F_X12_puts
  refine x_aload_n hO 0 rfl rfl dX12_puts_0 ?_
  refine y_HV (x_callV hO lv_RX12_283 hx0 vc_12 (by decide) (As := []) rfl (Nat.le_of_ble_eq_true rfl) (ok_X12_takes (cG Γ) h x0 hx0) dX12_puts_1 rfl (Nat.le_of_ble_eq_true rfl)) (fun r1 => ?_)
  refine x_iconst hO (v := 0) (by decide) dX12_puts_4 ?_
  refine x_istore_n hO rfl [(3, .int ((0 : Int32))), (0, rf Γ x0), (1, .int x1), (2, .int x2)] dX12_puts_5 (by decide) rfl ?_
  refine x_iconst hO (v := 0) (by decide) dX12_puts_6 ?_
  refine x_istore hO [(4, .int ((0 : Int32))), (3, .int ((0 : Int32))), (0, rf Γ x0), (1, .int x1), (2, .int x2)] dX12_puts_7 (by decide) rfl ?_
  exact x_sub [2, 3, 4, 1, 0] rfl (go_X12_puts_L9 hO r1 x0 x1 x2 ((0 : Int32)) ((0 : Int32)) hx0 hR)
theorem ok_X12_puts (G : Gl) (h : Hp) (x0 : Nat) (x1 : Int32) (x2 : Int32) (hx0 : Is x0 12) : CN G mX12_puts [.ref (gb G + x0), .int x1, .int x2] h ((F_X12_puts h x0 x1 x2).map (emHV)) := CN.fn pn_RX12 (Nat.le_of_ble_eq_true rfl) (fun Γ hG hO => by subst hG; exact go_X12_puts hO h x0 x1 x2 hx0 (fun _ q => q))
noncomputable def F_X12_read (h : Hp) (x0 : Nat) (x1 : Int32) (x2 : Int32) : Option (Hp × Int64) :=
  (F_X12_wrongPlace h x0 x1 x2).bind (fun r1 => if (hI (uI h x0 1 r1) x0 1) ≤ 0 then gd (ib ((((60 : Int32)) * x1) + x2) (LEN (GR x0 6))) (some ((uI h x0 1 r1, hL (uI h x0 1 r1) (GR x0 6) (nx ((((60 : Int32)) * x1) + x2))))) else some ((uI h x0 1 r1, (-1 : Int64))))
set_option maxHeartbeats 4000000 in
set_option maxRecDepth 100000 in
theorem go_X12_read {Γ : Cx} (hO : Ok Γ mX12_read) (h : Hp) (x0 : Nat) (x1 : Int32) (x2 : Int32) (hx0 : Is x0 12) {K : Hp × Int64 → Prop} (hR : ∀ r, K r → emHL r = tgt Γ) : EG Γ mX12_read 0 [(0, rf Γ x0), (1, .int x1), (2, .int x2)] [] h (F_X12_read h x0 x1 x2) K := by
  unfold F_X12_read
  refine x_aload_n hO 0 rfl rfl dX12_read_0 ?_
  refine x_aload_n hO 0 rfl rfl dX12_read_1 ?_
  refine x_iload_n hO 1 rfl rfl dX12_read_2 ?_
  refine x_iload_n hO 2 rfl rfl dX12_read_3 ?_
  refine y_PI (x_callV hO lv_RX12_120 hx0 vc_12 (by decide) (As := [.int x1, .int x2]) rfl (Nat.le_of_ble_eq_true rfl) (ok_X12_wrongPlace (cG Γ) h x0 x1 x2 hx0) dX12_read_4 rfl (Nat.le_of_ble_eq_true rfl)) (fun r1 => ?_)
  refine x_putI hO fl_RX12_107 hx0 dX12_read_7 ?_
  refine x_aload_n hO 0 rfl rfl dX12_read_10 ?_
  refine x_getI hO fl_RX12_107 hx0 dX12_read_11 ?_
  refine x_if_le hO (tg := 23) dX12_read_14 (by decide) ?_ ?_
  · refine x_aload_n hO 0 rfl rfl dX12_read_23 ?_
    refine x_getR hO fl_RX12_23 hx0 dX12_read_24 ?_
    refine x_bipush hO (v := 60) (by decide) dX12_read_27 ?_
    refine x_iload_n hO 1 rfl rfl dX12_read_29 ?_
    refine x_imul hO dX12_read_30 ?_
    refine x_iload_n hO 2 rfl rfl dX12_read_31 ?_
    refine x_iadd hO dX12_read_32 ?_
    refine x_lald hO (gr_12_6 hx0) dX12_read_33 ?_
    exact x_lret hO rfl dX12_read_34 (hR _)
  · refine x_ldc2 hO cn_RX12_128 dX12_read_17 ?_
    refine x_goto hO (tg := 34) dX12_read_20 (by decide) ?_
    exact x_lret hO rfl dX12_read_34 (hR _)
theorem ok_X12_read (G : Gl) (h : Hp) (x0 : Nat) (x1 : Int32) (x2 : Int32) (hx0 : Is x0 12) : CN G mX12_read [.ref (gb G + x0), .int x1, .int x2] h ((F_X12_read h x0 x1 x2).map (emHL)) := CN.fn pn_RX12 (Nat.le_of_ble_eq_true rfl) (fun Γ hG hO => by subst hG; exact go_X12_read hO h x0 x1 x2 hx0 (fun _ q => q))
noncomputable def F_X12_readsBy (h : Hp) (x0 : Nat) (x1 : Int32) (x2 : Int32) (x3 : Int32) : Option (Int32) :=
  (F_X12_reads h x0 x1 x2).bind (fun r1 => if x3 = 0 then if r1 ≤ ((9 : Int32)) then some ((r1 + ((9 : Int32))) - (r1 + ((9 : Int32))) / ((10 : Int32)) * ((10 : Int32))) else some ((-2 : Int32)) else if x3 = ((1 : Int32)) then if x2 = ((7 : Int32)) then some ((-2 : Int32)) else (F_X12_reads h x0 x1 (x2 + ((1 : Int32)))).bind (fun r3 => some r3) else if x3 = ((2 : Int32)) then (F_X12_placeOf h x0 x1).bind (fun r2 => if r2 = 0 then some ((-2 : Int32)) else some ((-1 : Int32))) else some r1)
set_option maxHeartbeats 4000000 in
set_option maxRecDepth 100000 in
theorem go_X12_readsBy {Γ : Cx} (hO : Ok Γ mX12_readsBy) (h : Hp) (x0 : Nat) (x1 : Int32) (x2 : Int32) (x3 : Int32) (hx0 : Is x0 12) {K : Int32 → Prop} (hR : ∀ r, K r → emPI h r = tgt Γ) : EG Γ mX12_readsBy 0 [(0, rf Γ x0), (1, .int x1), (2, .int x2), (3, .int x3)] [] h (F_X12_readsBy h x0 x1 x2 x3) K := by
  unfold F_X12_readsBy
  refine x_aload_n hO 0 rfl rfl dX12_readsBy_0 ?_
  refine x_iload_n hO 1 rfl rfl dX12_readsBy_1 ?_
  refine x_iload_n hO 2 rfl rfl dX12_readsBy_2 ?_
  refine y_PI (x_callV hO lv_RX12_155 hx0 vc_12 (by decide) (As := [.int x1, .int x2]) rfl (Nat.le_of_ble_eq_true rfl) (ok_X12_reads (cG Γ) h x0 x1 x2 hx0) dX12_readsBy_3 rfl (Nat.le_of_ble_eq_true rfl)) (fun r1 => ?_)
  refine x_istore hO [(4, .int r1), (0, rf Γ x0), (1, .int x1), (2, .int x2), (3, .int x3)] dX12_readsBy_6 (by decide) rfl ?_
  refine x_iload_n hO 4 rfl rfl dX12_readsBy_8 ?_
  refine x_if_ne hO (tg := 33) dX12_readsBy_9 (by decide) ?_ ?_
  · refine x_iload_n hO 4 rfl rfl dX12_readsBy_33 ?_
    refine x_iconst hO (v := 1) (by decide) dX12_readsBy_34 ?_
    refine x_icmp_ne hO (tg := 58) dX12_readsBy_35 (by decide) ?_ ?_
    · refine x_iload_n hO 4 rfl rfl dX12_readsBy_58 ?_
      refine x_iconst hO (v := 2) (by decide) dX12_readsBy_59 ?_
      refine x_icmp_ne hO (tg := 80) dX12_readsBy_60 (by decide) ?_ ?_
      · refine x_iload hO 0 rfl dX12_readsBy_80 ?_
        exact x_iret hO rfl dX12_readsBy_82 (hR _)
      · refine x_aload_n hO 1 rfl rfl dX12_readsBy_63 ?_
        refine x_iload_n hO 2 rfl rfl dX12_readsBy_64 ?_
        refine y_PI (x_callV hO lv_RX12_158 hx0 vc_12 (by decide) (As := [.int x1]) rfl (Nat.le_of_ble_eq_true rfl) (ok_X12_placeOf (cG Γ) h x0 x1 hx0) dX12_readsBy_65 rfl (Nat.le_of_ble_eq_true rfl)) (fun r2 => ?_)
        refine x_if_ne hO (tg := 76) dX12_readsBy_68 (by decide) ?_ ?_
        · refine x_iconst hO (v := -1) (by decide) dX12_readsBy_76 ?_
          refine x_goto hO (tg := 82) dX12_readsBy_77 (by decide) ?_
          exact x_iret hO rfl dX12_readsBy_82 (hR _)
        · refine x_bipush hO (v := -2) (by decide) dX12_readsBy_71 ?_
          refine x_goto hO (tg := 82) dX12_readsBy_73 (by decide) ?_
          exact x_iret hO rfl dX12_readsBy_82 (hR _)
    · refine x_iload_n hO 3 rfl rfl dX12_readsBy_38 ?_
      refine x_bipush hO (v := 7) (by decide) dX12_readsBy_39 ?_
      refine x_icmp_ne hO (tg := 49) dX12_readsBy_41 (by decide) ?_ ?_
      · refine x_aload_n hO 1 rfl rfl dX12_readsBy_49 ?_
        refine x_iload_n hO 2 rfl rfl dX12_readsBy_50 ?_
        refine x_iload_n hO 3 rfl rfl dX12_readsBy_51 ?_
        refine x_iconst hO (v := 1) (by decide) dX12_readsBy_52 ?_
        refine x_iadd hO dX12_readsBy_53 ?_
        refine y_PI (x_callV hO lv_RX12_155 hx0 vc_12 (by decide) (As := [.int x1, .int (x2 + ((1 : Int32)))]) rfl (Nat.le_of_ble_eq_true rfl) (ok_X12_reads (cG Γ) h x0 x1 (x2 + ((1 : Int32))) hx0) dX12_readsBy_54 rfl (Nat.le_of_ble_eq_true rfl)) (fun r3 => ?_)
        exact x_iret hO rfl dX12_readsBy_57 (hR _)
      · refine x_bipush hO (v := -2) (by decide) dX12_readsBy_44 ?_
        refine x_goto hO (tg := 57) dX12_readsBy_46 (by decide) ?_
        exact x_iret hO rfl dX12_readsBy_57 (hR _)
  · refine x_iload hO 0 rfl dX12_readsBy_12 ?_
    refine x_bipush hO (v := 9) (by decide) dX12_readsBy_14 ?_
    refine x_icmp_le hO (tg := 24) dX12_readsBy_16 (by decide) ?_ ?_
    · refine x_iload hO 0 rfl dX12_readsBy_24 ?_
      refine x_bipush hO (v := 9) (by decide) dX12_readsBy_26 ?_
      refine x_iadd hO dX12_readsBy_28 ?_
      refine x_bipush hO (v := 10) (by decide) dX12_readsBy_29 ?_
      refine x_iremc hO (by decide) dX12_readsBy_31 ?_
      exact x_iret hO rfl dX12_readsBy_32 (hR _)
    · refine x_bipush hO (v := -2) (by decide) dX12_readsBy_19 ?_
      refine x_goto hO (tg := 32) dX12_readsBy_21 (by decide) ?_
      exact x_iret hO rfl dX12_readsBy_32 (hR _)
theorem ok_X12_readsBy (G : Gl) (h : Hp) (x0 : Nat) (x1 : Int32) (x2 : Int32) (x3 : Int32) (hx0 : Is x0 12) : CN G mX12_readsBy [.ref (gb G + x0), .int x1, .int x2, .int x3] h ((F_X12_readsBy h x0 x1 x2 x3).map (emPI h)) := CN.fn pn_RX12 (Nat.le_of_ble_eq_true rfl) (fun Γ hG hO => by subst hG; exact go_X12_readsBy hO h x0 x1 x2 x3 hx0 (fun _ q => q))
noncomputable def F_X12_write (h : Hp) (x0 : Nat) (x1 : Int32) (x2 : Int32) (x3 : Int64) : Option (Hp × Int32) :=
  (F_X12_wrongPlace h x0 x1 x2).bind (fun r1 => if r1 = 0 then gd (ib x1 (LEN (GR x0 4))) ((F_X12_cutTo h x3 (hI h (GR x0 4) (nx x1))).bind (fun r3 => gd (ib ((((60 : Int32)) * x1) + x2) (LEN (GR x0 6))) ((F_X12_is (uL h (GR x0 6) (nx ((((60 : Int32)) * x1) + x2)) r3) x0 r1).bind (fun r4 => some ((r4.1, r4.2 &&& 1)))))) else (F_X12_is h x0 r1).bind (fun r2 => some ((r2.1, r2.2 &&& 1))))
set_option maxHeartbeats 4000000 in
set_option maxRecDepth 100000 in
theorem go_X12_write {Γ : Cx} (hO : Ok Γ mX12_write) (h : Hp) (x0 : Nat) (x1 : Int32) (x2 : Int32) (x3 : Int64) (hx0 : Is x0 12) {K : Hp × Int32 → Prop} (hR : ∀ r, K r → emHI r = tgt Γ) : EG Γ mX12_write 0 [(0, rf Γ x0), (1, .int x1), (2, .int x2), (3, .long x3)] [] h (F_X12_write h x0 x1 x2 x3) K := by
  unfold F_X12_write
  refine x_aload_n hO 0 rfl rfl dX12_write_0 ?_
  refine x_iload_n hO 1 rfl rfl dX12_write_1 ?_
  refine x_iload_n hO 2 rfl rfl dX12_write_2 ?_
  refine y_PI (x_callV hO lv_RX12_120 hx0 vc_12 (by decide) (As := [.int x1, .int x2]) rfl (Nat.le_of_ble_eq_true rfl) (ok_X12_wrongPlace (cG Γ) h x0 x1 x2 hx0) dX12_write_3 rfl (Nat.le_of_ble_eq_true rfl)) (fun r1 => ?_)
  refine x_istore hO [(5, .int r1), (0, rf Γ x0), (1, .int x1), (2, .int x2), (3, .long x3)] dX12_write_6 (by decide) rfl ?_
  refine x_iload hO 0 rfl dX12_write_8 ?_
  refine x_if_ne hO (tg := 34) dX12_write_10 (by decide) ?_ ?_
  · refine x_aload_n hO 1 rfl rfl dX12_write_34 ?_
    refine x_iload hO 0 rfl dX12_write_35 ?_
    refine y_HI (x_callV hO lv_RX12_117 hx0 vc_12 (by decide) (As := [.int r1]) rfl (Nat.le_of_ble_eq_true rfl) (ok_X12_is (cG Γ) h x0 r1 hx0) dX12_write_37 rfl (Nat.le_of_ble_eq_true rfl)) (fun r2 => ?_)
    exact x_zret hO rfl dX12_write_40 (hR _)
  · refine x_aload_n hO 1 rfl rfl dX12_write_13 ?_
    refine x_getR hO fl_RX12_23 hx0 dX12_write_14 ?_
    refine x_bipush hO (v := 60) (by decide) dX12_write_17 ?_
    refine x_iload_n hO 2 rfl rfl dX12_write_19 ?_
    refine x_imul hO dX12_write_20 ?_
    refine x_iload_n hO 3 rfl rfl dX12_write_21 ?_
    refine x_iadd hO dX12_write_22 ?_
    refine x_lload_n hO 4 rfl rfl dX12_write_23 ?_
    refine x_aload_n hO 1 rfl rfl dX12_write_24 ?_
    refine x_getR hO fl_RX12_17 hx0 dX12_write_25 ?_
    refine x_iload_n hO 2 rfl rfl dX12_write_28 ?_
    refine x_iald hO (gr_12_4 hx0) dX12_write_29 ?_
    refine y_PL (x_callS hO lt_RX12_124 (As := [.long x3, .int (hI h (GR x0 4) (nx x1))]) rfl (Nat.le_of_ble_eq_true rfl) (ok_X12_cutTo (cG Γ) h x3 (hI h (GR x0 4) (nx x1))) dX12_write_30 rfl (Nat.le_of_ble_eq_true rfl)) (fun r3 => ?_)
    refine x_last hO (gr_12_6 hx0) dX12_write_33 ?_
    refine x_aload_n hO 1 rfl rfl dX12_write_34 ?_
    refine x_iload hO 0 rfl dX12_write_35 ?_
    refine y_HI (x_callV hO lv_RX12_117 hx0 vc_12 (by decide) (As := [.int r1]) rfl (Nat.le_of_ble_eq_true rfl) (ok_X12_is (cG Γ) (uL h (GR x0 6) (nx ((((60 : Int32)) * x1) + x2)) r3) x0 r1 hx0) dX12_write_37 rfl (Nat.le_of_ble_eq_true rfl)) (fun r4 => ?_)
    exact x_zret hO rfl dX12_write_40 (hR _)
theorem ok_X12_write (G : Gl) (h : Hp) (x0 : Nat) (x1 : Int32) (x2 : Int32) (x3 : Int64) (hx0 : Is x0 12) : CN G mX12_write [.ref (gb G + x0), .int x1, .int x2, .long x3] h ((F_X12_write h x0 x1 x2 x3).map (emHI)) := CN.fn pn_RX12 (Nat.le_of_ble_eq_true rfl) (fun Γ hG hO => by subst hG; exact go_X12_write hO h x0 x1 x2 x3 hx0 (fun _ q => q))
noncomputable def J_X1_readHoles_25 (h : Hp) (x0 : Nat) (x1 : Int32) (x2 : Int32) : Option ((Hp × Int32 × Int32) ⊕ (Hp × Int32)) :=
  (F_X7_numberStands h (GR x0 0) ((0 : Int32)) ((12 : Int32))).bind (fun r1 => if r1.2 = 0 then some (.inr ((r1.1, (-1 : Int32)))) else (F_X7_numberHere r1.1 (GR x0 0)).bind (fun r2 => (F_X1_bitOfHole r1.1 r2).bind (fun r3 => if r3 = 0 then (F_X7_tell r1.1 (GR x0 0) ((4 : Int32))).bind (fun r4 => some (.inr ((r4.1, (-1 : Int32))))) else if (x1 &&& r3) = 0 then (F_X7_advance r1.1 (GR x0 0)).bind (fun r5 => some (.inl (r5, x1 ||| r3, x2 + (1 : Int32)))) else (F_X7_tell r1.1 (GR x0 0) ((4 : Int32))).bind (fun r6 => some (.inr ((r6.1, (-1 : Int32))))))))
set_option maxHeartbeats 4000000 in
set_option maxRecDepth 100000 in
theorem go_X1_readHoles_J25 {Γ : Cx} (hO : Ok Γ mX1_readHoles) (h : Hp) (x0 : Nat) (x1 : Int32) (x2 : Int32) (hx0 : Is x0 1) {K : (Hp × Int32 × Int32) ⊕ (Hp × Int32) → Prop} (hC : ∀ (h : Hp) (x1 : Int32) (x2 : Int32), K (.inl (h, x1, x2)) → EW Γ mX1_readHoles 4 [(0, rf Γ x0), (1, .int x1), (2, .int x2)] [] h) (hR : ∀ r, K (.inr r) → emHI r = tgt Γ) : EG Γ mX1_readHoles 25 [(0, rf Γ x0), (1, .int x1), (2, .int x2)] [] h (J_X1_readHoles_25 h x0 x1 x2) K := by
  unfold J_X1_readHoles_25
  refine x_aload_n hO 0 rfl rfl dX1_readHoles_25 ?_
  refine x_getR hO fl_RX1_12 hx0 dX1_readHoles_26 ?_
  refine x_iconst hO (v := 0) (by decide) dX1_readHoles_29 ?_
  refine x_bipush hO (v := 12) (by decide) dX1_readHoles_30 ?_
  refine y_HI (x_callV hO lv_RX1_99 (gr_1_0 hx0) vc_7 (by decide) (As := [.int ((0 : Int32)), .int ((12 : Int32))]) rfl (Nat.le_of_ble_eq_true rfl) (ok_X7_numberStands (cG Γ) h (GR x0 0) ((0 : Int32)) ((12 : Int32)) (gr_1_0 hx0)) dX1_readHoles_32 rfl (Nat.le_of_ble_eq_true rfl)) (fun r1 => ?_)
  refine x_if_ne hO (tg := 40) dX1_readHoles_35 (by decide) ?_ ?_
  · refine x_aload_n hO 0 rfl rfl dX1_readHoles_40 ?_
    refine x_getR hO fl_RX1_12 hx0 dX1_readHoles_41 ?_
    refine y_PI (x_callV hO lv_RX1_103 (gr_1_0 hx0) vc_7 (by decide) (As := []) rfl (Nat.le_of_ble_eq_true rfl) (ok_X7_numberHere (cG Γ) r1.1 (GR x0 0) (gr_1_0 hx0)) dX1_readHoles_44 rfl (Nat.le_of_ble_eq_true rfl)) (fun r2 => ?_)
    refine y_PI (x_callS hO lt_RX1_131 (As := [.int r2]) rfl (Nat.le_of_ble_eq_true rfl) (ok_X1_bitOfHole (cG Γ) r1.1 r2) dX1_readHoles_47 rfl (Nat.le_of_ble_eq_true rfl)) (fun r3 => ?_)
    refine x_istore_n hO rfl [(3, .int r3), (0, rf Γ x0), (1, .int x1), (2, .int x2)] dX1_readHoles_50 (by decide) rfl ?_
    refine x_iload_n hO 0 rfl rfl dX1_readHoles_51 ?_
    refine x_if_eq hO (tg := 61) dX1_readHoles_52 (by decide) ?_ ?_
    · refine x_aload_n hO 1 rfl rfl dX1_readHoles_61 ?_
      refine x_getR hO fl_RX1_12 hx0 dX1_readHoles_62 ?_
      refine x_iconst hO (v := 4) (by decide) dX1_readHoles_65 ?_
      refine y_HI (x_callV hO lv_RX1_70 (gr_1_0 hx0) vc_7 (by decide) (As := [.int ((4 : Int32))]) rfl (Nat.le_of_ble_eq_true rfl) (ok_X7_tell (cG Γ) r1.1 (GR x0 0) ((4 : Int32)) (gr_1_0 hx0)) dX1_readHoles_66 rfl (Nat.le_of_ble_eq_true rfl)) (fun r4 => ?_)
      refine x_pop_i hO dX1_readHoles_69 ?_
      refine x_iconst hO (v := -1) (by decide) dX1_readHoles_70 ?_
      exact x_iret hO rfl dX1_readHoles_71 (hR _)
    · refine x_iload_n hO 2 rfl rfl dX1_readHoles_55 ?_
      refine x_iload_n hO 0 rfl rfl dX1_readHoles_56 ?_
      refine x_iand hO dX1_readHoles_57 ?_
      refine x_if_eq hO (tg := 72) dX1_readHoles_58 (by decide) ?_ ?_
      · refine x_iload_n hO 2 rfl rfl dX1_readHoles_72 ?_
        refine x_iload_n hO 0 rfl rfl dX1_readHoles_73 ?_
        refine x_ior hO dX1_readHoles_74 ?_
        refine x_istore_n hO rfl [(1, .int (x1 ||| r3)), (3, .int r3), (0, rf Γ x0), (2, .int x2)] dX1_readHoles_75 (by decide) rfl ?_
        refine x_aload_n hO 2 rfl rfl dX1_readHoles_76 ?_
        refine x_getR hO fl_RX1_12 hx0 dX1_readHoles_77 ?_
        refine y_HV (x_callV hO lv_RX1_80 (gr_1_0 hx0) vc_7 (by decide) (As := []) rfl (Nat.le_of_ble_eq_true rfl) (ok_X7_advance (cG Γ) r1.1 (GR x0 0) (gr_1_0 hx0)) dX1_readHoles_80 rfl (Nat.le_of_ble_eq_true rfl)) (fun r5 => ?_)
        refine x_iinc hO 3 (v := 1) [(2, .int (x2 + (1 : Int32))), (1, .int (x1 ||| r3)), (3, .int r3), (0, rf Γ x0)] dX1_readHoles_83 rfl (by decide) (by decide) rfl ?_
        refine x_goto hO (tg := 4) dX1_readHoles_86 (by decide) ?_
        exact x_leafs [3, 1, 0] rfl (hC r5 (x1 ||| r3) (x2 + (1 : Int32)))
      · refine x_aload_n hO 1 rfl rfl dX1_readHoles_61 ?_
        refine x_getR hO fl_RX1_12 hx0 dX1_readHoles_62 ?_
        refine x_iconst hO (v := 4) (by decide) dX1_readHoles_65 ?_
        refine y_HI (x_callV hO lv_RX1_70 (gr_1_0 hx0) vc_7 (by decide) (As := [.int ((4 : Int32))]) rfl (Nat.le_of_ble_eq_true rfl) (ok_X7_tell (cG Γ) r1.1 (GR x0 0) ((4 : Int32)) (gr_1_0 hx0)) dX1_readHoles_66 rfl (Nat.le_of_ble_eq_true rfl)) (fun r6 => ?_)
        refine x_pop_i hO dX1_readHoles_69 ?_
        refine x_iconst hO (v := -1) (by decide) dX1_readHoles_70 ?_
        exact x_iret hO rfl dX1_readHoles_71 (hR _)
  · refine x_iconst hO (v := -1) (by decide) dX1_readHoles_38 ?_
    exact x_iret hO rfl dX1_readHoles_39 (hR _)
noncomputable def B_X1_readHoles_4 (h : Hp) (x0 : Nat) (x1 : Int32) (x2 : Int32) : Option ((Hp × Int32 × Int32) ⊕ (Hp × Int32)) :=
  if ((13 : Int32)) ≤ x2 then some (.inr ((h, x1))) else if x2 = 0 then J_X1_readHoles_25 h x0 x1 x2 else if (hI h (GR x0 0) 4) = ((2 : Int32)) then J_X1_readHoles_25 h x0 x1 x2 else some (.inr ((h, x1)))
noncomputable def L_X1_readHoles_4 (h : Hp) (x0 : Nat) (x1 : Int32) (x2 : Int32) : Option (Hp × Int32) := iterW (fun s : Hp × Int32 × Int32 => B_X1_readHoles_4 s.1 x0 s.2.1 s.2.2) (h, x1, x2)
set_option maxHeartbeats 4000000 in
set_option maxRecDepth 100000 in
theorem go_X1_readHoles_B4 {Γ : Cx} (hO : Ok Γ mX1_readHoles) (h : Hp) (x0 : Nat) (x1 : Int32) (x2 : Int32) (hx0 : Is x0 1) {K : (Hp × Int32 × Int32) ⊕ (Hp × Int32) → Prop} (hC : ∀ (h : Hp) (x1 : Int32) (x2 : Int32), K (.inl (h, x1, x2)) → EW Γ mX1_readHoles 4 [(0, rf Γ x0), (1, .int x1), (2, .int x2)] [] h) (hR : ∀ r, K (.inr r) → emHI r = tgt Γ) : EG Γ mX1_readHoles 4 [(0, rf Γ x0), (1, .int x1), (2, .int x2)] [] h (B_X1_readHoles_4 h x0 x1 x2) K := by
  unfold B_X1_readHoles_4
  refine x_iload_n hO 2 rfl rfl dX1_readHoles_4 ?_
  refine x_bipush hO (v := 13) (by decide) dX1_readHoles_5 ?_
  refine x_icmp_ge hO (tg := 89) dX1_readHoles_7 (by decide) ?_ ?_
  · refine x_iload_n hO 1 rfl rfl dX1_readHoles_89 ?_
    exact x_iret hO rfl dX1_readHoles_90 (hR _)
  · refine x_iload_n hO 2 rfl rfl dX1_readHoles_10 ?_
    refine x_if_eq hO (tg := 25) dX1_readHoles_11 (by decide) ?_ ?_
    · exact x_sub [0, 1, 2] rfl (go_X1_readHoles_J25 hO h x0 x1 x2 hx0 hC hR)
    · refine x_aload_n hO 0 rfl rfl dX1_readHoles_14 ?_
      refine x_getR hO fl_RX1_12 hx0 dX1_readHoles_15 ?_
      refine x_getI hO fl_RX1_121 (gr_1_0 hx0) dX1_readHoles_18 ?_
      refine x_iconst hO (v := 2) (by decide) dX1_readHoles_21 ?_
      refine x_icmp_ne hO (tg := 89) dX1_readHoles_22 (by decide) ?_ ?_
      · refine x_iload_n hO 1 rfl rfl dX1_readHoles_89 ?_
        exact x_iret hO rfl dX1_readHoles_90 (hR _)
      · exact x_sub [0, 1, 2] rfl (go_X1_readHoles_J25 hO h x0 x1 x2 hx0 hC hR)
set_option maxHeartbeats 4000000 in
set_option maxRecDepth 100000 in
theorem go_X1_readHoles_L4 {Γ : Cx} (hO : Ok Γ mX1_readHoles) (h : Hp) (x0 : Nat) (x1 : Int32) (x2 : Int32) (hx0 : Is x0 1) {K : Hp × Int32 → Prop} (hR : ∀ r, K (r) → emHI r = tgt Γ) : EG Γ mX1_readHoles 4 [(0, rf Γ x0), (1, .int x1), (2, .int x2)] [] h (L_X1_readHoles_4 h x0 x1 x2) K := by
  have q := x_loop (Γ := Γ) (M := mX1_readHoles) (pc := 4) (B := fun s : Hp × Int32 × Int32 => B_X1_readHoles_4 s.1 x0 s.2.1 s.2.2) (lvf := fun s => [(0, rf Γ x0), (1, .int s.2.1), (2, .int s.2.2)]) (hf := fun s => s.1) (Ky := K) (fun s => go_X1_readHoles_B4 hO s.1 x0 s.2.1 s.2.2 hx0 (fun _ _ _ => id) hR) (h, x1, x2)
  exact q
noncomputable def F_X1_readHoles (h : Hp) (x0 : Nat) : Option (Hp × Int32) :=
  L_X1_readHoles_4 h x0 ((0 : Int32)) ((0 : Int32))
set_option maxHeartbeats 4000000 in
set_option maxRecDepth 100000 in
theorem go_X1_readHoles {Γ : Cx} (hO : Ok Γ mX1_readHoles) (h : Hp) (x0 : Nat) (hx0 : Is x0 1) {K : Hp × Int32 → Prop} (hR : ∀ r, K r → emHI r = tgt Γ) : EG Γ mX1_readHoles 0 [(0, rf Γ x0)] [] h (F_X1_readHoles h x0) K := by
  unfold F_X1_readHoles
  refine x_iconst hO (v := 0) (by decide) dX1_readHoles_0 ?_
  refine x_istore_n hO rfl [(1, .int ((0 : Int32))), (0, rf Γ x0)] dX1_readHoles_1 (by decide) rfl ?_
  refine x_iconst hO (v := 0) (by decide) dX1_readHoles_2 ?_
  refine x_istore_n hO rfl [(2, .int ((0 : Int32))), (1, .int ((0 : Int32))), (0, rf Γ x0)] dX1_readHoles_3 (by decide) rfl ?_
  exact x_sub [2, 1, 0] rfl (go_X1_readHoles_L4 hO h x0 ((0 : Int32)) ((0 : Int32)) hx0 hR)
theorem ok_X1_readHoles (G : Gl) (h : Hp) (x0 : Nat) (hx0 : Is x0 1) : CN G mX1_readHoles [.ref (gb G + x0)] h ((F_X1_readHoles h x0).map (emHI)) := CN.fn pn_RX1 (Nat.le_of_ble_eq_true rfl) (fun Γ hG hO => by subst hG; exact go_X1_readHoles hO h x0 hx0 (fun _ q => q))
noncomputable def B_X2_addCard_19 (h : Hp) (x0 : Nat) (x1 : Nat) (x2 : Int32) (x3 : Int32) (x4 : Int32) (x5 : Int32) : Option ((Hp × Int32) ⊕ (Hp)) :=
  if ((8 : Int32)) ≤ x5 then some (.inr h) else gd (ib x5 (LEN x1)) ((F_X2_setHoles h x0 x4 x5 ((hL h x1 (nx x5)).toInt32)).bind (fun r1 => some (.inl (r1, x5 + (1 : Int32)))))
noncomputable def L_X2_addCard_19 (h : Hp) (x0 : Nat) (x1 : Nat) (x2 : Int32) (x3 : Int32) (x4 : Int32) (x5 : Int32) : Option (Hp) := iterW (fun s : Hp × Int32 => B_X2_addCard_19 s.1 x0 x1 x2 x3 x4 s.2) (h, x5)
set_option maxHeartbeats 4000000 in
set_option maxRecDepth 100000 in
theorem go_X2_addCard_B19 {Γ : Cx} (hO : Ok Γ mX2_addCard) (h : Hp) (x0 : Nat) (x1 : Nat) (x2 : Int32) (x3 : Int32) (x4 : Int32) (x5 : Int32) (hx0 : Is x0 2) (hx1 : Is x1 15) {K : (Hp × Int32) ⊕ (Hp) → Prop} (hC : ∀ (h : Hp) (x5 : Int32), K (.inl (h, x5)) → EW Γ mX2_addCard 19 [(0, rf Γ x0), (1, rf Γ x1), (2, .int x2), (3, .int x3), (4, .int x4), (5, .int x5)] [] h) (hE45 : ∀ (h : Hp), K (.inr h) → EW Γ mX2_addCard 45 [(0, rf Γ x0), (2, .int x2), (3, .int x3), (4, .int x4)] [] h) : EG Γ mX2_addCard 19 [(0, rf Γ x0), (1, rf Γ x1), (2, .int x2), (3, .int x3), (4, .int x4), (5, .int x5)] [] h (B_X2_addCard_19 h x0 x1 x2 x3 x4 x5) K := by
  unfold B_X2_addCard_19
  refine x_iload hO 5 rfl dX2_addCard_19 ?_
  refine x_bipush hO (v := 8) (by decide) dX2_addCard_21 ?_
  refine x_icmp_ge hO (tg := 45) dX2_addCard_23 (by decide) ?_ ?_
  · exact x_leafs [0, 2, 3, 4] rfl (hE45 h)
  · refine x_aload_n hO 0 rfl rfl dX2_addCard_26 ?_
    refine x_iload hO 4 rfl dX2_addCard_27 ?_
    refine x_iload hO 5 rfl dX2_addCard_29 ?_
    refine x_aload_n hO 1 rfl rfl dX2_addCard_31 ?_
    refine x_iload hO 5 rfl dX2_addCard_32 ?_
    refine x_lald hO hx1 dX2_addCard_34 ?_
    refine x_l2i hO dX2_addCard_35 ?_
    refine y_HV (x_callV hO lv_RX2_64 hx0 vc_2 (by decide) (As := [.int x4, .int x5, .int ((hL h x1 (nx x5)).toInt32)]) rfl (Nat.le_of_ble_eq_true rfl) (ok_X2_setHoles (cG Γ) h x0 x4 x5 ((hL h x1 (nx x5)).toInt32) hx0) dX2_addCard_36 rfl (Nat.le_of_ble_eq_true rfl)) (fun r1 => ?_)
    refine x_iinc hO 5 (v := 1) [(5, .int (x5 + (1 : Int32))), (0, rf Γ x0), (1, rf Γ x1), (2, .int x2), (3, .int x3), (4, .int x4)] dX2_addCard_39 rfl (by decide) (by decide) rfl ?_
    refine x_goto hO (tg := 19) dX2_addCard_42 (by decide) ?_
    exact x_leafs [1, 2, 3, 4, 5, 0] rfl (hC r1 (x5 + (1 : Int32)))
set_option maxHeartbeats 4000000 in
set_option maxRecDepth 100000 in
theorem go_X2_addCard_L19 {Γ : Cx} (hO : Ok Γ mX2_addCard) (h : Hp) (x0 : Nat) (x1 : Nat) (x2 : Int32) (x3 : Int32) (x4 : Int32) (x5 : Int32) (hx0 : Is x0 2) (hx1 : Is x1 15) {K : Hp → Prop} (hE45 : ∀ (h : Hp), K (h) → EW Γ mX2_addCard 45 [(0, rf Γ x0), (2, .int x2), (3, .int x3), (4, .int x4)] [] h) : EG Γ mX2_addCard 19 [(0, rf Γ x0), (1, rf Γ x1), (2, .int x2), (3, .int x3), (4, .int x4), (5, .int x5)] [] h (L_X2_addCard_19 h x0 x1 x2 x3 x4 x5) K := by
  have q := x_loop (Γ := Γ) (M := mX2_addCard) (pc := 19) (B := fun s : Hp × Int32 => B_X2_addCard_19 s.1 x0 x1 x2 x3 x4 s.2) (lvf := fun s => [(0, rf Γ x0), (1, rf Γ x1), (2, .int x2), (3, .int x3), (4, .int x4), (5, .int s.2)]) (hf := fun s => s.1) (Ky := K) (fun s => go_X2_addCard_B19 hO s.1 x0 x1 x2 x3 x4 s.2 hx0 hx1 (fun _ _ => id) hE45) (h, x5)
  exact q
noncomputable def F_X2_addCard (h : Hp) (x0 : Nat) (x1 : Nat) (x2 : Int32) (x3 : Int32) : Option (Hp × Int32) :=
  (L_X2_addCard_19 (uI h x0 0 ((hI h x0 0) + ((1 : Int32)))) x0 x1 x2 x3 (hI h x0 0) ((0 : Int32))).bind (fun e1 => gd (ib (hI h x0 0) (LEN (GR x0 4))) (gd (ib (hI h x0 0) (LEN (GR x0 5))) (gd (ib (hI h x0 0) (LEN (GR x0 6))) (gd (ib (hI h x0 0) (LEN (GR x0 7))) (bnd (uI (uI (uI (uI e1 (GR x0 4) (nx (hI h x0 0)) x2) (GR x0 5) (nx (hI h x0 0)) x3) (GR x0 6) (nx (hI h x0 0)) ((0 : Int32))) (GR x0 7) (nx (hI h x0 0)) (hI h x0 0)) (fun h2 => some ((h2, hI h x0 0))))))))
set_option maxHeartbeats 4000000 in
set_option maxRecDepth 100000 in
theorem go_X2_addCard {Γ : Cx} (hO : Ok Γ mX2_addCard) (h : Hp) (x0 : Nat) (x1 : Nat) (x2 : Int32) (x3 : Int32) (hx0 : Is x0 2) (hx1 : Is x1 15) {K : Hp × Int32 → Prop} (hR : ∀ r, K r → emHI r = tgt Γ) : EG Γ mX2_addCard 0 [(0, rf Γ x0), (1, rf Γ x1), (2, .int x2), (3, .int x3)] [] h (F_X2_addCard h x0 x1 x2 x3) K := by
  unfold F_X2_addCard
  refine x_aload_n hO 0 rfl rfl dX2_addCard_0 ?_
  refine x_getI hO fl_RX2_9 hx0 dX2_addCard_1 ?_
  refine x_istore hO [(4, .int (hI h x0 0)), (0, rf Γ x0), (1, rf Γ x1), (2, .int x2), (3, .int x3)] dX2_addCard_4 (by decide) rfl ?_
  refine x_aload_n hO 1 rfl rfl dX2_addCard_6 ?_
  refine x_dup_r hO dX2_addCard_7 ?_
  refine x_getI hO fl_RX2_9 hx0 dX2_addCard_8 ?_
  refine x_iconst hO (v := 1) (by decide) dX2_addCard_11 ?_
  refine x_iadd hO dX2_addCard_12 ?_
  refine x_putI hO fl_RX2_9 hx0 dX2_addCard_13 ?_
  refine x_iconst hO (v := 0) (by decide) dX2_addCard_16 ?_
  refine x_istore hO [(5, .int ((0 : Int32))), (4, .int (hI h x0 0)), (0, rf Γ x0), (1, rf Γ x1), (2, .int x2), (3, .int x3)] dX2_addCard_17 (by decide) rfl ?_
  refine x_bind (x_sub [2, 3, 4, 5, 1, 0] rfl (go_X2_addCard_L19 hO (uI h x0 0 ((hI h x0 0) + ((1 : Int32)))) x0 x1 x2 x3 (hI h x0 0) ((0 : Int32)) hx0 hx1 (fun y1_0 hx => ?_)))
  refine x_run (t := (gd (ib (hI h x0 0) (LEN (GR x0 4))) (gd (ib (hI h x0 0) (LEN (GR x0 5))) (gd (ib (hI h x0 0) (LEN (GR x0 6))) (gd (ib (hI h x0 0) (LEN (GR x0 7))) (bnd (uI (uI (uI (uI y1_0 (GR x0 4) (nx (hI h x0 0)) x2) (GR x0 5) (nx (hI h x0 0)) x3) (GR x0 6) (nx (hI h x0 0)) ((0 : Int32))) (GR x0 7) (nx (hI h x0 0)) (hI h x0 0)) (fun h2 => some ((h2, hI h x0 0))))))) : Option (Hp × Int32))) hx ?_
  refine x_aload_n hO 0 rfl rfl dX2_addCard_45 ?_
  refine x_getR hO fl_RX2_25 hx0 dX2_addCard_46 ?_
  refine x_iload hO 3 rfl dX2_addCard_49 ?_
  refine x_iload_n hO 1 rfl rfl dX2_addCard_51 ?_
  refine x_iast hO (gr_2_4 hx0) dX2_addCard_52 ?_
  refine x_aload_n hO 0 rfl rfl dX2_addCard_53 ?_
  refine x_getR hO fl_RX2_28 hx0 dX2_addCard_54 ?_
  refine x_iload hO 3 rfl dX2_addCard_57 ?_
  refine x_iload_n hO 2 rfl rfl dX2_addCard_59 ?_
  refine x_iast hO (gr_2_5 hx0) dX2_addCard_60 ?_
  refine x_aload_n hO 0 rfl rfl dX2_addCard_61 ?_
  refine x_getR hO fl_RX2_31 hx0 dX2_addCard_62 ?_
  refine x_iload hO 3 rfl dX2_addCard_65 ?_
  refine x_iconst hO (v := 0) (by decide) dX2_addCard_67 ?_
  refine x_iast hO (gr_2_6 hx0) dX2_addCard_68 ?_
  refine x_aload_n hO 0 rfl rfl dX2_addCard_69 ?_
  refine x_getR hO fl_RX2_34 hx0 dX2_addCard_70 ?_
  refine x_iload hO 3 rfl dX2_addCard_73 ?_
  refine x_iload hO 3 rfl dX2_addCard_75 ?_
  refine x_iast hO (gr_2_7 hx0) dX2_addCard_77 ?_
  refine x_bnd ?_
  generalize uI (uI (uI (uI y1_0 (GR x0 4) (nx (hI h x0 0)) x2) (GR x0 5) (nx (hI h x0 0)) x3) (GR x0 6) (nx (hI h x0 0)) ((0 : Int32))) (GR x0 7) (nx (hI h x0 0)) (hI h x0 0) = h2
  refine x_iload hO 3 rfl dX2_addCard_78 ?_
  exact x_iret hO rfl dX2_addCard_80 (hR _)
theorem ok_X2_addCard (G : Gl) (h : Hp) (x0 : Nat) (x1 : Nat) (x2 : Int32) (x3 : Int32) (hx0 : Is x0 2) (hx1 : Is x1 15) : CN G mX2_addCard [.ref (gb G + x0), .ref (gb G + x1), .int x2, .int x3] h ((F_X2_addCard h x0 x1 x2 x3).map (emHI)) := CN.fn pn_RX2 (Nat.le_of_ble_eq_true rfl) (fun Γ hG hO => by subst hG; exact go_X2_addCard hO h x0 x1 x2 x3 hx0 hx1 (fun _ q => q))
