noncomputable def F_X12_lies (h : Hp) (x0 : Nat) (x1 : Int32) : Option (Hp × Int32) :=
  if 0 ≤ x1 then gd (ib ((0 : Int32)) (LEN (GR x0 0))) (if x1 < (hI h (GR x0 0) (nx ((0 : Int32)))) then gd (ib (((338 : Int32)) + x1) (LEN (GR x0 0))) ((F_X12_gives h x0 (hI h (GR x0 0) (nx (((338 : Int32)) + x1)))).bind (fun r1 => some ((r1.1, r1.2)))) else (F_X12_refuse h x0 ((6 : Int32))).bind (fun r2 => some ((r2.1, r2.2)))) else (F_X12_refuse h x0 ((1 : Int32))).bind (fun r3 => some ((r3.1, r3.2)))
set_option maxHeartbeats 4000000 in
set_option maxRecDepth 100000 in
theorem go_X12_lies {Γ : Cx} (hO : Ok Γ mX12_lies) (h : Hp) (x0 : Nat) (x1 : Int32) (hx0 : Is x0 12) {K : Hp × Int32 → Prop} (hR : ∀ r, K r → emHI r = tgt Γ) : EG Γ mX12_lies 0 [(0, rf Γ x0), (1, .int x1)] [] h (F_X12_lies h x0 x1) K := by
  unfold F_X12_lies
  refine x_iload_n hO 1 rfl rfl dX12_lies_0 ?_
  refine x_if_ge hO (tg := 12) dX12_lies_1 (by decide) ?_ ?_
  · refine x_iload_n hO 1 rfl rfl dX12_lies_12 ?_
    refine x_aload_n hO 0 rfl rfl dX12_lies_13 ?_
    refine x_getR hO fl_RX12_7 hx0 dX12_lies_14 ?_
    refine x_iconst hO (v := 0) (by decide) dX12_lies_17 ?_
    refine x_iald hO (gr_12_0 hx0) dX12_lies_18 ?_
    refine x_icmp_lt hO (tg := 31) dX12_lies_19 (by decide) ?_ ?_
    · refine x_aload_n hO 0 rfl rfl dX12_lies_31 ?_
      refine x_aload_n hO 0 rfl rfl dX12_lies_32 ?_
      refine x_getR hO fl_RX12_7 hx0 dX12_lies_33 ?_
      refine x_sipush hO (v := 338) (by decide) dX12_lies_36 ?_
      refine x_iload_n hO 1 rfl rfl dX12_lies_39 ?_
      refine x_iadd hO dX12_lies_40 ?_
      refine x_iald hO (gr_12_0 hx0) dX12_lies_41 ?_
      refine y_HI (x_callV hO lv_RX12_146 hx0 vc_12 (by decide) (As := [.int (hI h (GR x0 0) (nx (((338 : Int32)) + x1)))]) rfl (Nat.le_of_ble_eq_true rfl) (ok_X12_gives (cG Γ) h x0 (hI h (GR x0 0) (nx (((338 : Int32)) + x1))) hx0) dX12_lies_42 rfl (Nat.le_of_ble_eq_true rfl)) (fun r1 => ?_)
      exact x_iret hO rfl dX12_lies_45 (hR _)
    · refine x_aload_n hO 0 rfl rfl dX12_lies_22 ?_
      refine x_bipush hO (v := 6) (by decide) dX12_lies_23 ?_
      refine y_HI (x_callV hO lv_RX12_137 hx0 vc_12 (by decide) (As := [.int ((6 : Int32))]) rfl (Nat.le_of_ble_eq_true rfl) (ok_X12_refuse (cG Γ) h x0 ((6 : Int32)) hx0) dX12_lies_25 rfl (Nat.le_of_ble_eq_true rfl)) (fun r2 => ?_)
      refine x_goto hO (tg := 45) dX12_lies_28 (by decide) ?_
      exact x_iret hO rfl dX12_lies_45 (hR _)
  · refine x_aload_n hO 0 rfl rfl dX12_lies_4 ?_
    refine x_iconst hO (v := 1) (by decide) dX12_lies_5 ?_
    refine y_HI (x_callV hO lv_RX12_137 hx0 vc_12 (by decide) (As := [.int ((1 : Int32))]) rfl (Nat.le_of_ble_eq_true rfl) (ok_X12_refuse (cG Γ) h x0 ((1 : Int32)) hx0) dX12_lies_6 rfl (Nat.le_of_ble_eq_true rfl)) (fun r3 => ?_)
    refine x_goto hO (tg := 45) dX12_lies_9 (by decide) ?_
    exact x_iret hO rfl dX12_lies_45 (hR _)
theorem ok_X12_lies (G : Gl) (h : Hp) (x0 : Nat) (x1 : Int32) (hx0 : Is x0 12) : CN G mX12_lies [.ref (gb G + x0), .int x1] h ((F_X12_lies h x0 x1).map (emHI)) := CN.fn pn_RX12 (Nat.le_of_ble_eq_true rfl) (fun Γ hG hO => by subst hG; exact go_X12_lies hO h x0 x1 hx0 (fun _ q => q))
noncomputable def B_X12_list_54 (h : Hp) (x0 : Nat) (x1 : Int32) (x2 : Int32) (x3 : Int32) (x4 : Int32) (x5 : Int32) : Option ((Int32 × Int32) ⊕ (Int32)) :=
  gd (ib ((0 : Int32)) (LEN (GR x0 0))) (if (hI h (GR x0 0) (nx ((0 : Int32)))) ≤ x5 then some (.inr x4) else (F_X12_ofCard h x0 x5 ((10 : Int32))).bind (fun r1 => if (r1 + x2) ≤ x1 then some (.inl (x4 ||| ((0 : Int32)), x5 + (1 : Int32))) else some (.inl (x4 ||| (((1 : Int32)) <<< (x5 &&& 31)), x5 + (1 : Int32)))))
noncomputable def L_X12_list_54 (h : Hp) (x0 : Nat) (x1 : Int32) (x2 : Int32) (x3 : Int32) (x4 : Int32) (x5 : Int32) : Option (Int32) := iterW (fun s : Int32 × Int32 => B_X12_list_54 h x0 x1 x2 x3 s.1 s.2) (x4, x5)
set_option maxHeartbeats 4000000 in
set_option maxRecDepth 100000 in
theorem go_X12_list_B54 {Γ : Cx} (hO : Ok Γ mX12_list) (h : Hp) (x0 : Nat) (x1 : Int32) (x2 : Int32) (x3 : Int32) (x4 : Int32) (x5 : Int32) (hx0 : Is x0 12) {K : (Int32 × Int32) ⊕ (Int32) → Prop} (hC : ∀ (x4 : Int32) (x5 : Int32), K (.inl (x4, x5)) → EW Γ mX12_list 54 [(0, rf Γ x0), (1, .int x1), (2, .int x2), (3, .int x3), (4, .int x4), (5, .int x5)] [] h) (hE98 : ∀ (x4 : Int32), K (.inr x4) → EW Γ mX12_list 98 [(0, rf Γ x0), (3, .int x3), (4, .int x4)] [] h) : EG Γ mX12_list 54 [(0, rf Γ x0), (1, .int x1), (2, .int x2), (3, .int x3), (4, .int x4), (5, .int x5)] [] h (B_X12_list_54 h x0 x1 x2 x3 x4 x5) K := by
  unfold B_X12_list_54
  refine x_iload hO 5 rfl dX12_list_54 ?_
  refine x_aload_n hO 0 rfl rfl dX12_list_56 ?_
  refine x_getR hO fl_RX12_7 hx0 dX12_list_57 ?_
  refine x_iconst hO (v := 0) (by decide) dX12_list_60 ?_
  refine x_iald hO (gr_12_0 hx0) dX12_list_61 ?_
  refine x_icmp_ge hO (tg := 98) dX12_list_62 (by decide) ?_ ?_
  · exact x_leafs [0, 3, 4] rfl (hE98 x4)
  · refine x_iload hO 4 rfl dX12_list_65 ?_
    refine x_aload_n hO 0 rfl rfl dX12_list_67 ?_
    refine x_iload hO 5 rfl dX12_list_68 ?_
    refine x_bipush hO (v := 10) (by decide) dX12_list_70 ?_
    refine y_PI (x_callV hO lv_RX12_130 hx0 vc_12 (by decide) (As := [.int x5, .int ((10 : Int32))]) rfl (Nat.le_of_ble_eq_true rfl) (ok_X12_ofCard (cG Γ) h x0 x5 ((10 : Int32)) hx0) dX12_list_72 rfl (Nat.le_of_ble_eq_true rfl)) (fun r1 => ?_)
    refine x_iload_n hO 2 rfl rfl dX12_list_75 ?_
    refine x_iadd hO dX12_list_76 ?_
    refine x_iload_n hO 1 rfl rfl dX12_list_77 ?_
    refine x_icmp_le hO (tg := 88) dX12_list_78 (by decide) ?_ ?_
    · refine x_iconst hO (v := 0) (by decide) dX12_list_88 ?_
      refine x_ior hO dX12_list_89 ?_
      refine x_istore hO [(4, .int (x4 ||| ((0 : Int32)))), (0, rf Γ x0), (1, .int x1), (2, .int x2), (3, .int x3), (5, .int x5)] dX12_list_90 (by decide) rfl ?_
      refine x_iinc hO 5 (v := 1) [(5, .int (x5 + (1 : Int32))), (4, .int (x4 ||| ((0 : Int32)))), (0, rf Γ x0), (1, .int x1), (2, .int x2), (3, .int x3)] dX12_list_92 rfl (by decide) (by decide) rfl ?_
      refine x_goto hO (tg := 54) dX12_list_95 (by decide) ?_
      exact x_leafs [2, 3, 4, 5, 1, 0] rfl (hC (x4 ||| ((0 : Int32))) (x5 + (1 : Int32)))
    · refine x_iconst hO (v := 1) (by decide) dX12_list_81 ?_
      refine x_iload hO 5 rfl dX12_list_82 ?_
      refine x_ishl hO dX12_list_84 ?_
      refine x_goto hO (tg := 89) dX12_list_85 (by decide) ?_
      refine x_ior hO dX12_list_89 ?_
      refine x_istore hO [(4, .int (x4 ||| (((1 : Int32)) <<< (x5 &&& 31)))), (0, rf Γ x0), (1, .int x1), (2, .int x2), (3, .int x3), (5, .int x5)] dX12_list_90 (by decide) rfl ?_
      refine x_iinc hO 5 (v := 1) [(5, .int (x5 + (1 : Int32))), (4, .int (x4 ||| (((1 : Int32)) <<< (x5 &&& 31)))), (0, rf Γ x0), (1, .int x1), (2, .int x2), (3, .int x3)] dX12_list_92 rfl (by decide) (by decide) rfl ?_
      refine x_goto hO (tg := 54) dX12_list_95 (by decide) ?_
      exact x_leafs [2, 3, 4, 5, 1, 0] rfl (hC (x4 ||| (((1 : Int32)) <<< (x5 &&& 31))) (x5 + (1 : Int32)))
set_option maxHeartbeats 4000000 in
set_option maxRecDepth 100000 in
theorem go_X12_list_L54 {Γ : Cx} (hO : Ok Γ mX12_list) (h : Hp) (x0 : Nat) (x1 : Int32) (x2 : Int32) (x3 : Int32) (x4 : Int32) (x5 : Int32) (hx0 : Is x0 12) {K : Int32 → Prop} (hE98 : ∀ (x4 : Int32), K (x4) → EW Γ mX12_list 98 [(0, rf Γ x0), (3, .int x3), (4, .int x4)] [] h) : EG Γ mX12_list 54 [(0, rf Γ x0), (1, .int x1), (2, .int x2), (3, .int x3), (4, .int x4), (5, .int x5)] [] h (L_X12_list_54 h x0 x1 x2 x3 x4 x5) K := by
  have q := x_loop (Γ := Γ) (M := mX12_list) (pc := 54) (B := fun s : Int32 × Int32 => B_X12_list_54 h x0 x1 x2 x3 s.1 s.2) (lvf := fun s => [(0, rf Γ x0), (1, .int x1), (2, .int x2), (3, .int x3), (4, .int s.1), (5, .int s.2)]) (hf := fun s => h) (Ky := K) (fun s => go_X12_list_B54 hO h x0 x1 x2 x3 s.1 s.2 hx0 (fun _ _ => id) hE98) (x4, x5)
  exact q
noncomputable def F_X12_list (h : Hp) (x0 : Nat) (x1 : Int32) (x2 : Int32) (x3 : Int32) : Option (Hp × Int32) :=
  if x1 < ((1 : Int32)) then (F_X12_refuse h x0 ((1 : Int32))).bind (fun r1 => some ((r1.1, r1.2))) else if ((20 : Int32)) < x1 then (F_X12_refuse h x0 ((1 : Int32))).bind (fun r2 => some ((r2.1, r2.2))) else if x2 < 0 then (F_X12_refuse h x0 ((1 : Int32))).bind (fun r3 => some ((r3.1, r3.2))) else if ((20 : Int32)) < x2 then (F_X12_refuse h x0 ((1 : Int32))).bind (fun r4 => some ((r4.1, r4.2))) else if x3 < 0 then (F_X12_refuse h x0 ((1 : Int32))).bind (fun r5 => some ((r5.1, r5.2))) else if x3 ≤ ((1 : Int32)) then if x2 ≤ x1 then (L_X12_list_54 h x0 x1 x2 x3 ((0 : Int32)) ((0 : Int32))).bind (fun e6 => if x3 = 0 then (F_X12_bits h e6).bind (fun r8 => (F_X12_gives h x0 r8).bind (fun r9 => some ((r9.1, r9.2)))) else (F_X12_gives h x0 e6).bind (fun r7 => some ((r7.1, r7.2)))) else (F_X12_refuse h x0 ((6 : Int32))).bind (fun r10 => some ((r10.1, r10.2))) else (F_X12_refuse h x0 ((1 : Int32))).bind (fun r11 => some ((r11.1, r11.2)))
set_option maxHeartbeats 4000000 in
set_option maxRecDepth 100000 in
theorem go_X12_list {Γ : Cx} (hO : Ok Γ mX12_list) (h : Hp) (x0 : Nat) (x1 : Int32) (x2 : Int32) (x3 : Int32) (hx0 : Is x0 12) {K : Hp × Int32 → Prop} (hR : ∀ r, K r → emHI r = tgt Γ) : EG Γ mX12_list 0 [(0, rf Γ x0), (1, .int x1), (2, .int x2), (3, .int x3)] [] h (F_X12_list h x0 x1 x2 x3) K := by
  unfold F_X12_list
  refine x_iload_n hO 1 rfl rfl dX12_list_0 ?_
  refine x_iconst hO (v := 1) (by decide) dX12_list_1 ?_
  refine x_icmp_lt hO (tg := 30) dX12_list_2 (by decide) ?_ ?_
  · refine x_aload_n hO 0 rfl rfl dX12_list_30 ?_
    refine x_iconst hO (v := 1) (by decide) dX12_list_31 ?_
    refine y_HI (x_callV hO lv_RX12_137 hx0 vc_12 (by decide) (As := [.int ((1 : Int32))]) rfl (Nat.le_of_ble_eq_true rfl) (ok_X12_refuse (cG Γ) h x0 ((1 : Int32)) hx0) dX12_list_32 rfl (Nat.le_of_ble_eq_true rfl)) (fun r1 => ?_)
    exact x_iret hO rfl dX12_list_35 (hR _)
  · refine x_iload_n hO 1 rfl rfl dX12_list_5 ?_
    refine x_bipush hO (v := 20) (by decide) dX12_list_6 ?_
    refine x_icmp_gt hO (tg := 30) dX12_list_8 (by decide) ?_ ?_
    · refine x_aload_n hO 0 rfl rfl dX12_list_30 ?_
      refine x_iconst hO (v := 1) (by decide) dX12_list_31 ?_
      refine y_HI (x_callV hO lv_RX12_137 hx0 vc_12 (by decide) (As := [.int ((1 : Int32))]) rfl (Nat.le_of_ble_eq_true rfl) (ok_X12_refuse (cG Γ) h x0 ((1 : Int32)) hx0) dX12_list_32 rfl (Nat.le_of_ble_eq_true rfl)) (fun r2 => ?_)
      exact x_iret hO rfl dX12_list_35 (hR _)
    · refine x_iload_n hO 2 rfl rfl dX12_list_11 ?_
      refine x_if_lt hO (tg := 30) dX12_list_12 (by decide) ?_ ?_
      · refine x_aload_n hO 0 rfl rfl dX12_list_30 ?_
        refine x_iconst hO (v := 1) (by decide) dX12_list_31 ?_
        refine y_HI (x_callV hO lv_RX12_137 hx0 vc_12 (by decide) (As := [.int ((1 : Int32))]) rfl (Nat.le_of_ble_eq_true rfl) (ok_X12_refuse (cG Γ) h x0 ((1 : Int32)) hx0) dX12_list_32 rfl (Nat.le_of_ble_eq_true rfl)) (fun r3 => ?_)
        exact x_iret hO rfl dX12_list_35 (hR _)
      · refine x_iload_n hO 2 rfl rfl dX12_list_15 ?_
        refine x_bipush hO (v := 20) (by decide) dX12_list_16 ?_
        refine x_icmp_gt hO (tg := 30) dX12_list_18 (by decide) ?_ ?_
        · refine x_aload_n hO 0 rfl rfl dX12_list_30 ?_
          refine x_iconst hO (v := 1) (by decide) dX12_list_31 ?_
          refine y_HI (x_callV hO lv_RX12_137 hx0 vc_12 (by decide) (As := [.int ((1 : Int32))]) rfl (Nat.le_of_ble_eq_true rfl) (ok_X12_refuse (cG Γ) h x0 ((1 : Int32)) hx0) dX12_list_32 rfl (Nat.le_of_ble_eq_true rfl)) (fun r4 => ?_)
          exact x_iret hO rfl dX12_list_35 (hR _)
        · refine x_iload_n hO 3 rfl rfl dX12_list_21 ?_
          refine x_if_lt hO (tg := 30) dX12_list_22 (by decide) ?_ ?_
          · refine x_aload_n hO 0 rfl rfl dX12_list_30 ?_
            refine x_iconst hO (v := 1) (by decide) dX12_list_31 ?_
            refine y_HI (x_callV hO lv_RX12_137 hx0 vc_12 (by decide) (As := [.int ((1 : Int32))]) rfl (Nat.le_of_ble_eq_true rfl) (ok_X12_refuse (cG Γ) h x0 ((1 : Int32)) hx0) dX12_list_32 rfl (Nat.le_of_ble_eq_true rfl)) (fun r5 => ?_)
            exact x_iret hO rfl dX12_list_35 (hR _)
          · refine x_iload_n hO 3 rfl rfl dX12_list_25 ?_
            refine x_iconst hO (v := 1) (by decide) dX12_list_26 ?_
            refine x_icmp_le hO (tg := 36) dX12_list_27 (by decide) ?_ ?_
            · refine x_iload_n hO 2 rfl rfl dX12_list_36 ?_
              refine x_iload_n hO 1 rfl rfl dX12_list_37 ?_
              refine x_icmp_le hO (tg := 48) dX12_list_38 (by decide) ?_ ?_
              · refine x_iconst hO (v := 0) (by decide) dX12_list_48 ?_
                refine x_istore hO [(4, .int ((0 : Int32))), (0, rf Γ x0), (1, .int x1), (2, .int x2), (3, .int x3)] dX12_list_49 (by decide) rfl ?_
                refine x_iconst hO (v := 0) (by decide) dX12_list_51 ?_
                refine x_istore hO [(5, .int ((0 : Int32))), (4, .int ((0 : Int32))), (0, rf Γ x0), (1, .int x1), (2, .int x2), (3, .int x3)] dX12_list_52 (by decide) rfl ?_
                refine x_bind (x_sub [2, 3, 4, 5, 1, 0] rfl (go_X12_list_L54 hO h x0 x1 x2 x3 ((0 : Int32)) ((0 : Int32)) hx0 (fun y6_0 hx => ?_)))
                refine x_run (t := (if x3 = 0 then (F_X12_bits h y6_0).bind (fun r8 => (F_X12_gives h x0 r8).bind (fun r9 => some ((r9.1, r9.2)))) else (F_X12_gives h x0 y6_0).bind (fun r7 => some ((r7.1, r7.2))) : Option (Hp × Int32))) hx ?_
                refine x_aload_n hO 0 rfl rfl dX12_list_98 ?_
                refine x_iload_n hO 1 rfl rfl dX12_list_99 ?_
                refine x_if_ne hO (tg := 111) dX12_list_100 (by decide) ?_ ?_
                · refine x_iload hO 2 rfl dX12_list_111 ?_
                  refine y_HI (x_callV hO lv_RX12_146 hx0 vc_12 (by decide) (As := [.int y6_0]) rfl (Nat.le_of_ble_eq_true rfl) (ok_X12_gives (cG Γ) h x0 y6_0 hx0) dX12_list_113 rfl (Nat.le_of_ble_eq_true rfl)) (fun r7 => ?_)
                  exact x_iret hO rfl dX12_list_116 (hR _)
                · refine x_iload hO 2 rfl dX12_list_103 ?_
                  refine y_PI (x_callS hO lt_RX12_133 (As := [.int y6_0]) rfl (Nat.le_of_ble_eq_true rfl) (ok_X12_bits (cG Γ) h y6_0) dX12_list_105 rfl (Nat.le_of_ble_eq_true rfl)) (fun r8 => ?_)
                  refine x_goto hO (tg := 113) dX12_list_108 (by decide) ?_
                  refine y_HI (x_callV hO lv_RX12_146 hx0 vc_12 (by decide) (As := [.int r8]) rfl (Nat.le_of_ble_eq_true rfl) (ok_X12_gives (cG Γ) h x0 r8 hx0) dX12_list_113 rfl (Nat.le_of_ble_eq_true rfl)) (fun r9 => ?_)
                  exact x_iret hO rfl dX12_list_116 (hR _)
              · refine x_aload_n hO 0 rfl rfl dX12_list_41 ?_
                refine x_bipush hO (v := 6) (by decide) dX12_list_42 ?_
                refine y_HI (x_callV hO lv_RX12_137 hx0 vc_12 (by decide) (As := [.int ((6 : Int32))]) rfl (Nat.le_of_ble_eq_true rfl) (ok_X12_refuse (cG Γ) h x0 ((6 : Int32)) hx0) dX12_list_44 rfl (Nat.le_of_ble_eq_true rfl)) (fun r10 => ?_)
                exact x_iret hO rfl dX12_list_47 (hR _)
            · refine x_aload_n hO 0 rfl rfl dX12_list_30 ?_
              refine x_iconst hO (v := 1) (by decide) dX12_list_31 ?_
              refine y_HI (x_callV hO lv_RX12_137 hx0 vc_12 (by decide) (As := [.int ((1 : Int32))]) rfl (Nat.le_of_ble_eq_true rfl) (ok_X12_refuse (cG Γ) h x0 ((1 : Int32)) hx0) dX12_list_32 rfl (Nat.le_of_ble_eq_true rfl)) (fun r11 => ?_)
              exact x_iret hO rfl dX12_list_35 (hR _)
theorem ok_X12_list (G : Gl) (h : Hp) (x0 : Nat) (x1 : Int32) (x2 : Int32) (x3 : Int32) (hx0 : Is x0 12) : CN G mX12_list [.ref (gb G + x0), .int x1, .int x2, .int x3] h ((F_X12_list h x0 x1 x2 x3).map (emHI)) := CN.fn pn_RX12 (Nat.le_of_ble_eq_true rfl) (fun Γ hG hO => by subst hG; exact go_X12_list hO h x0 x1 x2 x3 hx0 (fun _ q => q))
noncomputable def F_X12_many (h : Hp) (x0 : Nat) (x1 : Int32) : Option (Hp × Int32) :=
  if x1 < 0 then (F_X12_refuse h x0 ((1 : Int32))).bind (fun r1 => some ((r1.1, r1.2))) else if x1 ≤ ((3 : Int32)) then if x1 = 0 then gd (ib ((0 : Int32)) (LEN (GR x0 0))) ((F_X12_gives h x0 (hI h (GR x0 0) (nx ((0 : Int32))))).bind (fun r5 => some ((r5.1, r5.2)))) else if x1 = ((1 : Int32)) then gd (ib ((2 : Int32)) (LEN (GR x0 0))) ((F_X12_gives h x0 (hI h (GR x0 0) (nx ((2 : Int32))))).bind (fun r4 => some ((r4.1, r4.2)))) else if x1 = ((2 : Int32)) then gd (ib ((3 : Int32)) (LEN (GR x0 0))) ((F_X12_gives h x0 (hI h (GR x0 0) (nx ((3 : Int32))))).bind (fun r3 => some ((r3.1, r3.2)))) else gd (ib ((1 : Int32)) (LEN (GR x0 0))) ((F_X12_gives h x0 (hI h (GR x0 0) (nx ((1 : Int32))))).bind (fun r2 => some ((r2.1, r2.2)))) else (F_X12_refuse h x0 ((1 : Int32))).bind (fun r6 => some ((r6.1, r6.2)))
set_option maxHeartbeats 4000000 in
set_option maxRecDepth 100000 in
theorem go_X12_many {Γ : Cx} (hO : Ok Γ mX12_many) (h : Hp) (x0 : Nat) (x1 : Int32) (hx0 : Is x0 12) {K : Hp × Int32 → Prop} (hR : ∀ r, K r → emHI r = tgt Γ) : EG Γ mX12_many 0 [(0, rf Γ x0), (1, .int x1)] [] h (F_X12_many h x0 x1) K := by
  unfold F_X12_many
  refine x_iload_n hO 1 rfl rfl dX12_many_0 ?_
  refine x_if_lt hO (tg := 9) dX12_many_1 (by decide) ?_ ?_
  · refine x_aload_n hO 0 rfl rfl dX12_many_9 ?_
    refine x_iconst hO (v := 1) (by decide) dX12_many_10 ?_
    refine y_HI (x_callV hO lv_RX12_137 hx0 vc_12 (by decide) (As := [.int ((1 : Int32))]) rfl (Nat.le_of_ble_eq_true rfl) (ok_X12_refuse (cG Γ) h x0 ((1 : Int32)) hx0) dX12_many_11 rfl (Nat.le_of_ble_eq_true rfl)) (fun r1 => ?_)
    refine x_goto hO (tg := 53) dX12_many_14 (by decide) ?_
    exact x_iret hO rfl dX12_many_53 (hR _)
  · refine x_iload_n hO 1 rfl rfl dX12_many_4 ?_
    refine x_iconst hO (v := 3) (by decide) dX12_many_5 ?_
    refine x_icmp_le hO (tg := 17) dX12_many_6 (by decide) ?_ ?_
    · refine x_aload_n hO 0 rfl rfl dX12_many_17 ?_
      refine x_aload_n hO 0 rfl rfl dX12_many_18 ?_
      refine x_getR hO fl_RX12_7 hx0 dX12_many_19 ?_
      refine x_iload_n hO 1 rfl rfl dX12_many_22 ?_
      refine x_if_ne hO (tg := 30) dX12_many_23 (by decide) ?_ ?_
      · refine x_iload_n hO 1 rfl rfl dX12_many_30 ?_
        refine x_iconst hO (v := 1) (by decide) dX12_many_31 ?_
        refine x_icmp_ne hO (tg := 39) dX12_many_32 (by decide) ?_ ?_
        · refine x_iload_n hO 1 rfl rfl dX12_many_39 ?_
          refine x_iconst hO (v := 2) (by decide) dX12_many_40 ?_
          refine x_icmp_ne hO (tg := 48) dX12_many_41 (by decide) ?_ ?_
          · refine x_iconst hO (v := 1) (by decide) dX12_many_48 ?_
            refine x_iald hO (gr_12_0 hx0) dX12_many_49 ?_
            refine y_HI (x_callV hO lv_RX12_146 hx0 vc_12 (by decide) (As := [.int (hI h (GR x0 0) (nx ((1 : Int32))))]) rfl (Nat.le_of_ble_eq_true rfl) (ok_X12_gives (cG Γ) h x0 (hI h (GR x0 0) (nx ((1 : Int32)))) hx0) dX12_many_50 rfl (Nat.le_of_ble_eq_true rfl)) (fun r2 => ?_)
            exact x_iret hO rfl dX12_many_53 (hR _)
          · refine x_iconst hO (v := 3) (by decide) dX12_many_44 ?_
            refine x_goto hO (tg := 49) dX12_many_45 (by decide) ?_
            refine x_iald hO (gr_12_0 hx0) dX12_many_49 ?_
            refine y_HI (x_callV hO lv_RX12_146 hx0 vc_12 (by decide) (As := [.int (hI h (GR x0 0) (nx ((3 : Int32))))]) rfl (Nat.le_of_ble_eq_true rfl) (ok_X12_gives (cG Γ) h x0 (hI h (GR x0 0) (nx ((3 : Int32)))) hx0) dX12_many_50 rfl (Nat.le_of_ble_eq_true rfl)) (fun r3 => ?_)
            exact x_iret hO rfl dX12_many_53 (hR _)
        · refine x_iconst hO (v := 2) (by decide) dX12_many_35 ?_
          refine x_goto hO (tg := 49) dX12_many_36 (by decide) ?_
          refine x_iald hO (gr_12_0 hx0) dX12_many_49 ?_
          refine y_HI (x_callV hO lv_RX12_146 hx0 vc_12 (by decide) (As := [.int (hI h (GR x0 0) (nx ((2 : Int32))))]) rfl (Nat.le_of_ble_eq_true rfl) (ok_X12_gives (cG Γ) h x0 (hI h (GR x0 0) (nx ((2 : Int32)))) hx0) dX12_many_50 rfl (Nat.le_of_ble_eq_true rfl)) (fun r4 => ?_)
          exact x_iret hO rfl dX12_many_53 (hR _)
      · refine x_iconst hO (v := 0) (by decide) dX12_many_26 ?_
        refine x_goto hO (tg := 49) dX12_many_27 (by decide) ?_
        refine x_iald hO (gr_12_0 hx0) dX12_many_49 ?_
        refine y_HI (x_callV hO lv_RX12_146 hx0 vc_12 (by decide) (As := [.int (hI h (GR x0 0) (nx ((0 : Int32))))]) rfl (Nat.le_of_ble_eq_true rfl) (ok_X12_gives (cG Γ) h x0 (hI h (GR x0 0) (nx ((0 : Int32)))) hx0) dX12_many_50 rfl (Nat.le_of_ble_eq_true rfl)) (fun r5 => ?_)
        exact x_iret hO rfl dX12_many_53 (hR _)
    · refine x_aload_n hO 0 rfl rfl dX12_many_9 ?_
      refine x_iconst hO (v := 1) (by decide) dX12_many_10 ?_
      refine y_HI (x_callV hO lv_RX12_137 hx0 vc_12 (by decide) (As := [.int ((1 : Int32))]) rfl (Nat.le_of_ble_eq_true rfl) (ok_X12_refuse (cG Γ) h x0 ((1 : Int32)) hx0) dX12_many_11 rfl (Nat.le_of_ble_eq_true rfl)) (fun r6 => ?_)
      refine x_goto hO (tg := 53) dX12_many_14 (by decide) ?_
      exact x_iret hO rfl dX12_many_53 (hR _)
theorem ok_X12_many (G : Gl) (h : Hp) (x0 : Nat) (x1 : Int32) (hx0 : Is x0 12) : CN G mX12_many [.ref (gb G + x0), .int x1] h ((F_X12_many h x0 x1).map (emHI)) := CN.fn pn_RX12 (Nat.le_of_ble_eq_true rfl) (fun Γ hG hO => by subst hG; exact go_X12_many hO h x0 x1 hx0 (fun _ q => q))
noncomputable def F_X12_mark (h : Hp) (x0 : Nat) : Option (Hp × Int32) :=
  if (hI h x0 51) = ((3 : Int32)) then (F_X12_refuse h x0 ((4 : Int32))).bind (fun r3 => some ((r3.1, r3.2))) else (F_X12_copies (uI h x0 51 ((hI h x0 51) + ((1 : Int32)))) x0 ((0 : Int32)) (((800 : Int32)) * (hI (uI h x0 51 ((hI h x0 51) + ((1 : Int32)))) x0 51))).bind (fun r1 => (F_X12_gives r1 x0 (hI r1 x0 51)).bind (fun r2 => some ((r2.1, r2.2))))
set_option maxHeartbeats 4000000 in
set_option maxRecDepth 100000 in
theorem go_X12_mark {Γ : Cx} (hO : Ok Γ mX12_mark) (h : Hp) (x0 : Nat) (hx0 : Is x0 12) {K : Hp × Int32 → Prop} (hR : ∀ r, K r → emHI r = tgt Γ) : EG Γ mX12_mark 0 [(0, rf Γ x0)] [] h (F_X12_mark h x0) K := by
  unfold F_X12_mark
  refine x_aload_n hO 0 rfl rfl dX12_mark_0 ?_
  refine x_getI hO fl_RX12_403 hx0 dX12_mark_1 ?_
  refine x_iconst hO (v := 3) (by decide) dX12_mark_4 ?_
  refine x_icmp_ne hO (tg := 14) dX12_mark_5 (by decide) ?_ ?_
  · refine x_aload_n hO 0 rfl rfl dX12_mark_14 ?_
    refine x_dup_r hO dX12_mark_15 ?_
    refine x_getI hO fl_RX12_403 hx0 dX12_mark_16 ?_
    refine x_iconst hO (v := 1) (by decide) dX12_mark_19 ?_
    refine x_iadd hO dX12_mark_20 ?_
    refine x_putI hO fl_RX12_403 hx0 dX12_mark_21 ?_
    refine x_aload_n hO 0 rfl rfl dX12_mark_24 ?_
    refine x_iconst hO (v := 0) (by decide) dX12_mark_25 ?_
    refine x_sipush hO (v := 800) (by decide) dX12_mark_26 ?_
    refine x_aload_n hO 0 rfl rfl dX12_mark_29 ?_
    refine x_getI hO fl_RX12_403 hx0 dX12_mark_30 ?_
    refine x_imul hO dX12_mark_33 ?_
    refine y_HV (x_callV hO lv_RX12_406 hx0 vc_12 (by decide) (As := [.int ((0 : Int32)), .int (((800 : Int32)) * (hI (uI h x0 51 ((hI h x0 51) + ((1 : Int32)))) x0 51))]) rfl (Nat.le_of_ble_eq_true rfl) (ok_X12_copies (cG Γ) (uI h x0 51 ((hI h x0 51) + ((1 : Int32)))) x0 ((0 : Int32)) (((800 : Int32)) * (hI (uI h x0 51 ((hI h x0 51) + ((1 : Int32)))) x0 51)) hx0) dX12_mark_34 rfl (Nat.le_of_ble_eq_true rfl)) (fun r1 => ?_)
    refine x_aload_n hO 0 rfl rfl dX12_mark_37 ?_
    refine x_aload_n hO 0 rfl rfl dX12_mark_38 ?_
    refine x_getI hO fl_RX12_403 hx0 dX12_mark_39 ?_
    refine y_HI (x_callV hO lv_RX12_146 hx0 vc_12 (by decide) (As := [.int (hI r1 x0 51)]) rfl (Nat.le_of_ble_eq_true rfl) (ok_X12_gives (cG Γ) r1 x0 (hI r1 x0 51) hx0) dX12_mark_42 rfl (Nat.le_of_ble_eq_true rfl)) (fun r2 => ?_)
    exact x_iret hO rfl dX12_mark_45 (hR _)
  · refine x_aload_n hO 0 rfl rfl dX12_mark_8 ?_
    refine x_iconst hO (v := 4) (by decide) dX12_mark_9 ?_
    refine y_HI (x_callV hO lv_RX12_137 hx0 vc_12 (by decide) (As := [.int ((4 : Int32))]) rfl (Nat.le_of_ble_eq_true rfl) (ok_X12_refuse (cG Γ) h x0 ((4 : Int32)) hx0) dX12_mark_10 rfl (Nat.le_of_ble_eq_true rfl)) (fun r3 => ?_)
    exact x_iret hO rfl dX12_mark_13 (hR _)
theorem ok_X12_mark (G : Gl) (h : Hp) (x0 : Nat) (hx0 : Is x0 12) : CN G mX12_mark [.ref (gb G + x0)] h ((F_X12_mark h x0).map (emHI)) := CN.fn pn_RX12 (Nat.le_of_ble_eq_true rfl) (fun Γ hG hO => by subst hG; exact go_X12_mark hO h x0 hx0 (fun _ q => q))
noncomputable def F_X12_mean (h : Hp) (x0 : Nat) (x1 : Int32) (x2 : Int32) : Option (Hp × Int32) :=
  (F_X12_isMean h x0 x1).bind (fun r1 => if r1 = 0 then (F_X12_refuse h x0 ((1 : Int32))).bind (fun r2 => some ((r2.1, r2.2))) else if x2 < 0 then (F_X12_refuse h x0 ((1 : Int32))).bind (fun r3 => some ((r3.1, r3.2))) else if x2 ≤ ((1 : Int32)) then gd (ib ((((372 : Int32)) + (((2 : Int32)) * x1)) + x2) (LEN (GR x0 0))) ((F_X12_gives h x0 (hI h (GR x0 0) (nx ((((372 : Int32)) + (((2 : Int32)) * x1)) + x2)))).bind (fun r4 => some ((r4.1, r4.2)))) else (F_X12_refuse h x0 ((1 : Int32))).bind (fun r5 => some ((r5.1, r5.2))))
set_option maxHeartbeats 4000000 in
set_option maxRecDepth 100000 in
theorem go_X12_mean {Γ : Cx} (hO : Ok Γ mX12_mean) (h : Hp) (x0 : Nat) (x1 : Int32) (x2 : Int32) (hx0 : Is x0 12) {K : Hp × Int32 → Prop} (hR : ∀ r, K r → emHI r = tgt Γ) : EG Γ mX12_mean 0 [(0, rf Γ x0), (1, .int x1), (2, .int x2)] [] h (F_X12_mean h x0 x1 x2) K := by
  unfold F_X12_mean
  refine x_aload_n hO 0 rfl rfl dX12_mean_0 ?_
  refine x_iload_n hO 1 rfl rfl dX12_mean_1 ?_
  refine y_PI (x_callV hO lv_RX12_274 hx0 vc_12 (by decide) (As := [.int x1]) rfl (Nat.le_of_ble_eq_true rfl) (ok_X12_isMean (cG Γ) h x0 x1 hx0) dX12_mean_2 rfl (Nat.le_of_ble_eq_true rfl)) (fun r1 => ?_)
  refine x_if_eq hO (tg := 17) dX12_mean_5 (by decide) ?_ ?_
  · refine x_aload_n hO 0 rfl rfl dX12_mean_17 ?_
    refine x_iconst hO (v := 1) (by decide) dX12_mean_18 ?_
    refine y_HI (x_callV hO lv_RX12_137 hx0 vc_12 (by decide) (As := [.int ((1 : Int32))]) rfl (Nat.le_of_ble_eq_true rfl) (ok_X12_refuse (cG Γ) h x0 ((1 : Int32)) hx0) dX12_mean_19 rfl (Nat.le_of_ble_eq_true rfl)) (fun r2 => ?_)
    refine x_goto hO (tg := 43) dX12_mean_22 (by decide) ?_
    exact x_iret hO rfl dX12_mean_43 (hR _)
  · refine x_iload_n hO 2 rfl rfl dX12_mean_8 ?_
    refine x_if_lt hO (tg := 17) dX12_mean_9 (by decide) ?_ ?_
    · refine x_aload_n hO 0 rfl rfl dX12_mean_17 ?_
      refine x_iconst hO (v := 1) (by decide) dX12_mean_18 ?_
      refine y_HI (x_callV hO lv_RX12_137 hx0 vc_12 (by decide) (As := [.int ((1 : Int32))]) rfl (Nat.le_of_ble_eq_true rfl) (ok_X12_refuse (cG Γ) h x0 ((1 : Int32)) hx0) dX12_mean_19 rfl (Nat.le_of_ble_eq_true rfl)) (fun r3 => ?_)
      refine x_goto hO (tg := 43) dX12_mean_22 (by decide) ?_
      exact x_iret hO rfl dX12_mean_43 (hR _)
    · refine x_iload_n hO 2 rfl rfl dX12_mean_12 ?_
      refine x_iconst hO (v := 1) (by decide) dX12_mean_13 ?_
      refine x_icmp_le hO (tg := 25) dX12_mean_14 (by decide) ?_ ?_
      · refine x_aload_n hO 0 rfl rfl dX12_mean_25 ?_
        refine x_aload_n hO 0 rfl rfl dX12_mean_26 ?_
        refine x_getR hO fl_RX12_7 hx0 dX12_mean_27 ?_
        refine x_sipush hO (v := 372) (by decide) dX12_mean_30 ?_
        refine x_iconst hO (v := 2) (by decide) dX12_mean_33 ?_
        refine x_iload_n hO 1 rfl rfl dX12_mean_34 ?_
        refine x_imul hO dX12_mean_35 ?_
        refine x_iadd hO dX12_mean_36 ?_
        refine x_iload_n hO 2 rfl rfl dX12_mean_37 ?_
        refine x_iadd hO dX12_mean_38 ?_
        refine x_iald hO (gr_12_0 hx0) dX12_mean_39 ?_
        refine y_HI (x_callV hO lv_RX12_146 hx0 vc_12 (by decide) (As := [.int (hI h (GR x0 0) (nx ((((372 : Int32)) + (((2 : Int32)) * x1)) + x2)))]) rfl (Nat.le_of_ble_eq_true rfl) (ok_X12_gives (cG Γ) h x0 (hI h (GR x0 0) (nx ((((372 : Int32)) + (((2 : Int32)) * x1)) + x2))) hx0) dX12_mean_40 rfl (Nat.le_of_ble_eq_true rfl)) (fun r4 => ?_)
        exact x_iret hO rfl dX12_mean_43 (hR _)
      · refine x_aload_n hO 0 rfl rfl dX12_mean_17 ?_
        refine x_iconst hO (v := 1) (by decide) dX12_mean_18 ?_
        refine y_HI (x_callV hO lv_RX12_137 hx0 vc_12 (by decide) (As := [.int ((1 : Int32))]) rfl (Nat.le_of_ble_eq_true rfl) (ok_X12_refuse (cG Γ) h x0 ((1 : Int32)) hx0) dX12_mean_19 rfl (Nat.le_of_ble_eq_true rfl)) (fun r5 => ?_)
        refine x_goto hO (tg := 43) dX12_mean_22 (by decide) ?_
        exact x_iret hO rfl dX12_mean_43 (hR _)
theorem ok_X12_mean (G : Gl) (h : Hp) (x0 : Nat) (x1 : Int32) (x2 : Int32) (hx0 : Is x0 12) : CN G mX12_mean [.ref (gb G + x0), .int x1, .int x2] h ((F_X12_mean h x0 x1 x2).map (emHI)) := CN.fn pn_RX12 (Nat.le_of_ble_eq_true rfl) (fun Γ hG hO => by subst hG; exact go_X12_mean hO h x0 x1 x2 hx0 (fun _ q => q))
noncomputable def F_X12_meaning (h : Hp) (x0 : Nat) (x1 : Int32) (x2 : Int32) (x3 : Int32) : Option (Hp × Int32) :=
  (F_X12_isCard h x0 x1).bind (fun r1 => if r1 = 0 then (F_X12_refuse h x0 ((1 : Int32))).bind (fun r2 => some ((r2.1, r2.2))) else (F_X12_isColumn h x2).bind (fun r3 => if r3 = 0 then (F_X12_refuse h x0 ((1 : Int32))).bind (fun r4 => some ((r4.1, r4.2))) else (F_X12_isCode h x0 x3).bind (fun r5 => if r5 = 0 then (F_X12_refuse h x0 ((1 : Int32))).bind (fun r10 => some ((r10.1, r10.2))) else (F_X12_ofCard h x0 x1 x2).bind (fun r6 => (F_X12_meaningOf h x0 r6 x3).bind (fun r7 => if r7 = ((-1 : Int32)) then (F_X12_refuse h x0 ((6 : Int32))).bind (fun r9 => some ((r9.1, r9.2))) else (F_X12_gives h x0 r7).bind (fun r8 => some ((r8.1, r8.2))))))))
set_option maxHeartbeats 4000000 in
set_option maxRecDepth 100000 in
theorem go_X12_meaning {Γ : Cx} (hO : Ok Γ mX12_meaning) (h : Hp) (x0 : Nat) (x1 : Int32) (x2 : Int32) (x3 : Int32) (hx0 : Is x0 12) {K : Hp × Int32 → Prop} (hR : ∀ r, K r → emHI r = tgt Γ) : EG Γ mX12_meaning 0 [(0, rf Γ x0), (1, .int x1), (2, .int x2), (3, .int x3)] [] h (F_X12_meaning h x0 x1 x2 x3) K := by
  unfold F_X12_meaning
  refine x_aload_n hO 0 rfl rfl dX12_meaning_0 ?_
  refine x_iload_n hO 1 rfl rfl dX12_meaning_1 ?_
  refine y_PI (x_callV hO lv_RX12_149 hx0 vc_12 (by decide) (As := [.int x1]) rfl (Nat.le_of_ble_eq_true rfl) (ok_X12_isCard (cG Γ) h x0 x1 hx0) dX12_meaning_2 rfl (Nat.le_of_ble_eq_true rfl)) (fun r1 => ?_)
  refine x_if_eq hO (tg := 23) dX12_meaning_5 (by decide) ?_ ?_
  · refine x_aload_n hO 0 rfl rfl dX12_meaning_23 ?_
    refine x_iconst hO (v := 1) (by decide) dX12_meaning_24 ?_
    refine y_HI (x_callV hO lv_RX12_137 hx0 vc_12 (by decide) (As := [.int ((1 : Int32))]) rfl (Nat.le_of_ble_eq_true rfl) (ok_X12_refuse (cG Γ) h x0 ((1 : Int32)) hx0) dX12_meaning_25 rfl (Nat.le_of_ble_eq_true rfl)) (fun r2 => ?_)
    exact x_iret hO rfl dX12_meaning_28 (hR _)
  · refine x_iload_n hO 2 rfl rfl dX12_meaning_8 ?_
    refine y_PI (x_callS hO lt_RX12_152 (As := [.int x2]) rfl (Nat.le_of_ble_eq_true rfl) (ok_X12_isColumn (cG Γ) h x2) dX12_meaning_9 rfl (Nat.le_of_ble_eq_true rfl)) (fun r3 => ?_)
    refine x_if_eq hO (tg := 23) dX12_meaning_12 (by decide) ?_ ?_
    · refine x_aload_n hO 0 rfl rfl dX12_meaning_23 ?_
      refine x_iconst hO (v := 1) (by decide) dX12_meaning_24 ?_
      refine y_HI (x_callV hO lv_RX12_137 hx0 vc_12 (by decide) (As := [.int ((1 : Int32))]) rfl (Nat.le_of_ble_eq_true rfl) (ok_X12_refuse (cG Γ) h x0 ((1 : Int32)) hx0) dX12_meaning_25 rfl (Nat.le_of_ble_eq_true rfl)) (fun r4 => ?_)
      exact x_iret hO rfl dX12_meaning_28 (hR _)
    · refine x_aload_n hO 0 rfl rfl dX12_meaning_15 ?_
      refine x_iload_n hO 3 rfl rfl dX12_meaning_16 ?_
      refine y_PI (x_callV hO lv_RX12_271 hx0 vc_12 (by decide) (As := [.int x3]) rfl (Nat.le_of_ble_eq_true rfl) (ok_X12_isCode (cG Γ) h x0 x3 hx0) dX12_meaning_17 rfl (Nat.le_of_ble_eq_true rfl)) (fun r5 => ?_)
      refine x_if_ne hO (tg := 29) dX12_meaning_20 (by decide) ?_ ?_
      · refine x_aload_n hO 0 rfl rfl dX12_meaning_29 ?_
        refine x_aload_n hO 0 rfl rfl dX12_meaning_30 ?_
        refine x_iload_n hO 1 rfl rfl dX12_meaning_31 ?_
        refine x_iload_n hO 2 rfl rfl dX12_meaning_32 ?_
        refine y_PI (x_callV hO lv_RX12_130 hx0 vc_12 (by decide) (As := [.int x1, .int x2]) rfl (Nat.le_of_ble_eq_true rfl) (ok_X12_ofCard (cG Γ) h x0 x1 x2 hx0) dX12_meaning_33 rfl (Nat.le_of_ble_eq_true rfl)) (fun r6 => ?_)
        refine x_iload_n hO 3 rfl rfl dX12_meaning_36 ?_
        refine y_PI (x_callV hO lv_RX12_397 hx0 vc_12 (by decide) (As := [.int r6, .int x3]) rfl (Nat.le_of_ble_eq_true rfl) (ok_X12_meaningOf (cG Γ) h x0 r6 x3 hx0) dX12_meaning_37 rfl (Nat.le_of_ble_eq_true rfl)) (fun r7 => ?_)
        refine x_istore hO [(4, .int r7), (0, rf Γ x0), (1, .int x1), (2, .int x2), (3, .int x3)] dX12_meaning_40 (by decide) rfl ?_
        refine x_iload hO 0 rfl dX12_meaning_42 ?_
        refine x_iconst hO (v := -1) (by decide) dX12_meaning_44 ?_
        refine x_icmp_ne hO (tg := 57) dX12_meaning_45 (by decide) ?_ ?_
        · refine x_aload_n hO 1 rfl rfl dX12_meaning_57 ?_
          refine x_iload hO 0 rfl dX12_meaning_58 ?_
          refine y_HI (x_callV hO lv_RX12_146 hx0 vc_12 (by decide) (As := [.int r7]) rfl (Nat.le_of_ble_eq_true rfl) (ok_X12_gives (cG Γ) h x0 r7 hx0) dX12_meaning_60 rfl (Nat.le_of_ble_eq_true rfl)) (fun r8 => ?_)
          exact x_iret hO rfl dX12_meaning_63 (hR _)
        · refine x_aload_n hO 1 rfl rfl dX12_meaning_48 ?_
          refine x_bipush hO (v := 6) (by decide) dX12_meaning_49 ?_
          refine y_HI (x_callV hO lv_RX12_137 hx0 vc_12 (by decide) (As := [.int ((6 : Int32))]) rfl (Nat.le_of_ble_eq_true rfl) (ok_X12_refuse (cG Γ) h x0 ((6 : Int32)) hx0) dX12_meaning_51 rfl (Nat.le_of_ble_eq_true rfl)) (fun r9 => ?_)
          refine x_goto hO (tg := 63) dX12_meaning_54 (by decide) ?_
          exact x_iret hO rfl dX12_meaning_63 (hR _)
      · refine x_aload_n hO 0 rfl rfl dX12_meaning_23 ?_
        refine x_iconst hO (v := 1) (by decide) dX12_meaning_24 ?_
        refine y_HI (x_callV hO lv_RX12_137 hx0 vc_12 (by decide) (As := [.int ((1 : Int32))]) rfl (Nat.le_of_ble_eq_true rfl) (ok_X12_refuse (cG Γ) h x0 ((1 : Int32)) hx0) dX12_meaning_25 rfl (Nat.le_of_ble_eq_true rfl)) (fun r10 => ?_)
        exact x_iret hO rfl dX12_meaning_28 (hR _)
theorem ok_X12_meaning (G : Gl) (h : Hp) (x0 : Nat) (x1 : Int32) (x2 : Int32) (x3 : Int32) (hx0 : Is x0 12) : CN G mX12_meaning [.ref (gb G + x0), .int x1, .int x2, .int x3] h ((F_X12_meaning h x0 x1 x2 x3).map (emHI)) := CN.fn pn_RX12 (Nat.le_of_ble_eq_true rfl) (fun Γ hG hO => by subst hG; exact go_X12_meaning hO h x0 x1 x2 x3 hx0 (fun _ q => q))
noncomputable def F_X12_misread (h : Hp) (x0 : Nat) (x1 : Int32) : Option (Hp × Int32) :=
  if x1 < 0 then (F_X12_refuse h x0 ((1 : Int32))).bind (fun r1 => some ((r1.1, r1.2))) else if x1 ≤ ((4 : Int32)) then if (hI h x0 42) = ((-1 : Int32)) then (F_X12_refuse h x0 ((6 : Int32))).bind (fun r2 => some ((r2.1, r2.2))) else if x1 ≤ (((2 : Int32)) * (hI h x0 42)) then if x1 = 0 then (F_X12_gives h x0 (hI h x0 43)).bind (fun r5 => some ((r5.1, r5.2))) else if (x1 - x1 / ((2 : Int32)) * ((2 : Int32))) = ((1 : Int32)) then gd (ib (x1 / ((2 : Int32))) (LEN (GR x0 40))) ((F_X12_gives h x0 (hI h (GR x0 40) (nx (x1 / ((2 : Int32)))))).bind (fun r4 => some ((r4.1, r4.2)))) else gd (ib ((x1 / ((2 : Int32))) - ((1 : Int32))) (LEN (GR x0 41))) ((F_X12_gives h x0 (hI h (GR x0 41) (nx ((x1 / ((2 : Int32))) - ((1 : Int32)))))).bind (fun r3 => some ((r3.1, r3.2)))) else (F_X12_refuse h x0 ((6 : Int32))).bind (fun r6 => some ((r6.1, r6.2))) else (F_X12_refuse h x0 ((1 : Int32))).bind (fun r7 => some ((r7.1, r7.2)))
set_option maxHeartbeats 4000000 in
set_option maxRecDepth 100000 in
theorem go_X12_misread {Γ : Cx} (hO : Ok Γ mX12_misread) (h : Hp) (x0 : Nat) (x1 : Int32) (hx0 : Is x0 12) {K : Hp × Int32 → Prop} (hR : ∀ r, K r → emHI r = tgt Γ) : EG Γ mX12_misread 0 [(0, rf Γ x0), (1, .int x1)] [] h (F_X12_misread h x0 x1) K := by
  unfold F_X12_misread
  refine x_iload_n hO 1 rfl rfl dX12_misread_0 ?_
  refine x_if_lt hO (tg := 9) dX12_misread_1 (by decide) ?_ ?_
  · refine x_aload_n hO 0 rfl rfl dX12_misread_9 ?_
    refine x_iconst hO (v := 1) (by decide) dX12_misread_10 ?_
    refine y_HI (x_callV hO lv_RX12_137 hx0 vc_12 (by decide) (As := [.int ((1 : Int32))]) rfl (Nat.le_of_ble_eq_true rfl) (ok_X12_refuse (cG Γ) h x0 ((1 : Int32)) hx0) dX12_misread_11 rfl (Nat.le_of_ble_eq_true rfl)) (fun r1 => ?_)
    exact x_iret hO rfl dX12_misread_14 (hR _)
  · refine x_iload_n hO 1 rfl rfl dX12_misread_4 ?_
    refine x_iconst hO (v := 4) (by decide) dX12_misread_5 ?_
    refine x_icmp_le hO (tg := 15) dX12_misread_6 (by decide) ?_ ?_
    · refine x_aload_n hO 0 rfl rfl dX12_misread_15 ?_
      refine x_getI hO fl_RX12_89 hx0 dX12_misread_16 ?_
      refine x_iconst hO (v := -1) (by decide) dX12_misread_19 ?_
      refine x_icmp_eq hO (tg := 33) dX12_misread_20 (by decide) ?_ ?_
      · refine x_aload_n hO 0 rfl rfl dX12_misread_33 ?_
        refine x_bipush hO (v := 6) (by decide) dX12_misread_34 ?_
        refine y_HI (x_callV hO lv_RX12_137 hx0 vc_12 (by decide) (As := [.int ((6 : Int32))]) rfl (Nat.le_of_ble_eq_true rfl) (ok_X12_refuse (cG Γ) h x0 ((6 : Int32)) hx0) dX12_misread_36 rfl (Nat.le_of_ble_eq_true rfl)) (fun r2 => ?_)
        exact x_iret hO rfl dX12_misread_39 (hR _)
      · refine x_iload_n hO 1 rfl rfl dX12_misread_23 ?_
        refine x_iconst hO (v := 2) (by decide) dX12_misread_24 ?_
        refine x_aload_n hO 0 rfl rfl dX12_misread_25 ?_
        refine x_getI hO fl_RX12_89 hx0 dX12_misread_26 ?_
        refine x_imul hO dX12_misread_29 ?_
        refine x_icmp_le hO (tg := 40) dX12_misread_30 (by decide) ?_ ?_
        · refine x_aload_n hO 0 rfl rfl dX12_misread_40 ?_
          refine x_iload_n hO 1 rfl rfl dX12_misread_41 ?_
          refine x_if_ne hO (tg := 52) dX12_misread_42 (by decide) ?_ ?_
          · refine x_iload_n hO 1 rfl rfl dX12_misread_52 ?_
            refine x_iconst hO (v := 2) (by decide) dX12_misread_53 ?_
            refine x_iremc hO (by decide) dX12_misread_54 ?_
            refine x_iconst hO (v := 1) (by decide) dX12_misread_55 ?_
            refine x_icmp_ne hO (tg := 70) dX12_misread_56 (by decide) ?_ ?_
            · refine x_aload_n hO 0 rfl rfl dX12_misread_70 ?_
              refine x_getR hO fl_RX12_86 hx0 dX12_misread_71 ?_
              refine x_iload_n hO 1 rfl rfl dX12_misread_74 ?_
              refine x_iconst hO (v := 2) (by decide) dX12_misread_75 ?_
              refine x_idivc hO (by decide) dX12_misread_76 ?_
              refine x_iconst hO (v := 1) (by decide) dX12_misread_77 ?_
              refine x_isub hO dX12_misread_78 ?_
              refine x_iald hO (gr_12_41 hx0) dX12_misread_79 ?_
              refine y_HI (x_callV hO lv_RX12_146 hx0 vc_12 (by decide) (As := [.int (hI h (GR x0 41) (nx ((x1 / ((2 : Int32))) - ((1 : Int32)))))]) rfl (Nat.le_of_ble_eq_true rfl) (ok_X12_gives (cG Γ) h x0 (hI h (GR x0 41) (nx ((x1 / ((2 : Int32))) - ((1 : Int32))))) hx0) dX12_misread_80 rfl (Nat.le_of_ble_eq_true rfl)) (fun r3 => ?_)
              exact x_iret hO rfl dX12_misread_83 (hR _)
            · refine x_aload_n hO 0 rfl rfl dX12_misread_59 ?_
              refine x_getR hO fl_RX12_83 hx0 dX12_misread_60 ?_
              refine x_iload_n hO 1 rfl rfl dX12_misread_63 ?_
              refine x_iconst hO (v := 2) (by decide) dX12_misread_64 ?_
              refine x_idivc hO (by decide) dX12_misread_65 ?_
              refine x_iald hO (gr_12_40 hx0) dX12_misread_66 ?_
              refine x_goto hO (tg := 80) dX12_misread_67 (by decide) ?_
              refine y_HI (x_callV hO lv_RX12_146 hx0 vc_12 (by decide) (As := [.int (hI h (GR x0 40) (nx (x1 / ((2 : Int32)))))]) rfl (Nat.le_of_ble_eq_true rfl) (ok_X12_gives (cG Γ) h x0 (hI h (GR x0 40) (nx (x1 / ((2 : Int32))))) hx0) dX12_misread_80 rfl (Nat.le_of_ble_eq_true rfl)) (fun r4 => ?_)
              exact x_iret hO rfl dX12_misread_83 (hR _)
          · refine x_aload_n hO 0 rfl rfl dX12_misread_45 ?_
            refine x_getI hO fl_RX12_374 hx0 dX12_misread_46 ?_
            refine x_goto hO (tg := 80) dX12_misread_49 (by decide) ?_
            refine y_HI (x_callV hO lv_RX12_146 hx0 vc_12 (by decide) (As := [.int (hI h x0 43)]) rfl (Nat.le_of_ble_eq_true rfl) (ok_X12_gives (cG Γ) h x0 (hI h x0 43) hx0) dX12_misread_80 rfl (Nat.le_of_ble_eq_true rfl)) (fun r5 => ?_)
            exact x_iret hO rfl dX12_misread_83 (hR _)
        · refine x_aload_n hO 0 rfl rfl dX12_misread_33 ?_
          refine x_bipush hO (v := 6) (by decide) dX12_misread_34 ?_
          refine y_HI (x_callV hO lv_RX12_137 hx0 vc_12 (by decide) (As := [.int ((6 : Int32))]) rfl (Nat.le_of_ble_eq_true rfl) (ok_X12_refuse (cG Γ) h x0 ((6 : Int32)) hx0) dX12_misread_36 rfl (Nat.le_of_ble_eq_true rfl)) (fun r6 => ?_)
          exact x_iret hO rfl dX12_misread_39 (hR _)
    · refine x_aload_n hO 0 rfl rfl dX12_misread_9 ?_
      refine x_iconst hO (v := 1) (by decide) dX12_misread_10 ?_
      refine y_HI (x_callV hO lv_RX12_137 hx0 vc_12 (by decide) (As := [.int ((1 : Int32))]) rfl (Nat.le_of_ble_eq_true rfl) (ok_X12_refuse (cG Γ) h x0 ((1 : Int32)) hx0) dX12_misread_11 rfl (Nat.le_of_ble_eq_true rfl)) (fun r7 => ?_)
      exact x_iret hO rfl dX12_misread_14 (hR _)
theorem ok_X12_misread (G : Gl) (h : Hp) (x0 : Nat) (x1 : Int32) (hx0 : Is x0 12) : CN G mX12_misread [.ref (gb G + x0), .int x1] h ((F_X12_misread h x0 x1).map (emHI)) := CN.fn pn_RX12 (Nat.le_of_ble_eq_true rfl) (fun Γ hG hO => by subst hG; exact go_X12_misread hO h x0 x1 hx0 (fun _ q => q))
noncomputable def B_X12_nameHere_7 (h : Hp) (x0 : Nat) (x1 : Int64) (x3 : Int32) : Option ((Int64 × Int32) ⊕ (Int64)) :=
  if (hI h x0 13) ≤ x3 then some (.inr x1) else (F_X12_byteAt h x0 x3).bind (fun r1 => bnd ((x1 <<< (((8 : Int32)).toInt64 &&& 63)) ||| r1.toInt64) (fun v2 => some (.inl (v2, x3 + (1 : Int32)))))
noncomputable def L_X12_nameHere_7 (h : Hp) (x0 : Nat) (x1 : Int64) (x3 : Int32) : Option (Int64) := iterW (fun s : Int64 × Int32 => B_X12_nameHere_7 h x0 s.1 s.2) (x1, x3)
set_option maxHeartbeats 4000000 in
set_option maxRecDepth 100000 in
theorem go_X12_nameHere_B7 {Γ : Cx} (hO : Ok Γ mX12_nameHere) (h : Hp) (x0 : Nat) (x1 : Int64) (x3 : Int32) (hx0 : Is x0 12) {K : (Int64 × Int32) ⊕ (Int64) → Prop} (hC : ∀ (x1 : Int64) (x3 : Int32), K (.inl (x1, x3)) → EW Γ mX12_nameHere 7 [(0, rf Γ x0), (1, .long x1), (3, .int x3)] [] h) (hR : ∀ r, K (.inr r) → emPL h r = tgt Γ) : EG Γ mX12_nameHere 7 [(0, rf Γ x0), (1, .long x1), (3, .int x3)] [] h (B_X12_nameHere_7 h x0 x1 x3) K := by
  unfold B_X12_nameHere_7
  refine x_iload_n hO 2 rfl rfl dX12_nameHere_7 ?_
  refine x_aload_n hO 0 rfl rfl dX12_nameHere_8 ?_
  refine x_getI hO fl_RX12_171 hx0 dX12_nameHere_9 ?_
  refine x_icmp_ge hO (tg := 33) dX12_nameHere_12 (by decide) ?_ ?_
  · refine x_lload_n hO 1 rfl rfl dX12_nameHere_33 ?_
    exact x_lret hO rfl dX12_nameHere_34 (hR _)
  · refine x_lload_n hO 1 rfl rfl dX12_nameHere_15 ?_
    refine x_bipush hO (v := 8) (by decide) dX12_nameHere_16 ?_
    refine x_lshl hO dX12_nameHere_18 ?_
    refine x_aload_n hO 0 rfl rfl dX12_nameHere_19 ?_
    refine x_iload_n hO 2 rfl rfl dX12_nameHere_20 ?_
    refine y_PI (x_callV hO lv_RX12_174 hx0 vc_12 (by decide) (As := [.int x3]) rfl (Nat.le_of_ble_eq_true rfl) (ok_X12_byteAt (cG Γ) h x0 x3 hx0) dX12_nameHere_21 rfl (Nat.le_of_ble_eq_true rfl)) (fun r1 => ?_)
    refine x_i2l hO dX12_nameHere_24 ?_
    refine x_lor hO dX12_nameHere_25 ?_
    refine x_bnd ?_
    generalize (x1 <<< (((8 : Int32)).toInt64 &&& 63)) ||| r1.toInt64 = v2
    refine x_lstore_n hO rfl [(1, .long v2), (0, rf Γ x0), (3, .int x3)] dX12_nameHere_26 (by decide) rfl ?_
    refine x_iinc hO 2 (v := 1) [(3, .int (x3 + (1 : Int32))), (1, .long v2), (0, rf Γ x0)] dX12_nameHere_27 rfl (by decide) (by decide) rfl ?_
    refine x_goto hO (tg := 7) dX12_nameHere_30 (by decide) ?_
    exact x_leafs [2, 1, 0] rfl (hC v2 (x3 + (1 : Int32)))
set_option maxHeartbeats 4000000 in
set_option maxRecDepth 100000 in
theorem go_X12_nameHere_L7 {Γ : Cx} (hO : Ok Γ mX12_nameHere) (h : Hp) (x0 : Nat) (x1 : Int64) (x3 : Int32) (hx0 : Is x0 12) {K : Int64 → Prop} (hR : ∀ r, K (r) → emPL h r = tgt Γ) : EG Γ mX12_nameHere 7 [(0, rf Γ x0), (1, .long x1), (3, .int x3)] [] h (L_X12_nameHere_7 h x0 x1 x3) K := by
  have q := x_loop (Γ := Γ) (M := mX12_nameHere) (pc := 7) (B := fun s : Int64 × Int32 => B_X12_nameHere_7 h x0 s.1 s.2) (lvf := fun s => [(0, rf Γ x0), (1, .long s.1), (3, .int s.2)]) (hf := fun s => h) (Ky := K) (fun s => go_X12_nameHere_B7 hO h x0 s.1 s.2 hx0 (fun _ _ => id) hR) (x1, x3)
  exact q
noncomputable def F_X12_nameHere (h : Hp) (x0 : Nat) : Option (Int64) :=
  L_X12_nameHere_7 h x0 ((0 : Int64)) (hI h x0 12)
set_option maxHeartbeats 4000000 in
set_option maxRecDepth 100000 in
theorem go_X12_nameHere {Γ : Cx} (hO : Ok Γ mX12_nameHere) (h : Hp) (x0 : Nat) (hx0 : Is x0 12) {K : Int64 → Prop} (hR : ∀ r, K r → emPL h r = tgt Γ) : EG Γ mX12_nameHere 0 [(0, rf Γ x0)] [] h (F_X12_nameHere h x0) K := by
  unfold F_X12_nameHere
  refine x_lconst hO (v := 0) (by decide) dX12_nameHere_0 ?_
  refine x_lstore_n hO rfl [(1, .long ((0 : Int64))), (0, rf Γ x0)] dX12_nameHere_1 (by decide) rfl ?_
  refine x_aload_n hO 1 rfl rfl dX12_nameHere_2 ?_
  refine x_getI hO fl_RX12_177 hx0 dX12_nameHere_3 ?_
  refine x_istore_n hO rfl [(3, .int (hI h x0 12)), (1, .long ((0 : Int64))), (0, rf Γ x0)] dX12_nameHere_6 (by decide) rfl ?_
  exact x_sub [2, 1, 0] rfl (go_X12_nameHere_L7 hO h x0 ((0 : Int64)) (hI h x0 12) hx0 hR)
theorem ok_X12_nameHere (G : Gl) (h : Hp) (x0 : Nat) (hx0 : Is x0 12) : CN G mX12_nameHere [.ref (gb G + x0)] h ((F_X12_nameHere h x0).map (emPL h)) := CN.fn pn_RX12 (Nat.le_of_ble_eq_true rfl) (fun Γ hG hO => by subst hG; exact go_X12_nameHere hO h x0 hx0 (fun _ q => q))
noncomputable def F_X12_parted (h : Hp) (x0 : Nat) (x1 : Int32) : Option (Hp × Int32) :=
  if (hI h x0 49) = ((-1 : Int32)) then (F_X12_refuse h x0 ((6 : Int32))).bind (fun r1 => some ((r1.1, r1.2))) else if (hI h x0 50) = 0 then (F_X12_refuse h x0 ((6 : Int32))).bind (fun r5 => some ((r5.1, r5.2))) else if x1 < 0 then (F_X12_refuse h x0 ((1 : Int32))).bind (fun r2 => some ((r2.1, r2.2))) else if x1 < (hI h x0 49) then gd (ib x1 (LEN (GR x0 48))) ((F_X12_gives h x0 (hI h (GR x0 48) (nx x1))).bind (fun r3 => some ((r3.1, r3.2)))) else (F_X12_refuse h x0 ((1 : Int32))).bind (fun r4 => some ((r4.1, r4.2)))
set_option maxHeartbeats 4000000 in
set_option maxRecDepth 100000 in
theorem go_X12_parted {Γ : Cx} (hO : Ok Γ mX12_parted) (h : Hp) (x0 : Nat) (x1 : Int32) (hx0 : Is x0 12) {K : Hp × Int32 → Prop} (hR : ∀ r, K r → emHI r = tgt Γ) : EG Γ mX12_parted 0 [(0, rf Γ x0), (1, .int x1)] [] h (F_X12_parted h x0 x1) K := by
  unfold F_X12_parted
  refine x_aload_n hO 0 rfl rfl dX12_parted_0 ?_
  refine x_getI hO fl_RX12_104 hx0 dX12_parted_1 ?_
  refine x_iconst hO (v := -1) (by decide) dX12_parted_4 ?_
  refine x_icmp_eq hO (tg := 15) dX12_parted_5 (by decide) ?_ ?_
  · refine x_aload_n hO 0 rfl rfl dX12_parted_15 ?_
    refine x_bipush hO (v := 6) (by decide) dX12_parted_16 ?_
    refine y_HI (x_callV hO lv_RX12_137 hx0 vc_12 (by decide) (As := [.int ((6 : Int32))]) rfl (Nat.le_of_ble_eq_true rfl) (ok_X12_refuse (cG Γ) h x0 ((6 : Int32)) hx0) dX12_parted_18 rfl (Nat.le_of_ble_eq_true rfl)) (fun r1 => ?_)
    exact x_iret hO rfl dX12_parted_21 (hR _)
  · refine x_aload_n hO 0 rfl rfl dX12_parted_8 ?_
    refine x_getI hO fl_RX12_394 hx0 dX12_parted_9 ?_
    refine x_if_ne hO (tg := 22) dX12_parted_12 (by decide) ?_ ?_
    · refine x_iload_n hO 1 rfl rfl dX12_parted_22 ?_
      refine x_if_lt hO (tg := 34) dX12_parted_23 (by decide) ?_ ?_
      · refine x_aload_n hO 0 rfl rfl dX12_parted_34 ?_
        refine x_iconst hO (v := 1) (by decide) dX12_parted_35 ?_
        refine y_HI (x_callV hO lv_RX12_137 hx0 vc_12 (by decide) (As := [.int ((1 : Int32))]) rfl (Nat.le_of_ble_eq_true rfl) (ok_X12_refuse (cG Γ) h x0 ((1 : Int32)) hx0) dX12_parted_36 rfl (Nat.le_of_ble_eq_true rfl)) (fun r2 => ?_)
        refine x_goto hO (tg := 52) dX12_parted_39 (by decide) ?_
        exact x_iret hO rfl dX12_parted_52 (hR _)
      · refine x_iload_n hO 1 rfl rfl dX12_parted_26 ?_
        refine x_aload_n hO 0 rfl rfl dX12_parted_27 ?_
        refine x_getI hO fl_RX12_104 hx0 dX12_parted_28 ?_
        refine x_icmp_lt hO (tg := 42) dX12_parted_31 (by decide) ?_ ?_
        · refine x_aload_n hO 0 rfl rfl dX12_parted_42 ?_
          refine x_aload_n hO 0 rfl rfl dX12_parted_43 ?_
          refine x_getR hO fl_RX12_101 hx0 dX12_parted_44 ?_
          refine x_iload_n hO 1 rfl rfl dX12_parted_47 ?_
          refine x_iald hO (gr_12_48 hx0) dX12_parted_48 ?_
          refine y_HI (x_callV hO lv_RX12_146 hx0 vc_12 (by decide) (As := [.int (hI h (GR x0 48) (nx x1))]) rfl (Nat.le_of_ble_eq_true rfl) (ok_X12_gives (cG Γ) h x0 (hI h (GR x0 48) (nx x1)) hx0) dX12_parted_49 rfl (Nat.le_of_ble_eq_true rfl)) (fun r3 => ?_)
          exact x_iret hO rfl dX12_parted_52 (hR _)
        · refine x_aload_n hO 0 rfl rfl dX12_parted_34 ?_
          refine x_iconst hO (v := 1) (by decide) dX12_parted_35 ?_
          refine y_HI (x_callV hO lv_RX12_137 hx0 vc_12 (by decide) (As := [.int ((1 : Int32))]) rfl (Nat.le_of_ble_eq_true rfl) (ok_X12_refuse (cG Γ) h x0 ((1 : Int32)) hx0) dX12_parted_36 rfl (Nat.le_of_ble_eq_true rfl)) (fun r4 => ?_)
          refine x_goto hO (tg := 52) dX12_parted_39 (by decide) ?_
          exact x_iret hO rfl dX12_parted_52 (hR _)
    · refine x_aload_n hO 0 rfl rfl dX12_parted_15 ?_
      refine x_bipush hO (v := 6) (by decide) dX12_parted_16 ?_
      refine y_HI (x_callV hO lv_RX12_137 hx0 vc_12 (by decide) (As := [.int ((6 : Int32))]) rfl (Nat.le_of_ble_eq_true rfl) (ok_X12_refuse (cG Γ) h x0 ((6 : Int32)) hx0) dX12_parted_18 rfl (Nat.le_of_ble_eq_true rfl)) (fun r5 => ?_)
      exact x_iret hO rfl dX12_parted_21 (hR _)
theorem ok_X12_parted (G : Gl) (h : Hp) (x0 : Nat) (x1 : Int32) (hx0 : Is x0 12) : CN G mX12_parted [.ref (gb G + x0), .int x1] h ((F_X12_parted h x0 x1).map (emHI)) := CN.fn pn_RX12 (Nat.le_of_ble_eq_true rfl) (fun Γ hG hO => by subst hG; exact go_X12_parted hO h x0 x1 hx0 (fun _ q => q))
noncomputable def F_X12_planned (h : Hp) (x0 : Nat) (x1 : Int32) : Option (Hp × Int32) :=
  if ((-1 : Int32)) ≤ x1 then if (hI h x0 34) = ((-1 : Int32)) then (F_X12_refuse h x0 ((6 : Int32))).bind (fun r1 => some ((r1.1, r1.2))) else if x1 < (hI h x0 34) then if x1 = ((-1 : Int32)) then (F_X12_gives h x0 (hI h x0 35)).bind (fun r3 => some ((r3.1, r3.2))) else gd (ib x1 (LEN (GR x0 33))) ((F_X12_gives h x0 (hI h (GR x0 33) (nx x1))).bind (fun r2 => some ((r2.1, r2.2)))) else (F_X12_refuse h x0 ((6 : Int32))).bind (fun r4 => some ((r4.1, r4.2))) else (F_X12_refuse h x0 ((1 : Int32))).bind (fun r5 => some ((r5.1, r5.2)))
set_option maxHeartbeats 4000000 in
set_option maxRecDepth 100000 in
theorem go_X12_planned {Γ : Cx} (hO : Ok Γ mX12_planned) (h : Hp) (x0 : Nat) (x1 : Int32) (hx0 : Is x0 12) {K : Hp × Int32 → Prop} (hR : ∀ r, K r → emHI r = tgt Γ) : EG Γ mX12_planned 0 [(0, rf Γ x0), (1, .int x1)] [] h (F_X12_planned h x0 x1) K := by
  unfold F_X12_planned
  refine x_iload_n hO 1 rfl rfl dX12_planned_0 ?_
  refine x_iconst hO (v := -1) (by decide) dX12_planned_1 ?_
  refine x_icmp_ge hO (tg := 11) dX12_planned_2 (by decide) ?_ ?_
  · refine x_aload_n hO 0 rfl rfl dX12_planned_11 ?_
    refine x_getI hO fl_RX12_74 hx0 dX12_planned_12 ?_
    refine x_iconst hO (v := -1) (by decide) dX12_planned_15 ?_
    refine x_icmp_eq hO (tg := 27) dX12_planned_16 (by decide) ?_ ?_
    · refine x_aload_n hO 0 rfl rfl dX12_planned_27 ?_
      refine x_bipush hO (v := 6) (by decide) dX12_planned_28 ?_
      refine y_HI (x_callV hO lv_RX12_137 hx0 vc_12 (by decide) (As := [.int ((6 : Int32))]) rfl (Nat.le_of_ble_eq_true rfl) (ok_X12_refuse (cG Γ) h x0 ((6 : Int32)) hx0) dX12_planned_30 rfl (Nat.le_of_ble_eq_true rfl)) (fun r1 => ?_)
      exact x_iret hO rfl dX12_planned_33 (hR _)
    · refine x_iload_n hO 1 rfl rfl dX12_planned_19 ?_
      refine x_aload_n hO 0 rfl rfl dX12_planned_20 ?_
      refine x_getI hO fl_RX12_74 hx0 dX12_planned_21 ?_
      refine x_icmp_lt hO (tg := 34) dX12_planned_24 (by decide) ?_ ?_
      · refine x_aload_n hO 0 rfl rfl dX12_planned_34 ?_
        refine x_iload_n hO 1 rfl rfl dX12_planned_35 ?_
        refine x_iconst hO (v := -1) (by decide) dX12_planned_36 ?_
        refine x_icmp_ne hO (tg := 47) dX12_planned_37 (by decide) ?_ ?_
        · refine x_aload_n hO 0 rfl rfl dX12_planned_47 ?_
          refine x_getR hO fl_RX12_71 hx0 dX12_planned_48 ?_
          refine x_iload_n hO 1 rfl rfl dX12_planned_51 ?_
          refine x_iald hO (gr_12_33 hx0) dX12_planned_52 ?_
          refine y_HI (x_callV hO lv_RX12_146 hx0 vc_12 (by decide) (As := [.int (hI h (GR x0 33) (nx x1))]) rfl (Nat.le_of_ble_eq_true rfl) (ok_X12_gives (cG Γ) h x0 (hI h (GR x0 33) (nx x1)) hx0) dX12_planned_53 rfl (Nat.le_of_ble_eq_true rfl)) (fun r2 => ?_)
          exact x_iret hO rfl dX12_planned_56 (hR _)
        · refine x_aload_n hO 0 rfl rfl dX12_planned_40 ?_
          refine x_getI hO fl_RX12_314 hx0 dX12_planned_41 ?_
          refine x_goto hO (tg := 53) dX12_planned_44 (by decide) ?_
          refine y_HI (x_callV hO lv_RX12_146 hx0 vc_12 (by decide) (As := [.int (hI h x0 35)]) rfl (Nat.le_of_ble_eq_true rfl) (ok_X12_gives (cG Γ) h x0 (hI h x0 35) hx0) dX12_planned_53 rfl (Nat.le_of_ble_eq_true rfl)) (fun r3 => ?_)
          exact x_iret hO rfl dX12_planned_56 (hR _)
      · refine x_aload_n hO 0 rfl rfl dX12_planned_27 ?_
        refine x_bipush hO (v := 6) (by decide) dX12_planned_28 ?_
        refine y_HI (x_callV hO lv_RX12_137 hx0 vc_12 (by decide) (As := [.int ((6 : Int32))]) rfl (Nat.le_of_ble_eq_true rfl) (ok_X12_refuse (cG Γ) h x0 ((6 : Int32)) hx0) dX12_planned_30 rfl (Nat.le_of_ble_eq_true rfl)) (fun r4 => ?_)
        exact x_iret hO rfl dX12_planned_33 (hR _)
  · refine x_aload_n hO 0 rfl rfl dX12_planned_5 ?_
    refine x_iconst hO (v := 1) (by decide) dX12_planned_6 ?_
    refine y_HI (x_callV hO lv_RX12_137 hx0 vc_12 (by decide) (As := [.int ((1 : Int32))]) rfl (Nat.le_of_ble_eq_true rfl) (ok_X12_refuse (cG Γ) h x0 ((1 : Int32)) hx0) dX12_planned_7 rfl (Nat.le_of_ble_eq_true rfl)) (fun r5 => ?_)
    exact x_iret hO rfl dX12_planned_10 (hR _)
theorem ok_X12_planned (G : Gl) (h : Hp) (x0 : Nat) (x1 : Int32) (hx0 : Is x0 12) : CN G mX12_planned [.ref (gb G + x0), .int x1] h ((F_X12_planned h x0 x1).map (emHI)) := CN.fn pn_RX12 (Nat.le_of_ble_eq_true rfl) (fun Γ hG hO => by subst hG; exact go_X12_planned hO h x0 x1 hx0 (fun _ q => q))
noncomputable def J_X12_pour_143 (h : Hp) (x0 : Nat) (x1 : Int32) (x2 : Int32) (x3 : Int32) (x4 : Int32) (x5 : Int32) (x6 : Int32) (s0 : Int32) : Option ((Hp × Int32) ⊕ (Hp × Int32)) :=
  gd (ib (((((60 : Int32)) * x1) + x2) + s0) (LEN (GR x0 6))) (gd (ib (((((60 : Int32)) * x3) + x4) + s0) (LEN (GR x0 6))) (some (.inl (uL h (GR x0 6) (nx (((((60 : Int32)) * x3) + x4) + s0)) (hL h (GR x0 6) (nx (((((60 : Int32)) * x1) + x2) + s0))), x6 + (1 : Int32)))))
set_option maxHeartbeats 4000000 in
set_option maxRecDepth 100000 in
theorem go_X12_pour_J143 {Γ : Cx} (hO : Ok Γ mX12_pour) (h : Hp) (x0 : Nat) (x1 : Int32) (x2 : Int32) (x3 : Int32) (x4 : Int32) (x5 : Int32) (x6 : Int32) (s0 : Int32) (hx0 : Is x0 12) {K : (Hp × Int32) ⊕ (Hp × Int32) → Prop} (hC : ∀ (h : Hp) (x6 : Int32), K (.inl (h, x6)) → EW Γ mX12_pour 118 [(0, rf Γ x0), (1, .int x1), (2, .int x2), (3, .int x3), (4, .int x4), (5, .int x5), (6, .int x6)] [] h) (hR : ∀ r, K (.inr r) → emHI r = tgt Γ) : EG Γ mX12_pour 143 [(0, rf Γ x0), (1, .int x1), (2, .int x2), (3, .int x3), (4, .int x4), (5, .int x5), (6, .int x6)] [.int s0] h (J_X12_pour_143 h x0 x1 x2 x3 x4 x5 x6 s0) K := by
  unfold J_X12_pour_143
  refine x_istore hO [(7, .int s0), (0, rf Γ x0), (1, .int x1), (2, .int x2), (3, .int x3), (4, .int x4), (5, .int x5), (6, .int x6)] dX12_pour_143 (by decide) rfl ?_
  refine x_aload_n hO 1 rfl rfl dX12_pour_145 ?_
  refine x_getR hO fl_RX12_23 hx0 dX12_pour_146 ?_
  refine x_bipush hO (v := 60) (by decide) dX12_pour_149 ?_
  refine x_iload_n hO 4 rfl rfl dX12_pour_151 ?_
  refine x_imul hO dX12_pour_152 ?_
  refine x_iload hO 5 rfl dX12_pour_153 ?_
  refine x_iadd hO dX12_pour_155 ?_
  refine x_iload hO 0 rfl dX12_pour_156 ?_
  refine x_iadd hO dX12_pour_158 ?_
  refine x_aload_n hO 1 rfl rfl dX12_pour_159 ?_
  refine x_getR hO fl_RX12_23 hx0 dX12_pour_160 ?_
  refine x_bipush hO (v := 60) (by decide) dX12_pour_163 ?_
  refine x_iload_n hO 2 rfl rfl dX12_pour_165 ?_
  refine x_imul hO dX12_pour_166 ?_
  refine x_iload_n hO 3 rfl rfl dX12_pour_167 ?_
  refine x_iadd hO dX12_pour_168 ?_
  refine x_iload hO 0 rfl dX12_pour_169 ?_
  refine x_iadd hO dX12_pour_171 ?_
  refine x_lald hO (gr_12_6 hx0) dX12_pour_172 ?_
  refine x_last hO (gr_12_6 hx0) dX12_pour_173 ?_
  refine x_iinc hO 7 (v := 1) [(6, .int (x6 + (1 : Int32))), (7, .int s0), (0, rf Γ x0), (1, .int x1), (2, .int x2), (3, .int x3), (4, .int x4), (5, .int x5)] dX12_pour_174 rfl (by decide) (by decide) rfl ?_
  refine x_goto hO (tg := 118) dX12_pour_177 (by decide) ?_
  exact x_leafs [2, 3, 4, 5, 6, 7, 0] rfl (hC (uL h (GR x0 6) (nx (((((60 : Int32)) * x3) + x4) + s0)) (hL h (GR x0 6) (nx (((((60 : Int32)) * x1) + x2) + s0)))) (x6 + (1 : Int32)))
noncomputable def B_X12_pour_118 (h : Hp) (x0 : Nat) (x1 : Int32) (x2 : Int32) (x3 : Int32) (x4 : Int32) (x5 : Int32) (x6 : Int32) : Option ((Hp × Int32) ⊕ (Hp × Int32)) :=
  if x5 ≤ x6 then (F_X12_is h x0 ((0 : Int32))).bind (fun r1 => some (.inr ((r1.1, r1.2 &&& 1)))) else if x4 ≤ x2 then J_X12_pour_143 h x0 x1 x2 x3 x4 x5 x6 x6 else J_X12_pour_143 h x0 x1 x2 x3 x4 x5 x6 ((x5 - ((1 : Int32))) - x6)
noncomputable def L_X12_pour_118 (h : Hp) (x0 : Nat) (x1 : Int32) (x2 : Int32) (x3 : Int32) (x4 : Int32) (x5 : Int32) (x6 : Int32) : Option (Hp × Int32) := iterW (fun s : Hp × Int32 => B_X12_pour_118 s.1 x0 x1 x2 x3 x4 x5 s.2) (h, x6)
set_option maxHeartbeats 4000000 in
set_option maxRecDepth 100000 in
theorem go_X12_pour_B118 {Γ : Cx} (hO : Ok Γ mX12_pour) (h : Hp) (x0 : Nat) (x1 : Int32) (x2 : Int32) (x3 : Int32) (x4 : Int32) (x5 : Int32) (x6 : Int32) (hx0 : Is x0 12) {K : (Hp × Int32) ⊕ (Hp × Int32) → Prop} (hC : ∀ (h : Hp) (x6 : Int32), K (.inl (h, x6)) → EW Γ mX12_pour 118 [(0, rf Γ x0), (1, .int x1), (2, .int x2), (3, .int x3), (4, .int x4), (5, .int x5), (6, .int x6)] [] h) (hR : ∀ r, K (.inr r) → emHI r = tgt Γ) : EG Γ mX12_pour 118 [(0, rf Γ x0), (1, .int x1), (2, .int x2), (3, .int x3), (4, .int x4), (5, .int x5), (6, .int x6)] [] h (B_X12_pour_118 h x0 x1 x2 x3 x4 x5 x6) K := by
  unfold B_X12_pour_118
  refine x_iload hO 6 rfl dX12_pour_118 ?_
  refine x_iload hO 5 rfl dX12_pour_120 ?_
  refine x_icmp_ge hO (tg := 180) dX12_pour_122 (by decide) ?_ ?_
  · refine x_aload_n hO 0 rfl rfl dX12_pour_180 ?_
    refine x_iconst hO (v := 0) (by decide) dX12_pour_181 ?_
    refine y_HI (x_callV hO lv_RX12_117 hx0 vc_12 (by decide) (As := [.int ((0 : Int32))]) rfl (Nat.le_of_ble_eq_true rfl) (ok_X12_is (cG Γ) h x0 ((0 : Int32)) hx0) dX12_pour_182 rfl (Nat.le_of_ble_eq_true rfl)) (fun r1 => ?_)
    exact x_zret hO rfl dX12_pour_185 (hR _)
  · refine x_iload_n hO 2 rfl rfl dX12_pour_125 ?_
    refine x_iload hO 4 rfl dX12_pour_126 ?_
    refine x_icmp_ge hO (tg := 141) dX12_pour_128 (by decide) ?_ ?_
    · refine x_iload hO 6 rfl dX12_pour_141 ?_
      exact x_sub [0, 1, 2, 3, 4, 5, 6] rfl (go_X12_pour_J143 hO h x0 x1 x2 x3 x4 x5 x6 x6 hx0 hC hR)
    · refine x_iload hO 5 rfl dX12_pour_131 ?_
      refine x_iconst hO (v := 1) (by decide) dX12_pour_133 ?_
      refine x_isub hO dX12_pour_134 ?_
      refine x_iload hO 6 rfl dX12_pour_135 ?_
      refine x_isub hO dX12_pour_137 ?_
      refine x_goto hO (tg := 143) dX12_pour_138 (by decide) ?_
      exact x_sub [0, 1, 2, 3, 4, 5, 6] rfl (go_X12_pour_J143 hO h x0 x1 x2 x3 x4 x5 x6 ((x5 - ((1 : Int32))) - x6) hx0 hC hR)
set_option maxHeartbeats 4000000 in
set_option maxRecDepth 100000 in
theorem go_X12_pour_L118 {Γ : Cx} (hO : Ok Γ mX12_pour) (h : Hp) (x0 : Nat) (x1 : Int32) (x2 : Int32) (x3 : Int32) (x4 : Int32) (x5 : Int32) (x6 : Int32) (hx0 : Is x0 12) {K : Hp × Int32 → Prop} (hR : ∀ r, K (r) → emHI r = tgt Γ) : EG Γ mX12_pour 118 [(0, rf Γ x0), (1, .int x1), (2, .int x2), (3, .int x3), (4, .int x4), (5, .int x5), (6, .int x6)] [] h (L_X12_pour_118 h x0 x1 x2 x3 x4 x5 x6) K := by
  have q := x_loop (Γ := Γ) (M := mX12_pour) (pc := 118) (B := fun s : Hp × Int32 => B_X12_pour_118 s.1 x0 x1 x2 x3 x4 x5 s.2) (lvf := fun s => [(0, rf Γ x0), (1, .int x1), (2, .int x2), (3, .int x3), (4, .int x4), (5, .int x5), (6, .int s.2)]) (hf := fun s => s.1) (Ky := K) (fun s => go_X12_pour_B118 hO s.1 x0 x1 x2 x3 x4 x5 s.2 hx0 (fun _ _ => id) hR) (h, x6)
  exact q
noncomputable def F_X12_pour (h : Hp) (x0 : Nat) (x1 : Int32) (x2 : Int32) (x3 : Int32) (x4 : Int32) (x5 : Int32) : Option (Hp × Int32) :=
  (F_X12_isTray h x1).bind (fun r1 => if r1 = 0 then (F_X12_is h x0 ((1 : Int32))).bind (fun r2 => some ((r2.1, r2.2 &&& 1))) else (F_X12_isTray h x3).bind (fun r3 => if r3 = 0 then (F_X12_is h x0 ((1 : Int32))).bind (fun r4 => some ((r4.1, r4.2 &&& 1))) else if x2 < 0 then (F_X12_is h x0 ((1 : Int32))).bind (fun r5 => some ((r5.1, r5.2 &&& 1))) else if x4 < 0 then (F_X12_is h x0 ((1 : Int32))).bind (fun r6 => some ((r6.1, r6.2 &&& 1))) else if 0 ≤ x5 then gd (ib x1 (LEN (GR x0 5))) (if (hI h (GR x0 5) (nx x1)) = ((-1 : Int32)) then (F_X12_is h x0 ((2 : Int32))).bind (fun r7 => some ((r7.1, r7.2 &&& 1))) else gd (ib x3 (LEN (GR x0 5))) (if (hI h (GR x0 5) (nx x3)) = ((-1 : Int32)) then (F_X12_is h x0 ((2 : Int32))).bind (fun r11 => some ((r11.1, r11.2 &&& 1))) else gd (ib x1 (LEN (GR x0 4))) (gd (ib x3 (LEN (GR x0 4))) (if (hI h (GR x0 4) (nx x1)) = (hI h (GR x0 4) (nx x3)) then gd (ib x1 (LEN (GR x0 5))) (if ((hI h (GR x0 5) (nx x1)) - x2) < x5 then (F_X12_is h x0 ((3 : Int32))).bind (fun r8 => some ((r8.1, r8.2 &&& 1))) else gd (ib x3 (LEN (GR x0 5))) (if x5 ≤ ((hI h (GR x0 5) (nx x3)) - x4) then L_X12_pour_118 h x0 x1 x2 x3 x4 x5 ((0 : Int32)) else (F_X12_is h x0 ((3 : Int32))).bind (fun r9 => some ((r9.1, r9.2 &&& 1))))) else (F_X12_is h x0 ((8 : Int32))).bind (fun r10 => some ((r10.1, r10.2 &&& 1))))))) else (F_X12_is h x0 ((1 : Int32))).bind (fun r12 => some ((r12.1, r12.2 &&& 1)))))
set_option maxHeartbeats 4000000 in
set_option maxRecDepth 100000 in
theorem go_X12_pour {Γ : Cx} (hO : Ok Γ mX12_pour) (h : Hp) (x0 : Nat) (x1 : Int32) (x2 : Int32) (x3 : Int32) (x4 : Int32) (x5 : Int32) (hx0 : Is x0 12) {K : Hp × Int32 → Prop} (hR : ∀ r, K r → emHI r = tgt Γ) : EG Γ mX12_pour 0 [(0, rf Γ x0), (1, .int x1), (2, .int x2), (3, .int x3), (4, .int x4), (5, .int x5)] [] h (F_X12_pour h x0 x1 x2 x3 x4 x5) K := by
  unfold F_X12_pour
  refine x_iload_n hO 1 rfl rfl dX12_pour_0 ?_
  refine y_PI (x_callS hO lt_RX12_113 (As := [.int x1]) rfl (Nat.le_of_ble_eq_true rfl) (ok_X12_isTray (cG Γ) h x1) dX12_pour_1 rfl (Nat.le_of_ble_eq_true rfl)) (fun r1 => ?_)
  refine x_if_eq hO (tg := 28) dX12_pour_4 (by decide) ?_ ?_
  · refine x_aload_n hO 0 rfl rfl dX12_pour_28 ?_
    refine x_iconst hO (v := 1) (by decide) dX12_pour_29 ?_
    refine y_HI (x_callV hO lv_RX12_117 hx0 vc_12 (by decide) (As := [.int ((1 : Int32))]) rfl (Nat.le_of_ble_eq_true rfl) (ok_X12_is (cG Γ) h x0 ((1 : Int32)) hx0) dX12_pour_30 rfl (Nat.le_of_ble_eq_true rfl)) (fun r2 => ?_)
    exact x_zret hO rfl dX12_pour_33 (hR _)
  · refine x_iload_n hO 3 rfl rfl dX12_pour_7 ?_
    refine y_PI (x_callS hO lt_RX12_113 (As := [.int x3]) rfl (Nat.le_of_ble_eq_true rfl) (ok_X12_isTray (cG Γ) h x3) dX12_pour_8 rfl (Nat.le_of_ble_eq_true rfl)) (fun r3 => ?_)
    refine x_if_eq hO (tg := 28) dX12_pour_11 (by decide) ?_ ?_
    · refine x_aload_n hO 0 rfl rfl dX12_pour_28 ?_
      refine x_iconst hO (v := 1) (by decide) dX12_pour_29 ?_
      refine y_HI (x_callV hO lv_RX12_117 hx0 vc_12 (by decide) (As := [.int ((1 : Int32))]) rfl (Nat.le_of_ble_eq_true rfl) (ok_X12_is (cG Γ) h x0 ((1 : Int32)) hx0) dX12_pour_30 rfl (Nat.le_of_ble_eq_true rfl)) (fun r4 => ?_)
      exact x_zret hO rfl dX12_pour_33 (hR _)
    · refine x_iload_n hO 2 rfl rfl dX12_pour_14 ?_
      refine x_if_lt hO (tg := 28) dX12_pour_15 (by decide) ?_ ?_
      · refine x_aload_n hO 0 rfl rfl dX12_pour_28 ?_
        refine x_iconst hO (v := 1) (by decide) dX12_pour_29 ?_
        refine y_HI (x_callV hO lv_RX12_117 hx0 vc_12 (by decide) (As := [.int ((1 : Int32))]) rfl (Nat.le_of_ble_eq_true rfl) (ok_X12_is (cG Γ) h x0 ((1 : Int32)) hx0) dX12_pour_30 rfl (Nat.le_of_ble_eq_true rfl)) (fun r5 => ?_)
        exact x_zret hO rfl dX12_pour_33 (hR _)
      · refine x_iload hO 4 rfl dX12_pour_18 ?_
        refine x_if_lt hO (tg := 28) dX12_pour_20 (by decide) ?_ ?_
        · refine x_aload_n hO 0 rfl rfl dX12_pour_28 ?_
          refine x_iconst hO (v := 1) (by decide) dX12_pour_29 ?_
          refine y_HI (x_callV hO lv_RX12_117 hx0 vc_12 (by decide) (As := [.int ((1 : Int32))]) rfl (Nat.le_of_ble_eq_true rfl) (ok_X12_is (cG Γ) h x0 ((1 : Int32)) hx0) dX12_pour_30 rfl (Nat.le_of_ble_eq_true rfl)) (fun r6 => ?_)
          exact x_zret hO rfl dX12_pour_33 (hR _)
        · refine x_iload hO 5 rfl dX12_pour_23 ?_
          refine x_if_ge hO (tg := 34) dX12_pour_25 (by decide) ?_ ?_
          · refine x_aload_n hO 0 rfl rfl dX12_pour_34 ?_
            refine x_getR hO fl_RX12_20 hx0 dX12_pour_35 ?_
            refine x_iload_n hO 1 rfl rfl dX12_pour_38 ?_
            refine x_iald hO (gr_12_5 hx0) dX12_pour_39 ?_
            refine x_iconst hO (v := -1) (by decide) dX12_pour_40 ?_
            refine x_icmp_eq hO (tg := 54) dX12_pour_41 (by decide) ?_ ?_
            · refine x_aload_n hO 0 rfl rfl dX12_pour_54 ?_
              refine x_iconst hO (v := 2) (by decide) dX12_pour_55 ?_
              refine y_HI (x_callV hO lv_RX12_117 hx0 vc_12 (by decide) (As := [.int ((2 : Int32))]) rfl (Nat.le_of_ble_eq_true rfl) (ok_X12_is (cG Γ) h x0 ((2 : Int32)) hx0) dX12_pour_56 rfl (Nat.le_of_ble_eq_true rfl)) (fun r7 => ?_)
              exact x_zret hO rfl dX12_pour_59 (hR _)
            · refine x_aload_n hO 0 rfl rfl dX12_pour_44 ?_
              refine x_getR hO fl_RX12_20 hx0 dX12_pour_45 ?_
              refine x_iload_n hO 3 rfl rfl dX12_pour_48 ?_
              refine x_iald hO (gr_12_5 hx0) dX12_pour_49 ?_
              refine x_iconst hO (v := -1) (by decide) dX12_pour_50 ?_
              refine x_icmp_ne hO (tg := 60) dX12_pour_51 (by decide) ?_ ?_
              · refine x_aload_n hO 0 rfl rfl dX12_pour_60 ?_
                refine x_getR hO fl_RX12_17 hx0 dX12_pour_61 ?_
                refine x_iload_n hO 1 rfl rfl dX12_pour_64 ?_
                refine x_iald hO (gr_12_4 hx0) dX12_pour_65 ?_
                refine x_aload_n hO 0 rfl rfl dX12_pour_66 ?_
                refine x_getR hO fl_RX12_17 hx0 dX12_pour_67 ?_
                refine x_iload_n hO 3 rfl rfl dX12_pour_70 ?_
                refine x_iald hO (gr_12_4 hx0) dX12_pour_71 ?_
                refine x_icmp_eq hO (tg := 82) dX12_pour_72 (by decide) ?_ ?_
                · refine x_iload hO 5 rfl dX12_pour_82 ?_
                  refine x_aload_n hO 0 rfl rfl dX12_pour_84 ?_
                  refine x_getR hO fl_RX12_20 hx0 dX12_pour_85 ?_
                  refine x_iload_n hO 1 rfl rfl dX12_pour_88 ?_
                  refine x_iald hO (gr_12_5 hx0) dX12_pour_89 ?_
                  refine x_iload_n hO 2 rfl rfl dX12_pour_90 ?_
                  refine x_isub hO dX12_pour_91 ?_
                  refine x_icmp_gt hO (tg := 109) dX12_pour_92 (by decide) ?_ ?_
                  · refine x_aload_n hO 0 rfl rfl dX12_pour_109 ?_
                    refine x_iconst hO (v := 3) (by decide) dX12_pour_110 ?_
                    refine y_HI (x_callV hO lv_RX12_117 hx0 vc_12 (by decide) (As := [.int ((3 : Int32))]) rfl (Nat.le_of_ble_eq_true rfl) (ok_X12_is (cG Γ) h x0 ((3 : Int32)) hx0) dX12_pour_111 rfl (Nat.le_of_ble_eq_true rfl)) (fun r8 => ?_)
                    exact x_zret hO rfl dX12_pour_114 (hR _)
                  · refine x_iload hO 5 rfl dX12_pour_95 ?_
                    refine x_aload_n hO 0 rfl rfl dX12_pour_97 ?_
                    refine x_getR hO fl_RX12_20 hx0 dX12_pour_98 ?_
                    refine x_iload_n hO 3 rfl rfl dX12_pour_101 ?_
                    refine x_iald hO (gr_12_5 hx0) dX12_pour_102 ?_
                    refine x_iload hO 4 rfl dX12_pour_103 ?_
                    refine x_isub hO dX12_pour_105 ?_
                    refine x_icmp_le hO (tg := 115) dX12_pour_106 (by decide) ?_ ?_
                    · refine x_iconst hO (v := 0) (by decide) dX12_pour_115 ?_
                      refine x_istore hO [(6, .int ((0 : Int32))), (0, rf Γ x0), (1, .int x1), (2, .int x2), (3, .int x3), (4, .int x4), (5, .int x5)] dX12_pour_116 (by decide) rfl ?_
                      exact x_sub [1, 2, 3, 4, 5, 6, 0] rfl (go_X12_pour_L118 hO h x0 x1 x2 x3 x4 x5 ((0 : Int32)) hx0 hR)
                    · refine x_aload_n hO 0 rfl rfl dX12_pour_109 ?_
                      refine x_iconst hO (v := 3) (by decide) dX12_pour_110 ?_
                      refine y_HI (x_callV hO lv_RX12_117 hx0 vc_12 (by decide) (As := [.int ((3 : Int32))]) rfl (Nat.le_of_ble_eq_true rfl) (ok_X12_is (cG Γ) h x0 ((3 : Int32)) hx0) dX12_pour_111 rfl (Nat.le_of_ble_eq_true rfl)) (fun r9 => ?_)
                      exact x_zret hO rfl dX12_pour_114 (hR _)
                · refine x_aload_n hO 0 rfl rfl dX12_pour_75 ?_
                  refine x_bipush hO (v := 8) (by decide) dX12_pour_76 ?_
                  refine y_HI (x_callV hO lv_RX12_117 hx0 vc_12 (by decide) (As := [.int ((8 : Int32))]) rfl (Nat.le_of_ble_eq_true rfl) (ok_X12_is (cG Γ) h x0 ((8 : Int32)) hx0) dX12_pour_78 rfl (Nat.le_of_ble_eq_true rfl)) (fun r10 => ?_)
                  exact x_zret hO rfl dX12_pour_81 (hR _)
              · refine x_aload_n hO 0 rfl rfl dX12_pour_54 ?_
                refine x_iconst hO (v := 2) (by decide) dX12_pour_55 ?_
                refine y_HI (x_callV hO lv_RX12_117 hx0 vc_12 (by decide) (As := [.int ((2 : Int32))]) rfl (Nat.le_of_ble_eq_true rfl) (ok_X12_is (cG Γ) h x0 ((2 : Int32)) hx0) dX12_pour_56 rfl (Nat.le_of_ble_eq_true rfl)) (fun r11 => ?_)
                exact x_zret hO rfl dX12_pour_59 (hR _)
          · refine x_aload_n hO 0 rfl rfl dX12_pour_28 ?_
            refine x_iconst hO (v := 1) (by decide) dX12_pour_29 ?_
            refine y_HI (x_callV hO lv_RX12_117 hx0 vc_12 (by decide) (As := [.int ((1 : Int32))]) rfl (Nat.le_of_ble_eq_true rfl) (ok_X12_is (cG Γ) h x0 ((1 : Int32)) hx0) dX12_pour_30 rfl (Nat.le_of_ble_eq_true rfl)) (fun r12 => ?_)
            exact x_zret hO rfl dX12_pour_33 (hR _)
theorem ok_X12_pour (G : Gl) (h : Hp) (x0 : Nat) (x1 : Int32) (x2 : Int32) (x3 : Int32) (x4 : Int32) (x5 : Int32) (hx0 : Is x0 12) : CN G mX12_pour [.ref (gb G + x0), .int x1, .int x2, .int x3, .int x4, .int x5] h ((F_X12_pour h x0 x1 x2 x3 x4 x5).map (emHI)) := CN.fn pn_RX12 (Nat.le_of_ble_eq_true rfl) (fun Γ hG hO => by subst hG; exact go_X12_pour hO h x0 x1 x2 x3 x4 x5 hx0 (fun _ q => q))
noncomputable def B_X12_punch_68 (h : Hp) (x0 : Nat) (x1 : Int32) (x2 : Int32) (x3 : Int32) (x4 : Int32) : Option ((Int32) ⊕ (Unit ⊕ (Hp × Int32))) :=
  if ((8 : Int32)) ≤ x4 then some (.inr (.inl (()))) else gd (ib ((((60 : Int32)) * x1) + x4) (LEN (GR x0 6))) ((F_X12_isFrom h (hL h (GR x0 6) (nx ((((60 : Int32)) * x1) + x4))) ((0 : Int64)) ((4095 : Int64))).bind (fun r1 => if r1 = 0 then (F_X12_refuse h x0 ((5 : Int32))).bind (fun r2 => some (.inr (.inr ((r2.1, r2.2))))) else some (.inl (x4 + (1 : Int32)))))
noncomputable def L_X12_punch_68 (h : Hp) (x0 : Nat) (x1 : Int32) (x2 : Int32) (x3 : Int32) (x4 : Int32) : Option (Unit ⊕ (Hp × Int32)) := iterW (fun s : Int32 => B_X12_punch_68 h x0 x1 x2 x3 s) x4
set_option maxHeartbeats 4000000 in
set_option maxRecDepth 100000 in
theorem go_X12_punch_B68 {Γ : Cx} (hO : Ok Γ mX12_punch) (h : Hp) (x0 : Nat) (x1 : Int32) (x2 : Int32) (x3 : Int32) (x4 : Int32) (hx0 : Is x0 12) {K : (Int32) ⊕ (Unit ⊕ (Hp × Int32)) → Prop} (hC : ∀ (x4 : Int32), K (.inl x4) → EW Γ mX12_punch 68 [(0, rf Γ x0), (1, .int x1), (2, .int x2), (3, .int x3), (4, .int x4)] [] h) (hE109 : K (.inr (.inl (()))) → EW Γ mX12_punch 109 [(0, rf Γ x0), (1, .int x1), (2, .int x2), (3, .int x3)] [] h) (hR : ∀ r, K (.inr (.inr r)) → emHI r = tgt Γ) : EG Γ mX12_punch 68 [(0, rf Γ x0), (1, .int x1), (2, .int x2), (3, .int x3), (4, .int x4)] [] h (B_X12_punch_68 h x0 x1 x2 x3 x4) K := by
  unfold B_X12_punch_68
  refine x_iload hO 4 rfl dX12_punch_68 ?_
  refine x_bipush hO (v := 8) (by decide) dX12_punch_70 ?_
  refine x_icmp_ge hO (tg := 109) dX12_punch_72 (by decide) ?_ ?_
  · exact x_leafs [0, 1, 2, 3] rfl hE109
  · refine x_aload_n hO 0 rfl rfl dX12_punch_75 ?_
    refine x_getR hO fl_RX12_23 hx0 dX12_punch_76 ?_
    refine x_bipush hO (v := 60) (by decide) dX12_punch_79 ?_
    refine x_iload_n hO 1 rfl rfl dX12_punch_81 ?_
    refine x_imul hO dX12_punch_82 ?_
    refine x_iload hO 4 rfl dX12_punch_83 ?_
    refine x_iadd hO dX12_punch_85 ?_
    refine x_lald hO (gr_12_6 hx0) dX12_punch_86 ?_
    refine x_lconst hO (v := 0) (by decide) dX12_punch_87 ?_
    refine x_ldc2 hO cn_RX12_140 dX12_punch_88 ?_
    refine y_PI (x_callS hO lt_RX12_142 (As := [.long (hL h (GR x0 6) (nx ((((60 : Int32)) * x1) + x4))), .long ((0 : Int64)), .long ((4095 : Int64))]) rfl (Nat.le_of_ble_eq_true rfl) (ok_X12_isFrom (cG Γ) h (hL h (GR x0 6) (nx ((((60 : Int32)) * x1) + x4))) ((0 : Int64)) ((4095 : Int64))) dX12_punch_91 rfl (Nat.le_of_ble_eq_true rfl)) (fun r1 => ?_)
    refine x_if_ne hO (tg := 103) dX12_punch_94 (by decide) ?_ ?_
    · refine x_iinc hO 4 (v := 1) [(4, .int (x4 + (1 : Int32))), (0, rf Γ x0), (1, .int x1), (2, .int x2), (3, .int x3)] dX12_punch_103 rfl (by decide) (by decide) rfl ?_
      refine x_goto hO (tg := 68) dX12_punch_106 (by decide) ?_
      exact x_leafs [1, 2, 3, 4, 0] rfl (hC (x4 + (1 : Int32)))
    · refine x_aload_n hO 0 rfl rfl dX12_punch_97 ?_
      refine x_iconst hO (v := 5) (by decide) dX12_punch_98 ?_
      refine y_HI (x_callV hO lv_RX12_137 hx0 vc_12 (by decide) (As := [.int ((5 : Int32))]) rfl (Nat.le_of_ble_eq_true rfl) (ok_X12_refuse (cG Γ) h x0 ((5 : Int32)) hx0) dX12_punch_99 rfl (Nat.le_of_ble_eq_true rfl)) (fun r2 => ?_)
      exact x_iret hO rfl dX12_punch_102 (hR _)
set_option maxHeartbeats 4000000 in
set_option maxRecDepth 100000 in
theorem go_X12_punch_L68 {Γ : Cx} (hO : Ok Γ mX12_punch) (h : Hp) (x0 : Nat) (x1 : Int32) (x2 : Int32) (x3 : Int32) (x4 : Int32) (hx0 : Is x0 12) {K : Unit ⊕ (Hp × Int32) → Prop} (hE109 : K (.inl (())) → EW Γ mX12_punch 109 [(0, rf Γ x0), (1, .int x1), (2, .int x2), (3, .int x3)] [] h) (hR : ∀ r, K (.inr r) → emHI r = tgt Γ) : EG Γ mX12_punch 68 [(0, rf Γ x0), (1, .int x1), (2, .int x2), (3, .int x3), (4, .int x4)] [] h (L_X12_punch_68 h x0 x1 x2 x3 x4) K := by
  have q := x_loop (Γ := Γ) (M := mX12_punch) (pc := 68) (B := fun s : Int32 => B_X12_punch_68 h x0 x1 x2 x3 s) (lvf := fun s => [(0, rf Γ x0), (1, .int x1), (2, .int x2), (3, .int x3), (4, .int s)]) (hf := fun s => h) (Ky := K) (fun s => go_X12_punch_B68 hO h x0 x1 x2 x3 s hx0 (fun _ => id) hE109 hR) x4
  exact q
noncomputable def B_X12_punch_133 (h : Hp) (x0 : Nat) (x1 : Int32) (x2 : Int32) (x3 : Int32) (x4 : Int32) (x5 : Int32) : Option ((Hp × Int32) ⊕ (Hp)) :=
  if ((8 : Int32)) ≤ x5 then some (.inr h) else gd (ib ((((60 : Int32)) * x1) + x5) (LEN (GR x0 6))) (gd (ib ((((8 : Int32)) + (((11 : Int32)) * x4)) + x5) (LEN (GR x0 0))) (some (.inl (uI h (GR x0 0) (nx ((((8 : Int32)) + (((11 : Int32)) * x4)) + x5)) ((hL h (GR x0 6) (nx ((((60 : Int32)) * x1) + x5))).toInt32), x5 + (1 : Int32)))))
noncomputable def L_X12_punch_133 (h : Hp) (x0 : Nat) (x1 : Int32) (x2 : Int32) (x3 : Int32) (x4 : Int32) (x5 : Int32) : Option (Hp) := iterW (fun s : Hp × Int32 => B_X12_punch_133 s.1 x0 x1 x2 x3 x4 s.2) (h, x5)
set_option maxHeartbeats 4000000 in
set_option maxRecDepth 100000 in
theorem go_X12_punch_B133 {Γ : Cx} (hO : Ok Γ mX12_punch) (h : Hp) (x0 : Nat) (x1 : Int32) (x2 : Int32) (x3 : Int32) (x4 : Int32) (x5 : Int32) (hx0 : Is x0 12) {K : (Hp × Int32) ⊕ (Hp) → Prop} (hC : ∀ (h : Hp) (x5 : Int32), K (.inl (h, x5)) → EW Γ mX12_punch 133 [(0, rf Γ x0), (1, .int x1), (2, .int x2), (3, .int x3), (4, .int x4), (5, .int x5)] [] h) (hE175 : ∀ (h : Hp), K (.inr h) → EW Γ mX12_punch 175 [(0, rf Γ x0), (2, .int x2), (3, .int x3), (4, .int x4)] [] h) : EG Γ mX12_punch 133 [(0, rf Γ x0), (1, .int x1), (2, .int x2), (3, .int x3), (4, .int x4), (5, .int x5)] [] h (B_X12_punch_133 h x0 x1 x2 x3 x4 x5) K := by
  unfold B_X12_punch_133
  refine x_iload hO 5 rfl dX12_punch_133 ?_
  refine x_bipush hO (v := 8) (by decide) dX12_punch_135 ?_
  refine x_icmp_ge hO (tg := 175) dX12_punch_137 (by decide) ?_ ?_
  · exact x_leafs [0, 2, 3, 4] rfl (hE175 h)
  · refine x_aload_n hO 0 rfl rfl dX12_punch_140 ?_
    refine x_getR hO fl_RX12_7 hx0 dX12_punch_141 ?_
    refine x_bipush hO (v := 8) (by decide) dX12_punch_144 ?_
    refine x_bipush hO (v := 11) (by decide) dX12_punch_146 ?_
    refine x_iload hO 4 rfl dX12_punch_148 ?_
    refine x_imul hO dX12_punch_150 ?_
    refine x_iadd hO dX12_punch_151 ?_
    refine x_iload hO 5 rfl dX12_punch_152 ?_
    refine x_iadd hO dX12_punch_154 ?_
    refine x_aload_n hO 0 rfl rfl dX12_punch_155 ?_
    refine x_getR hO fl_RX12_23 hx0 dX12_punch_156 ?_
    refine x_bipush hO (v := 60) (by decide) dX12_punch_159 ?_
    refine x_iload_n hO 1 rfl rfl dX12_punch_161 ?_
    refine x_imul hO dX12_punch_162 ?_
    refine x_iload hO 5 rfl dX12_punch_163 ?_
    refine x_iadd hO dX12_punch_165 ?_
    refine x_lald hO (gr_12_6 hx0) dX12_punch_166 ?_
    refine x_l2i hO dX12_punch_167 ?_
    refine x_iast hO (gr_12_0 hx0) dX12_punch_168 ?_
    refine x_iinc hO 5 (v := 1) [(5, .int (x5 + (1 : Int32))), (0, rf Γ x0), (1, .int x1), (2, .int x2), (3, .int x3), (4, .int x4)] dX12_punch_169 rfl (by decide) (by decide) rfl ?_
    refine x_goto hO (tg := 133) dX12_punch_172 (by decide) ?_
    exact x_leafs [1, 2, 3, 4, 5, 0] rfl (hC (uI h (GR x0 0) (nx ((((8 : Int32)) + (((11 : Int32)) * x4)) + x5)) ((hL h (GR x0 6) (nx ((((60 : Int32)) * x1) + x5))).toInt32)) (x5 + (1 : Int32)))
set_option maxHeartbeats 4000000 in
set_option maxRecDepth 100000 in
theorem go_X12_punch_L133 {Γ : Cx} (hO : Ok Γ mX12_punch) (h : Hp) (x0 : Nat) (x1 : Int32) (x2 : Int32) (x3 : Int32) (x4 : Int32) (x5 : Int32) (hx0 : Is x0 12) {K : Hp → Prop} (hE175 : ∀ (h : Hp), K (h) → EW Γ mX12_punch 175 [(0, rf Γ x0), (2, .int x2), (3, .int x3), (4, .int x4)] [] h) : EG Γ mX12_punch 133 [(0, rf Γ x0), (1, .int x1), (2, .int x2), (3, .int x3), (4, .int x4), (5, .int x5)] [] h (L_X12_punch_133 h x0 x1 x2 x3 x4 x5) K := by
  have q := x_loop (Γ := Γ) (M := mX12_punch) (pc := 133) (B := fun s : Hp × Int32 => B_X12_punch_133 s.1 x0 x1 x2 x3 x4 s.2) (lvf := fun s => [(0, rf Γ x0), (1, .int x1), (2, .int x2), (3, .int x3), (4, .int x4), (5, .int s.2)]) (hf := fun s => s.1) (Ky := K) (fun s => go_X12_punch_B133 hO s.1 x0 x1 x2 x3 x4 s.2 hx0 (fun _ _ => id) hE175) (h, x5)
  exact q
noncomputable def F_X12_punch (h : Hp) (x0 : Nat) (x1 : Int32) (x2 : Int32) (x3 : Int32) : Option (Hp × Int32) :=
  (F_X12_isTray h x1).bind (fun r1 => if r1 = 0 then (F_X12_refuse h x0 ((1 : Int32))).bind (fun r2 => some ((r2.1, r2.2))) else if x2 < 0 then (F_X12_refuse h x0 ((1 : Int32))).bind (fun r3 => some ((r3.1, r3.2))) else if ((1 : Int32)) < x2 then (F_X12_refuse h x0 ((1 : Int32))).bind (fun r4 => some ((r4.1, r4.2))) else if x3 < ((-1 : Int32)) then (F_X12_refuse h x0 ((1 : Int32))).bind (fun r5 => some ((r5.1, r5.2))) else if x3 ≤ ((1 : Int32)) then gd (ib x1 (LEN (GR x0 5))) (if (hI h (GR x0 5) (nx x1)) = ((-1 : Int32)) then (F_X12_refuse h x0 ((2 : Int32))).bind (fun r14 => some ((r14.1, r14.2))) else gd (ib x1 (LEN (GR x0 5))) (if ((8 : Int32)) ≤ (hI h (GR x0 5) (nx x1)) then (L_X12_punch_68 h x0 x1 x2 x3 ((0 : Int32))).bind (Sum.elim (fun e6 => gd (ib ((0 : Int32)) (LEN (GR x0 0))) (if (hI h (GR x0 0) (nx ((0 : Int32)))) = ((30 : Int32)) then (F_X12_refuse h x0 ((4 : Int32))).bind (fun r11 => some ((r11.1, r11.2))) else (L_X12_punch_133 h x0 x1 x2 x3 (hI h (GR x0 0) (nx ((0 : Int32)))) ((0 : Int32))).bind (fun e7 => gd (ib ((((8 : Int32)) + (((11 : Int32)) * (hI h (GR x0 0) (nx ((0 : Int32)))))) + ((8 : Int32))) (LEN (GR x0 0))) (gd (ib ((((8 : Int32)) + (((11 : Int32)) * (hI h (GR x0 0) (nx ((0 : Int32)))))) + ((9 : Int32))) (LEN (GR x0 0))) (bnd (uI (uI e7 (GR x0 0) (nx ((((8 : Int32)) + (((11 : Int32)) * (hI h (GR x0 0) (nx ((0 : Int32)))))) + ((8 : Int32)))) x2) (GR x0 0) (nx ((((8 : Int32)) + (((11 : Int32)) * (hI h (GR x0 0) (nx ((0 : Int32)))))) + ((9 : Int32)))) x3) (fun h8 => gd (ib ((((8 : Int32)) + (((11 : Int32)) * (hI h (GR x0 0) (nx ((0 : Int32)))))) + ((10 : Int32))) (LEN (GR x0 0))) (gd (ib (((338 : Int32)) + (hI h (GR x0 0) (nx ((0 : Int32))))) (LEN (GR x0 0))) (bnd (uI (uI h8 (GR x0 0) (nx ((((8 : Int32)) + (((11 : Int32)) * (hI h (GR x0 0) (nx ((0 : Int32)))))) + ((10 : Int32)))) ((0 : Int32))) (GR x0 0) (nx (((338 : Int32)) + (hI h (GR x0 0) (nx ((0 : Int32)))))) (hI h (GR x0 0) (nx ((0 : Int32))))) (fun h9 => gd (ib ((0 : Int32)) (LEN (GR x0 0))) (gd (ib ((0 : Int32)) (LEN (GR x0 0))) ((F_X12_gives (uI h9 (GR x0 0) (nx ((0 : Int32))) ((hI h9 (GR x0 0) (nx ((0 : Int32)))) + ((1 : Int32)))) x0 (hI h (GR x0 0) (nx ((0 : Int32))))).bind (fun r10 => some ((r10.1, r10.2)))))))))))))) (fun r12 => some r12)) else (F_X12_refuse h x0 ((3 : Int32))).bind (fun r13 => some ((r13.1, r13.2))))) else (F_X12_refuse h x0 ((1 : Int32))).bind (fun r15 => some ((r15.1, r15.2))))
set_option maxHeartbeats 4000000 in
set_option maxRecDepth 100000 in
theorem go_X12_punch {Γ : Cx} (hO : Ok Γ mX12_punch) (h : Hp) (x0 : Nat) (x1 : Int32) (x2 : Int32) (x3 : Int32) (hx0 : Is x0 12) {K : Hp × Int32 → Prop} (hR : ∀ r, K r → emHI r = tgt Γ) : EG Γ mX12_punch 0 [(0, rf Γ x0), (1, .int x1), (2, .int x2), (3, .int x3)] [] h (F_X12_punch h x0 x1 x2 x3) K := by
  unfold F_X12_punch
  refine x_iload_n hO 1 rfl rfl dX12_punch_0 ?_
  refine y_PI (x_callS hO lt_RX12_113 (As := [.int x1]) rfl (Nat.le_of_ble_eq_true rfl) (ok_X12_isTray (cG Γ) h x1) dX12_punch_1 rfl (Nat.le_of_ble_eq_true rfl)) (fun r1 => ?_)
  refine x_if_eq hO (tg := 26) dX12_punch_4 (by decide) ?_ ?_
  · refine x_aload_n hO 0 rfl rfl dX12_punch_26 ?_
    refine x_iconst hO (v := 1) (by decide) dX12_punch_27 ?_
    refine y_HI (x_callV hO lv_RX12_137 hx0 vc_12 (by decide) (As := [.int ((1 : Int32))]) rfl (Nat.le_of_ble_eq_true rfl) (ok_X12_refuse (cG Γ) h x0 ((1 : Int32)) hx0) dX12_punch_28 rfl (Nat.le_of_ble_eq_true rfl)) (fun r2 => ?_)
    exact x_iret hO rfl dX12_punch_31 (hR _)
  · refine x_iload_n hO 2 rfl rfl dX12_punch_7 ?_
    refine x_if_lt hO (tg := 26) dX12_punch_8 (by decide) ?_ ?_
    · refine x_aload_n hO 0 rfl rfl dX12_punch_26 ?_
      refine x_iconst hO (v := 1) (by decide) dX12_punch_27 ?_
      refine y_HI (x_callV hO lv_RX12_137 hx0 vc_12 (by decide) (As := [.int ((1 : Int32))]) rfl (Nat.le_of_ble_eq_true rfl) (ok_X12_refuse (cG Γ) h x0 ((1 : Int32)) hx0) dX12_punch_28 rfl (Nat.le_of_ble_eq_true rfl)) (fun r3 => ?_)
      exact x_iret hO rfl dX12_punch_31 (hR _)
    · refine x_iload_n hO 2 rfl rfl dX12_punch_11 ?_
      refine x_iconst hO (v := 1) (by decide) dX12_punch_12 ?_
      refine x_icmp_gt hO (tg := 26) dX12_punch_13 (by decide) ?_ ?_
      · refine x_aload_n hO 0 rfl rfl dX12_punch_26 ?_
        refine x_iconst hO (v := 1) (by decide) dX12_punch_27 ?_
        refine y_HI (x_callV hO lv_RX12_137 hx0 vc_12 (by decide) (As := [.int ((1 : Int32))]) rfl (Nat.le_of_ble_eq_true rfl) (ok_X12_refuse (cG Γ) h x0 ((1 : Int32)) hx0) dX12_punch_28 rfl (Nat.le_of_ble_eq_true rfl)) (fun r4 => ?_)
        exact x_iret hO rfl dX12_punch_31 (hR _)
      · refine x_iload_n hO 3 rfl rfl dX12_punch_16 ?_
        refine x_iconst hO (v := -1) (by decide) dX12_punch_17 ?_
        refine x_icmp_lt hO (tg := 26) dX12_punch_18 (by decide) ?_ ?_
        · refine x_aload_n hO 0 rfl rfl dX12_punch_26 ?_
          refine x_iconst hO (v := 1) (by decide) dX12_punch_27 ?_
          refine y_HI (x_callV hO lv_RX12_137 hx0 vc_12 (by decide) (As := [.int ((1 : Int32))]) rfl (Nat.le_of_ble_eq_true rfl) (ok_X12_refuse (cG Γ) h x0 ((1 : Int32)) hx0) dX12_punch_28 rfl (Nat.le_of_ble_eq_true rfl)) (fun r5 => ?_)
          exact x_iret hO rfl dX12_punch_31 (hR _)
        · refine x_iload_n hO 3 rfl rfl dX12_punch_21 ?_
          refine x_iconst hO (v := 1) (by decide) dX12_punch_22 ?_
          refine x_icmp_le hO (tg := 32) dX12_punch_23 (by decide) ?_ ?_
          · refine x_aload_n hO 0 rfl rfl dX12_punch_32 ?_
            refine x_getR hO fl_RX12_20 hx0 dX12_punch_33 ?_
            refine x_iload_n hO 1 rfl rfl dX12_punch_36 ?_
            refine x_iald hO (gr_12_5 hx0) dX12_punch_37 ?_
            refine x_iconst hO (v := -1) (by decide) dX12_punch_38 ?_
            refine x_icmp_ne hO (tg := 48) dX12_punch_39 (by decide) ?_ ?_
            · refine x_aload_n hO 0 rfl rfl dX12_punch_48 ?_
              refine x_getR hO fl_RX12_20 hx0 dX12_punch_49 ?_
              refine x_iload_n hO 1 rfl rfl dX12_punch_52 ?_
              refine x_iald hO (gr_12_5 hx0) dX12_punch_53 ?_
              refine x_bipush hO (v := 8) (by decide) dX12_punch_54 ?_
              refine x_icmp_ge hO (tg := 65) dX12_punch_56 (by decide) ?_ ?_
              · refine x_iconst hO (v := 0) (by decide) dX12_punch_65 ?_
                refine x_istore hO [(4, .int ((0 : Int32))), (0, rf Γ x0), (1, .int x1), (2, .int x2), (3, .int x3)] dX12_punch_66 (by decide) rfl ?_
                refine x_bind (x_sub [1, 2, 3, 4, 0] rfl (go_X12_punch_L68 hO h x0 x1 x2 x3 ((0 : Int32)) hx0 (fun hx => ?_) (fun r hr => by obtain ⟨z, q, k⟩ := hr; cases q; exact hR _ k)))
                refine x_run (t := (gd (ib ((0 : Int32)) (LEN (GR x0 0))) (if (hI h (GR x0 0) (nx ((0 : Int32)))) = ((30 : Int32)) then (F_X12_refuse h x0 ((4 : Int32))).bind (fun r11 => some ((r11.1, r11.2))) else (L_X12_punch_133 h x0 x1 x2 x3 (hI h (GR x0 0) (nx ((0 : Int32)))) ((0 : Int32))).bind (fun e7 => gd (ib ((((8 : Int32)) + (((11 : Int32)) * (hI h (GR x0 0) (nx ((0 : Int32)))))) + ((8 : Int32))) (LEN (GR x0 0))) (gd (ib ((((8 : Int32)) + (((11 : Int32)) * (hI h (GR x0 0) (nx ((0 : Int32)))))) + ((9 : Int32))) (LEN (GR x0 0))) (bnd (uI (uI e7 (GR x0 0) (nx ((((8 : Int32)) + (((11 : Int32)) * (hI h (GR x0 0) (nx ((0 : Int32)))))) + ((8 : Int32)))) x2) (GR x0 0) (nx ((((8 : Int32)) + (((11 : Int32)) * (hI h (GR x0 0) (nx ((0 : Int32)))))) + ((9 : Int32)))) x3) (fun h8 => gd (ib ((((8 : Int32)) + (((11 : Int32)) * (hI h (GR x0 0) (nx ((0 : Int32)))))) + ((10 : Int32))) (LEN (GR x0 0))) (gd (ib (((338 : Int32)) + (hI h (GR x0 0) (nx ((0 : Int32))))) (LEN (GR x0 0))) (bnd (uI (uI h8 (GR x0 0) (nx ((((8 : Int32)) + (((11 : Int32)) * (hI h (GR x0 0) (nx ((0 : Int32)))))) + ((10 : Int32)))) ((0 : Int32))) (GR x0 0) (nx (((338 : Int32)) + (hI h (GR x0 0) (nx ((0 : Int32)))))) (hI h (GR x0 0) (nx ((0 : Int32))))) (fun h9 => gd (ib ((0 : Int32)) (LEN (GR x0 0))) (gd (ib ((0 : Int32)) (LEN (GR x0 0))) ((F_X12_gives (uI h9 (GR x0 0) (nx ((0 : Int32))) ((hI h9 (GR x0 0) (nx ((0 : Int32)))) + ((1 : Int32)))) x0 (hI h (GR x0 0) (nx ((0 : Int32))))).bind (fun r10 => some ((r10.1, r10.2))))))))))))) : Option (Hp × Int32))) hx ?_
                refine x_aload_n hO 0 rfl rfl dX12_punch_109 ?_
                refine x_getR hO fl_RX12_7 hx0 dX12_punch_110 ?_
                refine x_iconst hO (v := 0) (by decide) dX12_punch_113 ?_
                refine x_iald hO (gr_12_0 hx0) dX12_punch_114 ?_
                refine x_istore hO [(4, .int (hI h (GR x0 0) (nx ((0 : Int32))))), (0, rf Γ x0), (1, .int x1), (2, .int x2), (3, .int x3)] dX12_punch_115 (by decide) rfl ?_
                refine x_iload hO 0 rfl dX12_punch_117 ?_
                refine x_bipush hO (v := 30) (by decide) dX12_punch_119 ?_
                refine x_icmp_ne hO (tg := 130) dX12_punch_121 (by decide) ?_ ?_
                · refine x_iconst hO (v := 0) (by decide) dX12_punch_130 ?_
                  refine x_istore hO [(5, .int ((0 : Int32))), (4, .int (hI h (GR x0 0) (nx ((0 : Int32))))), (0, rf Γ x0), (1, .int x1), (2, .int x2), (3, .int x3)] dX12_punch_131 (by decide) rfl ?_
                  refine x_bind (x_sub [2, 3, 4, 5, 1, 0] rfl (go_X12_punch_L133 hO h x0 x1 x2 x3 (hI h (GR x0 0) (nx ((0 : Int32)))) ((0 : Int32)) hx0 (fun y7_0 hx => ?_)))
                  refine x_run (t := (gd (ib ((((8 : Int32)) + (((11 : Int32)) * (hI h (GR x0 0) (nx ((0 : Int32)))))) + ((8 : Int32))) (LEN (GR x0 0))) (gd (ib ((((8 : Int32)) + (((11 : Int32)) * (hI h (GR x0 0) (nx ((0 : Int32)))))) + ((9 : Int32))) (LEN (GR x0 0))) (bnd (uI (uI y7_0 (GR x0 0) (nx ((((8 : Int32)) + (((11 : Int32)) * (hI h (GR x0 0) (nx ((0 : Int32)))))) + ((8 : Int32)))) x2) (GR x0 0) (nx ((((8 : Int32)) + (((11 : Int32)) * (hI h (GR x0 0) (nx ((0 : Int32)))))) + ((9 : Int32)))) x3) (fun h8 => gd (ib ((((8 : Int32)) + (((11 : Int32)) * (hI h (GR x0 0) (nx ((0 : Int32)))))) + ((10 : Int32))) (LEN (GR x0 0))) (gd (ib (((338 : Int32)) + (hI h (GR x0 0) (nx ((0 : Int32))))) (LEN (GR x0 0))) (bnd (uI (uI h8 (GR x0 0) (nx ((((8 : Int32)) + (((11 : Int32)) * (hI h (GR x0 0) (nx ((0 : Int32)))))) + ((10 : Int32)))) ((0 : Int32))) (GR x0 0) (nx (((338 : Int32)) + (hI h (GR x0 0) (nx ((0 : Int32)))))) (hI h (GR x0 0) (nx ((0 : Int32))))) (fun h9 => gd (ib ((0 : Int32)) (LEN (GR x0 0))) (gd (ib ((0 : Int32)) (LEN (GR x0 0))) ((F_X12_gives (uI h9 (GR x0 0) (nx ((0 : Int32))) ((hI h9 (GR x0 0) (nx ((0 : Int32)))) + ((1 : Int32)))) x0 (hI h (GR x0 0) (nx ((0 : Int32))))).bind (fun r10 => some ((r10.1, r10.2))))))))))) : Option (Hp × Int32))) hx ?_
                  refine x_aload_n hO 0 rfl rfl dX12_punch_175 ?_
                  refine x_getR hO fl_RX12_7 hx0 dX12_punch_176 ?_
                  refine x_bipush hO (v := 8) (by decide) dX12_punch_179 ?_
                  refine x_bipush hO (v := 11) (by decide) dX12_punch_181 ?_
                  refine x_iload hO 3 rfl dX12_punch_183 ?_
                  refine x_imul hO dX12_punch_185 ?_
                  refine x_iadd hO dX12_punch_186 ?_
                  refine x_bipush hO (v := 8) (by decide) dX12_punch_187 ?_
                  refine x_iadd hO dX12_punch_189 ?_
                  refine x_iload_n hO 1 rfl rfl dX12_punch_190 ?_
                  refine x_iast hO (gr_12_0 hx0) dX12_punch_191 ?_
                  refine x_aload_n hO 0 rfl rfl dX12_punch_192 ?_
                  refine x_getR hO fl_RX12_7 hx0 dX12_punch_193 ?_
                  refine x_bipush hO (v := 8) (by decide) dX12_punch_196 ?_
                  refine x_bipush hO (v := 11) (by decide) dX12_punch_198 ?_
                  refine x_iload hO 3 rfl dX12_punch_200 ?_
                  refine x_imul hO dX12_punch_202 ?_
                  refine x_iadd hO dX12_punch_203 ?_
                  refine x_bipush hO (v := 9) (by decide) dX12_punch_204 ?_
                  refine x_iadd hO dX12_punch_206 ?_
                  refine x_iload_n hO 2 rfl rfl dX12_punch_207 ?_
                  refine x_iast hO (gr_12_0 hx0) dX12_punch_208 ?_
                  refine x_bnd ?_
                  generalize uI (uI y7_0 (GR x0 0) (nx ((((8 : Int32)) + (((11 : Int32)) * (hI h (GR x0 0) (nx ((0 : Int32)))))) + ((8 : Int32)))) x2) (GR x0 0) (nx ((((8 : Int32)) + (((11 : Int32)) * (hI h (GR x0 0) (nx ((0 : Int32)))))) + ((9 : Int32)))) x3 = h8
                  refine x_aload_n hO 0 rfl rfl dX12_punch_209 ?_
                  refine x_getR hO fl_RX12_7 hx0 dX12_punch_210 ?_
                  refine x_bipush hO (v := 8) (by decide) dX12_punch_213 ?_
                  refine x_bipush hO (v := 11) (by decide) dX12_punch_215 ?_
                  refine x_iload hO 3 rfl dX12_punch_217 ?_
                  refine x_imul hO dX12_punch_219 ?_
                  refine x_iadd hO dX12_punch_220 ?_
                  refine x_bipush hO (v := 10) (by decide) dX12_punch_221 ?_
                  refine x_iadd hO dX12_punch_223 ?_
                  refine x_iconst hO (v := 0) (by decide) dX12_punch_224 ?_
                  refine x_iast hO (gr_12_0 hx0) dX12_punch_225 ?_
                  refine x_aload_n hO 0 rfl rfl dX12_punch_226 ?_
                  refine x_getR hO fl_RX12_7 hx0 dX12_punch_227 ?_
                  refine x_sipush hO (v := 338) (by decide) dX12_punch_230 ?_
                  refine x_iload hO 3 rfl dX12_punch_233 ?_
                  refine x_iadd hO dX12_punch_235 ?_
                  refine x_iload hO 3 rfl dX12_punch_236 ?_
                  refine x_iast hO (gr_12_0 hx0) dX12_punch_238 ?_
                  refine x_bnd ?_
                  generalize uI (uI h8 (GR x0 0) (nx ((((8 : Int32)) + (((11 : Int32)) * (hI h (GR x0 0) (nx ((0 : Int32)))))) + ((10 : Int32)))) ((0 : Int32))) (GR x0 0) (nx (((338 : Int32)) + (hI h (GR x0 0) (nx ((0 : Int32)))))) (hI h (GR x0 0) (nx ((0 : Int32)))) = h9
                  refine x_aload_n hO 0 rfl rfl dX12_punch_239 ?_
                  refine x_getR hO fl_RX12_7 hx0 dX12_punch_240 ?_
                  refine x_iconst hO (v := 0) (by decide) dX12_punch_243 ?_
                  refine x_dup2_ri hO dX12_punch_244 ?_
                  refine x_iald hO (gr_12_0 hx0) dX12_punch_245 ?_
                  refine x_iconst hO (v := 1) (by decide) dX12_punch_246 ?_
                  refine x_iadd hO dX12_punch_247 ?_
                  refine x_iast hO (gr_12_0 hx0) dX12_punch_248 ?_
                  refine x_aload_n hO 0 rfl rfl dX12_punch_249 ?_
                  refine x_iload hO 3 rfl dX12_punch_250 ?_
                  refine y_HI (x_callV hO lv_RX12_146 hx0 vc_12 (by decide) (As := [.int (hI h (GR x0 0) (nx ((0 : Int32))))]) rfl (Nat.le_of_ble_eq_true rfl) (ok_X12_gives (cG Γ) (uI h9 (GR x0 0) (nx ((0 : Int32))) ((hI h9 (GR x0 0) (nx ((0 : Int32)))) + ((1 : Int32)))) x0 (hI h (GR x0 0) (nx ((0 : Int32)))) hx0) dX12_punch_252 rfl (Nat.le_of_ble_eq_true rfl)) (fun r10 => ?_)
                  exact x_iret hO rfl dX12_punch_255 (hR _)
                · refine x_aload_n hO 1 rfl rfl dX12_punch_124 ?_
                  refine x_iconst hO (v := 4) (by decide) dX12_punch_125 ?_
                  refine y_HI (x_callV hO lv_RX12_137 hx0 vc_12 (by decide) (As := [.int ((4 : Int32))]) rfl (Nat.le_of_ble_eq_true rfl) (ok_X12_refuse (cG Γ) h x0 ((4 : Int32)) hx0) dX12_punch_126 rfl (Nat.le_of_ble_eq_true rfl)) (fun r11 => ?_)
                  exact x_iret hO rfl dX12_punch_129 (hR _)
              · refine x_aload_n hO 0 rfl rfl dX12_punch_59 ?_
                refine x_iconst hO (v := 3) (by decide) dX12_punch_60 ?_
                refine y_HI (x_callV hO lv_RX12_137 hx0 vc_12 (by decide) (As := [.int ((3 : Int32))]) rfl (Nat.le_of_ble_eq_true rfl) (ok_X12_refuse (cG Γ) h x0 ((3 : Int32)) hx0) dX12_punch_61 rfl (Nat.le_of_ble_eq_true rfl)) (fun r13 => ?_)
                exact x_iret hO rfl dX12_punch_64 (hR _)
            · refine x_aload_n hO 0 rfl rfl dX12_punch_42 ?_
              refine x_iconst hO (v := 2) (by decide) dX12_punch_43 ?_
              refine y_HI (x_callV hO lv_RX12_137 hx0 vc_12 (by decide) (As := [.int ((2 : Int32))]) rfl (Nat.le_of_ble_eq_true rfl) (ok_X12_refuse (cG Γ) h x0 ((2 : Int32)) hx0) dX12_punch_44 rfl (Nat.le_of_ble_eq_true rfl)) (fun r14 => ?_)
              exact x_iret hO rfl dX12_punch_47 (hR _)
          · refine x_aload_n hO 0 rfl rfl dX12_punch_26 ?_
            refine x_iconst hO (v := 1) (by decide) dX12_punch_27 ?_
            refine y_HI (x_callV hO lv_RX12_137 hx0 vc_12 (by decide) (As := [.int ((1 : Int32))]) rfl (Nat.le_of_ble_eq_true rfl) (ok_X12_refuse (cG Γ) h x0 ((1 : Int32)) hx0) dX12_punch_28 rfl (Nat.le_of_ble_eq_true rfl)) (fun r15 => ?_)
            exact x_iret hO rfl dX12_punch_31 (hR _)
theorem ok_X12_punch (G : Gl) (h : Hp) (x0 : Nat) (x1 : Int32) (x2 : Int32) (x3 : Int32) (hx0 : Is x0 12) : CN G mX12_punch [.ref (gb G + x0), .int x1, .int x2, .int x3] h ((F_X12_punch h x0 x1 x2 x3).map (emHI)) := CN.fn pn_RX12 (Nat.le_of_ble_eq_true rfl) (fun Γ hG hO => by subst hG; exact go_X12_punch hO h x0 x1 x2 x3 hx0 (fun _ q => q))
noncomputable def F_X12_ran (h : Hp) (x0 : Nat) (x1 : Int32) : Option (Hp × Int64) :=
  if x1 < 0 then (F_X12_refuse h x0 ((1 : Int32))).bind (fun r1 => some ((r1.1, r1.2.toInt64))) else if x1 ≤ ((2 : Int32)) then if (hI h x0 38) = ((-1 : Int32)) then (F_X12_refuse h x0 ((6 : Int32))).bind (fun r2 => some ((r2.1, r2.2.toInt64))) else if x1 = 0 then some ((uI h x0 1 ((0 : Int32)), hL (uI h x0 1 ((0 : Int32))) x0 36)) else if x1 = ((1 : Int32)) then some ((uI h x0 1 ((0 : Int32)), (hI (uI h x0 1 ((0 : Int32))) x0 37).toInt64)) else some ((uI h x0 1 ((0 : Int32)), (hI (uI h x0 1 ((0 : Int32))) x0 38).toInt64)) else (F_X12_refuse h x0 ((1 : Int32))).bind (fun r3 => some ((r3.1, r3.2.toInt64)))
set_option maxHeartbeats 4000000 in
set_option maxRecDepth 100000 in
theorem go_X12_ran {Γ : Cx} (hO : Ok Γ mX12_ran) (h : Hp) (x0 : Nat) (x1 : Int32) (hx0 : Is x0 12) {K : Hp × Int64 → Prop} (hR : ∀ r, K r → emHL r = tgt Γ) : EG Γ mX12_ran 0 [(0, rf Γ x0), (1, .int x1)] [] h (F_X12_ran h x0 x1) K := by
  unfold F_X12_ran
  refine x_iload_n hO 1 rfl rfl dX12_ran_0 ?_
  refine x_if_lt hO (tg := 9) dX12_ran_1 (by decide) ?_ ?_
  · refine x_aload_n hO 0 rfl rfl dX12_ran_9 ?_
    refine x_iconst hO (v := 1) (by decide) dX12_ran_10 ?_
    refine y_HI (x_callV hO lv_RX12_137 hx0 vc_12 (by decide) (As := [.int ((1 : Int32))]) rfl (Nat.le_of_ble_eq_true rfl) (ok_X12_refuse (cG Γ) h x0 ((1 : Int32)) hx0) dX12_ran_11 rfl (Nat.le_of_ble_eq_true rfl)) (fun r1 => ?_)
    refine x_i2l hO dX12_ran_14 ?_
    exact x_lret hO rfl dX12_ran_15 (hR _)
  · refine x_iload_n hO 1 rfl rfl dX12_ran_4 ?_
    refine x_iconst hO (v := 2) (by decide) dX12_ran_5 ?_
    refine x_icmp_le hO (tg := 16) dX12_ran_6 (by decide) ?_ ?_
    · refine x_aload_n hO 0 rfl rfl dX12_ran_16 ?_
      refine x_getI hO fl_RX12_77 hx0 dX12_ran_17 ?_
      refine x_iconst hO (v := -1) (by decide) dX12_ran_20 ?_
      refine x_icmp_ne hO (tg := 32) dX12_ran_21 (by decide) ?_ ?_
      · refine x_aload_n hO 0 rfl rfl dX12_ran_32 ?_
        refine x_iconst hO (v := 0) (by decide) dX12_ran_33 ?_
        refine x_putI hO fl_RX12_107 hx0 dX12_ran_34 ?_
        refine x_iload_n hO 1 rfl rfl dX12_ran_37 ?_
        refine x_if_ne hO (tg := 48) dX12_ran_38 (by decide) ?_ ?_
        · refine x_iload_n hO 1 rfl rfl dX12_ran_48 ?_
          refine x_iconst hO (v := 1) (by decide) dX12_ran_49 ?_
          refine x_icmp_ne hO (tg := 61) dX12_ran_50 (by decide) ?_ ?_
          · refine x_aload_n hO 0 rfl rfl dX12_ran_61 ?_
            refine x_getI hO fl_RX12_77 hx0 dX12_ran_62 ?_
            refine x_i2l hO dX12_ran_65 ?_
            exact x_lret hO rfl dX12_ran_66 (hR _)
          · refine x_aload_n hO 0 rfl rfl dX12_ran_53 ?_
            refine x_getI hO fl_RX12_343 hx0 dX12_ran_54 ?_
            refine x_i2l hO dX12_ran_57 ?_
            refine x_goto hO (tg := 66) dX12_ran_58 (by decide) ?_
            exact x_lret hO rfl dX12_ran_66 (hR _)
        · refine x_aload_n hO 0 rfl rfl dX12_ran_41 ?_
          refine x_getL hO fl_RX12_356 hx0 dX12_ran_42 ?_
          refine x_goto hO (tg := 66) dX12_ran_45 (by decide) ?_
          exact x_lret hO rfl dX12_ran_66 (hR _)
      · refine x_aload_n hO 0 rfl rfl dX12_ran_24 ?_
        refine x_bipush hO (v := 6) (by decide) dX12_ran_25 ?_
        refine y_HI (x_callV hO lv_RX12_137 hx0 vc_12 (by decide) (As := [.int ((6 : Int32))]) rfl (Nat.le_of_ble_eq_true rfl) (ok_X12_refuse (cG Γ) h x0 ((6 : Int32)) hx0) dX12_ran_27 rfl (Nat.le_of_ble_eq_true rfl)) (fun r2 => ?_)
        refine x_i2l hO dX12_ran_30 ?_
        exact x_lret hO rfl dX12_ran_31 (hR _)
    · refine x_aload_n hO 0 rfl rfl dX12_ran_9 ?_
      refine x_iconst hO (v := 1) (by decide) dX12_ran_10 ?_
      refine y_HI (x_callV hO lv_RX12_137 hx0 vc_12 (by decide) (As := [.int ((1 : Int32))]) rfl (Nat.le_of_ble_eq_true rfl) (ok_X12_refuse (cG Γ) h x0 ((1 : Int32)) hx0) dX12_ran_11 rfl (Nat.le_of_ble_eq_true rfl)) (fun r3 => ?_)
      refine x_i2l hO dX12_ran_14 ?_
      exact x_lret hO rfl dX12_ran_15 (hR _)
theorem ok_X12_ran (G : Gl) (h : Hp) (x0 : Nat) (x1 : Int32) (hx0 : Is x0 12) : CN G mX12_ran [.ref (gb G + x0), .int x1] h ((F_X12_ran h x0 x1).map (emHL)) := CN.fn pn_RX12 (Nat.le_of_ble_eq_true rfl) (fun Γ hG hO => by subst hG; exact go_X12_ran hO h x0 x1 hx0 (fun _ q => q))
noncomputable def B_X12_reads_36 (h : Hp) (x4 : Int32) (x5 : Int32) : Option ((Int32) ⊕ (Int32)) :=
  if ((x4 >>> (x5 &&& 31)) &&& ((1 : Int32))) = 0 then some (.inl (x5 + (1 : Int32))) else some (.inr x5)
noncomputable def L_X12_reads_36 (h : Hp) (x4 : Int32) (x5 : Int32) : Option (Int32) := iterW (fun s : Int32 => B_X12_reads_36 h x4 s) x5
set_option maxHeartbeats 4000000 in
set_option maxRecDepth 100000 in
theorem go_X12_reads_B36 {Γ : Cx} (hO : Ok Γ mX12_reads) (h : Hp) (x4 : Int32) (x5 : Int32) {K : (Int32) ⊕ (Int32) → Prop} (hC : ∀ (x5 : Int32), K (.inl x5) → EW Γ mX12_reads 36 [(4, .int x4), (5, .int x5)] [] h) (hR : ∀ r, K (.inr r) → emPI h r = tgt Γ) : EG Γ mX12_reads 36 [(4, .int x4), (5, .int x5)] [] h (B_X12_reads_36 h x4 x5) K := by
  unfold B_X12_reads_36
  refine x_iload hO 0 rfl dX12_reads_36 ?_
  refine x_iload hO 1 rfl dX12_reads_38 ?_
  refine x_ishr hO dX12_reads_40 ?_
  refine x_iconst hO (v := 1) (by decide) dX12_reads_41 ?_
  refine x_iand hO dX12_reads_42 ?_
  refine x_if_ne hO (tg := 52) dX12_reads_43 (by decide) ?_ ?_
  · refine x_iload hO 1 rfl dX12_reads_52 ?_
    exact x_iret hO rfl dX12_reads_54 (hR _)
  · refine x_iinc hO 1 (v := 1) [(5, .int (x5 + (1 : Int32))), (4, .int x4)] dX12_reads_46 rfl (by decide) (by decide) rfl ?_
    refine x_goto hO (tg := 36) dX12_reads_49 (by decide) ?_
    exact x_leafs [1, 0] rfl (hC (x5 + (1 : Int32)))
set_option maxHeartbeats 4000000 in
set_option maxRecDepth 100000 in
theorem go_X12_reads_L36 {Γ : Cx} (hO : Ok Γ mX12_reads) (h : Hp) (x4 : Int32) (x5 : Int32) {K : Int32 → Prop} (hR : ∀ r, K (r) → emPI h r = tgt Γ) : EG Γ mX12_reads 36 [(4, .int x4), (5, .int x5)] [] h (L_X12_reads_36 h x4 x5) K := by
  have q := x_loop (Γ := Γ) (M := mX12_reads) (pc := 36) (B := fun s : Int32 => B_X12_reads_36 h x4 s) (lvf := fun s => [(4, .int x4), (5, .int s)]) (hf := fun s => h) (Ky := K) (fun s => go_X12_reads_B36 hO h x4 s (fun _ => id) hR) x5
  exact q
noncomputable def F_X12_reads (h : Hp) (x0 : Nat) (x1 : Int32) (x2 : Int32) : Option (Int32) :=
  (F_X12_ofCard h x0 x1 x2).bind (fun r1 => if r1 = 0 then some ((10 : Int32)) else (F_X12_bits h (r1 &&& ((1023 : Int32)))).bind (fun r2 => if r2 = ((1 : Int32)) then L_X12_reads_36 h (r1 &&& ((1023 : Int32))) ((0 : Int32)) else some ((11 : Int32))))
set_option maxHeartbeats 4000000 in
set_option maxRecDepth 100000 in
theorem go_X12_reads {Γ : Cx} (hO : Ok Γ mX12_reads) (h : Hp) (x0 : Nat) (x1 : Int32) (x2 : Int32) (hx0 : Is x0 12) {K : Int32 → Prop} (hR : ∀ r, K r → emPI h r = tgt Γ) : EG Γ mX12_reads 0 [(0, rf Γ x0), (1, .int x1), (2, .int x2)] [] h (F_X12_reads h x0 x1 x2) K := by
  unfold F_X12_reads
  refine x_aload_n hO 0 rfl rfl dX12_reads_0 ?_
  refine x_iload_n hO 1 rfl rfl dX12_reads_1 ?_
  refine x_iload_n hO 2 rfl rfl dX12_reads_2 ?_
  refine y_PI (x_callV hO lv_RX12_130 hx0 vc_12 (by decide) (As := [.int x1, .int x2]) rfl (Nat.le_of_ble_eq_true rfl) (ok_X12_ofCard (cG Γ) h x0 x1 x2 hx0) dX12_reads_3 rfl (Nat.le_of_ble_eq_true rfl)) (fun r1 => ?_)
  refine x_istore_n hO rfl [(3, .int r1), (0, rf Γ x0), (1, .int x1), (2, .int x2)] dX12_reads_6 (by decide) rfl ?_
  refine x_iload_n hO 0 rfl rfl dX12_reads_7 ?_
  refine x_sipush hO (v := 1023) (by decide) dX12_reads_8 ?_
  refine x_iand hO dX12_reads_11 ?_
  refine x_istore hO [(4, .int (r1 &&& ((1023 : Int32)))), (3, .int r1), (0, rf Γ x0), (1, .int x1), (2, .int x2)] dX12_reads_12 (by decide) rfl ?_
  refine x_iload_n hO 1 rfl rfl dX12_reads_14 ?_
  refine x_if_ne hO (tg := 21) dX12_reads_15 (by decide) ?_ ?_
  · refine x_iload hO 0 rfl dX12_reads_21 ?_
    refine y_PI (x_callS hO lt_RX12_133 (As := [.int (r1 &&& ((1023 : Int32)))]) rfl (Nat.le_of_ble_eq_true rfl) (ok_X12_bits (cG Γ) h (r1 &&& ((1023 : Int32)))) dX12_reads_23 rfl (Nat.le_of_ble_eq_true rfl)) (fun r2 => ?_)
    refine x_iconst hO (v := 1) (by decide) dX12_reads_26 ?_
    refine x_icmp_eq hO (tg := 33) dX12_reads_27 (by decide) ?_ ?_
    · refine x_iconst hO (v := 0) (by decide) dX12_reads_33 ?_
      refine x_istore hO [(5, .int ((0 : Int32))), (4, .int (r1 &&& ((1023 : Int32)))), (3, .int r1), (0, rf Γ x0), (1, .int x1), (2, .int x2)] dX12_reads_34 (by decide) rfl ?_
      exact x_sub [1, 0] rfl (go_X12_reads_L36 hO h (r1 &&& ((1023 : Int32))) ((0 : Int32)) hR)
    · refine x_bipush hO (v := 11) (by decide) dX12_reads_30 ?_
      exact x_iret hO rfl dX12_reads_32 (hR _)
  · refine x_bipush hO (v := 10) (by decide) dX12_reads_18 ?_
    exact x_iret hO rfl dX12_reads_20 (hR _)
theorem ok_X12_reads (G : Gl) (h : Hp) (x0 : Nat) (x1 : Int32) (x2 : Int32) (hx0 : Is x0 12) : CN G mX12_reads [.ref (gb G + x0), .int x1, .int x2] h ((F_X12_reads h x0 x1 x2).map (emPI h)) := CN.fn pn_RX12 (Nat.le_of_ble_eq_true rfl) (fun Γ hG hO => by subst hG; exact go_X12_reads hO h x0 x1 x2 hx0 (fun _ q => q))
noncomputable def B_X12_tray_49 (h : Hp) (x0 : Nat) (x1 : Int32) (x3 : Int32) (x4 : Int32) : Option ((Hp × Int32) ⊕ (Hp × Int32)) :=
  if x3 ≤ x4 then (F_X12_is h x0 ((0 : Int32))).bind (fun r1 => some (.inr ((r1.1, r1.2 &&& 1)))) else gd (ib ((((60 : Int32)) * x1) + x4) (LEN (GR x0 6))) (some (.inl (uL h (GR x0 6) (nx ((((60 : Int32)) * x1) + x4)) ((0 : Int64)), x4 + (1 : Int32))))
noncomputable def L_X12_tray_49 (h : Hp) (x0 : Nat) (x1 : Int32) (x3 : Int32) (x4 : Int32) : Option (Hp × Int32) := iterW (fun s : Hp × Int32 => B_X12_tray_49 s.1 x0 x1 x3 s.2) (h, x4)
set_option maxHeartbeats 4000000 in
set_option maxRecDepth 100000 in
theorem go_X12_tray_B49 {Γ : Cx} (hO : Ok Γ mX12_tray) (h : Hp) (x0 : Nat) (x1 : Int32) (x3 : Int32) (x4 : Int32) (hx0 : Is x0 12) {K : (Hp × Int32) ⊕ (Hp × Int32) → Prop} (hC : ∀ (h : Hp) (x4 : Int32), K (.inl (h, x4)) → EW Γ mX12_tray 49 [(0, rf Γ x0), (1, .int x1), (3, .int x3), (4, .int x4)] [] h) (hR : ∀ r, K (.inr r) → emHI r = tgt Γ) : EG Γ mX12_tray 49 [(0, rf Γ x0), (1, .int x1), (3, .int x3), (4, .int x4)] [] h (B_X12_tray_49 h x0 x1 x3 x4) K := by
  unfold B_X12_tray_49
  refine x_iload hO 3 rfl dX12_tray_49 ?_
  refine x_iload_n hO 2 rfl rfl dX12_tray_51 ?_
  refine x_icmp_ge hO (tg := 74) dX12_tray_52 (by decide) ?_ ?_
  · refine x_aload_n hO 0 rfl rfl dX12_tray_74 ?_
    refine x_iconst hO (v := 0) (by decide) dX12_tray_75 ?_
    refine y_HI (x_callV hO lv_RX12_117 hx0 vc_12 (by decide) (As := [.int ((0 : Int32))]) rfl (Nat.le_of_ble_eq_true rfl) (ok_X12_is (cG Γ) h x0 ((0 : Int32)) hx0) dX12_tray_76 rfl (Nat.le_of_ble_eq_true rfl)) (fun r1 => ?_)
    exact x_zret hO rfl dX12_tray_79 (hR _)
  · refine x_aload_n hO 0 rfl rfl dX12_tray_55 ?_
    refine x_getR hO fl_RX12_23 hx0 dX12_tray_56 ?_
    refine x_bipush hO (v := 60) (by decide) dX12_tray_59 ?_
    refine x_iload_n hO 1 rfl rfl dX12_tray_61 ?_
    refine x_imul hO dX12_tray_62 ?_
    refine x_iload hO 3 rfl dX12_tray_63 ?_
    refine x_iadd hO dX12_tray_65 ?_
    refine x_lconst hO (v := 0) (by decide) dX12_tray_66 ?_
    refine x_last hO (gr_12_6 hx0) dX12_tray_67 ?_
    refine x_iinc hO 3 (v := 1) [(4, .int (x4 + (1 : Int32))), (0, rf Γ x0), (1, .int x1), (3, .int x3)] dX12_tray_68 rfl (by decide) (by decide) rfl ?_
    refine x_goto hO (tg := 49) dX12_tray_71 (by decide) ?_
    exact x_leafs [1, 2, 3, 0] rfl (hC (uL h (GR x0 6) (nx ((((60 : Int32)) * x1) + x4)) ((0 : Int64))) (x4 + (1 : Int32)))
set_option maxHeartbeats 4000000 in
set_option maxRecDepth 100000 in
theorem go_X12_tray_L49 {Γ : Cx} (hO : Ok Γ mX12_tray) (h : Hp) (x0 : Nat) (x1 : Int32) (x3 : Int32) (x4 : Int32) (hx0 : Is x0 12) {K : Hp × Int32 → Prop} (hR : ∀ r, K (r) → emHI r = tgt Γ) : EG Γ mX12_tray 49 [(0, rf Γ x0), (1, .int x1), (3, .int x3), (4, .int x4)] [] h (L_X12_tray_49 h x0 x1 x3 x4) K := by
  have q := x_loop (Γ := Γ) (M := mX12_tray) (pc := 49) (B := fun s : Hp × Int32 => B_X12_tray_49 s.1 x0 x1 x3 s.2) (lvf := fun s => [(0, rf Γ x0), (1, .int x1), (3, .int x3), (4, .int s.2)]) (hf := fun s => s.1) (Ky := K) (fun s => go_X12_tray_B49 hO s.1 x0 x1 x3 s.2 hx0 (fun _ _ => id) hR) (h, x4)
  exact q
noncomputable def F_X12_tray (h : Hp) (x0 : Nat) (x1 : Int32) (x2 : Int32) (x3 : Int32) : Option (Hp × Int32) :=
  (F_X12_isTray h x1).bind (fun r1 => if r1 = 0 then (F_X12_is h x0 ((1 : Int32))).bind (fun r2 => some ((r2.1, r2.2 &&& 1))) else if x2 < 0 then (F_X12_is h x0 ((1 : Int32))).bind (fun r3 => some ((r3.1, r3.2 &&& 1))) else if ((3 : Int32)) < x2 then (F_X12_is h x0 ((1 : Int32))).bind (fun r4 => some ((r4.1, r4.2 &&& 1))) else if x3 < 0 then (F_X12_is h x0 ((1 : Int32))).bind (fun r5 => some ((r5.1, r5.2 &&& 1))) else if x3 ≤ ((60 : Int32)) then gd (ib x1 (LEN (GR x0 4))) (gd (ib x1 (LEN (GR x0 5))) (L_X12_tray_49 (uI (uI h (GR x0 4) (nx x1) x2) (GR x0 5) (nx x1) x3) x0 x1 x3 ((0 : Int32)))) else (F_X12_is h x0 ((1 : Int32))).bind (fun r6 => some ((r6.1, r6.2 &&& 1))))
set_option maxHeartbeats 4000000 in
set_option maxRecDepth 100000 in
theorem go_X12_tray {Γ : Cx} (hO : Ok Γ mX12_tray) (h : Hp) (x0 : Nat) (x1 : Int32) (x2 : Int32) (x3 : Int32) (hx0 : Is x0 12) {K : Hp × Int32 → Prop} (hR : ∀ r, K r → emHI r = tgt Γ) : EG Γ mX12_tray 0 [(0, rf Γ x0), (1, .int x1), (2, .int x2), (3, .int x3)] [] h (F_X12_tray h x0 x1 x2 x3) K := by
  unfold F_X12_tray
  refine x_iload_n hO 1 rfl rfl dX12_tray_0 ?_
  refine y_PI (x_callS hO lt_RX12_113 (As := [.int x1]) rfl (Nat.le_of_ble_eq_true rfl) (ok_X12_isTray (cG Γ) h x1) dX12_tray_1 rfl (Nat.le_of_ble_eq_true rfl)) (fun r1 => ?_)
  refine x_if_eq hO (tg := 26) dX12_tray_4 (by decide) ?_ ?_
  · refine x_aload_n hO 0 rfl rfl dX12_tray_26 ?_
    refine x_iconst hO (v := 1) (by decide) dX12_tray_27 ?_
    refine y_HI (x_callV hO lv_RX12_117 hx0 vc_12 (by decide) (As := [.int ((1 : Int32))]) rfl (Nat.le_of_ble_eq_true rfl) (ok_X12_is (cG Γ) h x0 ((1 : Int32)) hx0) dX12_tray_28 rfl (Nat.le_of_ble_eq_true rfl)) (fun r2 => ?_)
    exact x_zret hO rfl dX12_tray_31 (hR _)
  · refine x_iload_n hO 2 rfl rfl dX12_tray_7 ?_
    refine x_if_lt hO (tg := 26) dX12_tray_8 (by decide) ?_ ?_
    · refine x_aload_n hO 0 rfl rfl dX12_tray_26 ?_
      refine x_iconst hO (v := 1) (by decide) dX12_tray_27 ?_
      refine y_HI (x_callV hO lv_RX12_117 hx0 vc_12 (by decide) (As := [.int ((1 : Int32))]) rfl (Nat.le_of_ble_eq_true rfl) (ok_X12_is (cG Γ) h x0 ((1 : Int32)) hx0) dX12_tray_28 rfl (Nat.le_of_ble_eq_true rfl)) (fun r3 => ?_)
      exact x_zret hO rfl dX12_tray_31 (hR _)
    · refine x_iload_n hO 2 rfl rfl dX12_tray_11 ?_
      refine x_iconst hO (v := 3) (by decide) dX12_tray_12 ?_
      refine x_icmp_gt hO (tg := 26) dX12_tray_13 (by decide) ?_ ?_
      · refine x_aload_n hO 0 rfl rfl dX12_tray_26 ?_
        refine x_iconst hO (v := 1) (by decide) dX12_tray_27 ?_
        refine y_HI (x_callV hO lv_RX12_117 hx0 vc_12 (by decide) (As := [.int ((1 : Int32))]) rfl (Nat.le_of_ble_eq_true rfl) (ok_X12_is (cG Γ) h x0 ((1 : Int32)) hx0) dX12_tray_28 rfl (Nat.le_of_ble_eq_true rfl)) (fun r4 => ?_)
        exact x_zret hO rfl dX12_tray_31 (hR _)
      · refine x_iload_n hO 3 rfl rfl dX12_tray_16 ?_
        refine x_if_lt hO (tg := 26) dX12_tray_17 (by decide) ?_ ?_
        · refine x_aload_n hO 0 rfl rfl dX12_tray_26 ?_
          refine x_iconst hO (v := 1) (by decide) dX12_tray_27 ?_
          refine y_HI (x_callV hO lv_RX12_117 hx0 vc_12 (by decide) (As := [.int ((1 : Int32))]) rfl (Nat.le_of_ble_eq_true rfl) (ok_X12_is (cG Γ) h x0 ((1 : Int32)) hx0) dX12_tray_28 rfl (Nat.le_of_ble_eq_true rfl)) (fun r5 => ?_)
          exact x_zret hO rfl dX12_tray_31 (hR _)
        · refine x_iload_n hO 3 rfl rfl dX12_tray_20 ?_
          refine x_bipush hO (v := 60) (by decide) dX12_tray_21 ?_
          refine x_icmp_le hO (tg := 32) dX12_tray_23 (by decide) ?_ ?_
          · refine x_aload_n hO 0 rfl rfl dX12_tray_32 ?_
            refine x_getR hO fl_RX12_17 hx0 dX12_tray_33 ?_
            refine x_iload_n hO 1 rfl rfl dX12_tray_36 ?_
            refine x_iload_n hO 2 rfl rfl dX12_tray_37 ?_
            refine x_iast hO (gr_12_4 hx0) dX12_tray_38 ?_
            refine x_aload_n hO 0 rfl rfl dX12_tray_39 ?_
            refine x_getR hO fl_RX12_20 hx0 dX12_tray_40 ?_
            refine x_iload_n hO 1 rfl rfl dX12_tray_43 ?_
            refine x_iload_n hO 3 rfl rfl dX12_tray_44 ?_
            refine x_iast hO (gr_12_5 hx0) dX12_tray_45 ?_
            refine x_iconst hO (v := 0) (by decide) dX12_tray_46 ?_
            refine x_istore hO [(4, .int ((0 : Int32))), (0, rf Γ x0), (1, .int x1), (2, .int x2), (3, .int x3)] dX12_tray_47 (by decide) rfl ?_
            exact x_sub [1, 2, 4, 0] rfl (go_X12_tray_L49 hO (uI (uI h (GR x0 4) (nx x1) x2) (GR x0 5) (nx x1) x3) x0 x1 x3 ((0 : Int32)) hx0 hR)
          · refine x_aload_n hO 0 rfl rfl dX12_tray_26 ?_
            refine x_iconst hO (v := 1) (by decide) dX12_tray_27 ?_
            refine y_HI (x_callV hO lv_RX12_117 hx0 vc_12 (by decide) (As := [.int ((1 : Int32))]) rfl (Nat.le_of_ble_eq_true rfl) (ok_X12_is (cG Γ) h x0 ((1 : Int32)) hx0) dX12_tray_28 rfl (Nat.le_of_ble_eq_true rfl)) (fun r6 => ?_)
            exact x_zret hO rfl dX12_tray_31 (hR _)
theorem ok_X12_tray (G : Gl) (h : Hp) (x0 : Nat) (x1 : Int32) (x2 : Int32) (x3 : Int32) (hx0 : Is x0 12) : CN G mX12_tray [.ref (gb G + x0), .int x1, .int x2, .int x3] h ((F_X12_tray h x0 x1 x2 x3).map (emHI)) := CN.fn pn_RX12 (Nat.le_of_ble_eq_true rfl) (fun Γ hG hO => by subst hG; exact go_X12_tray hO h x0 x1 x2 x3 hx0 (fun _ q => q))
noncomputable def B_X12_turns_6 (h : Hp) (x0 : Nat) (x1 : Int32) : Option ((Hp × Int32) ⊕ (Hp)) :=
  gd (ib ((0 : Int32)) (LEN (GR x0 0))) (if (hI h (GR x0 0) (nx ((0 : Int32)))) ≤ x1 then some (.inr h) else gd (ib ((0 : Int32)) (LEN (GR x0 0))) (gd (ib (((hI h (GR x0 0) (nx ((0 : Int32)))) - ((1 : Int32))) - x1) (LEN (GR x0 25))) (gd (ib (((338 : Int32)) + x1) (LEN (GR x0 0))) (some (.inl (uI h (GR x0 0) (nx (((338 : Int32)) + x1)) (hI h (GR x0 25) (nx (((hI h (GR x0 0) (nx ((0 : Int32)))) - ((1 : Int32))) - x1))), x1 + (1 : Int32)))))))
noncomputable def L_X12_turns_6 (h : Hp) (x0 : Nat) (x1 : Int32) : Option (Hp) := iterW (fun s : Hp × Int32 => B_X12_turns_6 s.1 x0 s.2) (h, x1)
set_option maxHeartbeats 4000000 in
set_option maxRecDepth 100000 in
theorem go_X12_turns_B6 {Γ : Cx} (hO : Ok Γ mX12_turns) (h : Hp) (x0 : Nat) (x1 : Int32) (hx0 : Is x0 12) {K : (Hp × Int32) ⊕ (Hp) → Prop} (hC : ∀ (h : Hp) (x1 : Int32), K (.inl (h, x1)) → EW Γ mX12_turns 6 [(0, rf Γ x0), (1, .int x1)] [] h) (hR : ∀ r, K (.inr r) → emHV r = tgt Γ) : EG Γ mX12_turns 6 [(0, rf Γ x0), (1, .int x1)] [] h (B_X12_turns_6 h x0 x1) K := by
  unfold B_X12_turns_6
  refine x_iload_n hO 1 rfl rfl dX12_turns_6 ?_
  refine x_aload_n hO 0 rfl rfl dX12_turns_7 ?_
  refine x_getR hO fl_RX12_7 hx0 dX12_turns_8 ?_
  refine x_iconst hO (v := 0) (by decide) dX12_turns_11 ?_
  refine x_iald hO (gr_12_0 hx0) dX12_turns_12 ?_
  refine x_icmp_ge hO (tg := 47) dX12_turns_13 (by decide) ?_ ?_
  · exact x_vret hO rfl dX12_turns_47 (hR _)
  · refine x_aload_n hO 0 rfl rfl dX12_turns_16 ?_
    refine x_getR hO fl_RX12_7 hx0 dX12_turns_17 ?_
    refine x_sipush hO (v := 338) (by decide) dX12_turns_20 ?_
    refine x_iload_n hO 1 rfl rfl dX12_turns_23 ?_
    refine x_iadd hO dX12_turns_24 ?_
    refine x_aload_n hO 0 rfl rfl dX12_turns_25 ?_
    refine x_getR hO fl_RX12_56 hx0 dX12_turns_26 ?_
    refine x_aload_n hO 0 rfl rfl dX12_turns_29 ?_
    refine x_getR hO fl_RX12_7 hx0 dX12_turns_30 ?_
    refine x_iconst hO (v := 0) (by decide) dX12_turns_33 ?_
    refine x_iald hO (gr_12_0 hx0) dX12_turns_34 ?_
    refine x_iconst hO (v := 1) (by decide) dX12_turns_35 ?_
    refine x_isub hO dX12_turns_36 ?_
    refine x_iload_n hO 1 rfl rfl dX12_turns_37 ?_
    refine x_isub hO dX12_turns_38 ?_
    refine x_iald hO (gr_12_25 hx0) dX12_turns_39 ?_
    refine x_iast hO (gr_12_0 hx0) dX12_turns_40 ?_
    refine x_iinc hO 1 (v := 1) [(1, .int (x1 + (1 : Int32))), (0, rf Γ x0)] dX12_turns_41 rfl (by decide) (by decide) rfl ?_
    refine x_goto hO (tg := 6) dX12_turns_44 (by decide) ?_
    exact x_leafs [1, 0] rfl (hC (uI h (GR x0 0) (nx (((338 : Int32)) + x1)) (hI h (GR x0 25) (nx (((hI h (GR x0 0) (nx ((0 : Int32)))) - ((1 : Int32))) - x1)))) (x1 + (1 : Int32)))
set_option maxHeartbeats 4000000 in
set_option maxRecDepth 100000 in
theorem go_X12_turns_L6 {Γ : Cx} (hO : Ok Γ mX12_turns) (h : Hp) (x0 : Nat) (x1 : Int32) (hx0 : Is x0 12) {K : Hp → Prop} (hR : ∀ r, K (r) → emHV r = tgt Γ) : EG Γ mX12_turns 6 [(0, rf Γ x0), (1, .int x1)] [] h (L_X12_turns_6 h x0 x1) K := by
  have q := x_loop (Γ := Γ) (M := mX12_turns) (pc := 6) (B := fun s : Hp × Int32 => B_X12_turns_6 s.1 x0 s.2) (lvf := fun s => [(0, rf Γ x0), (1, .int s.2)]) (hf := fun s => s.1) (Ky := K) (fun s => go_X12_turns_B6 hO s.1 x0 s.2 hx0 (fun _ _ => id) hR) (h, x1)
  exact q
noncomputable def F_X12_turns (h : Hp) (x0 : Nat) : Option (Hp) :=
  (F_X12_takes h x0).bind (fun r1 => L_X12_turns_6 r1 x0 ((0 : Int32)))
set_option maxHeartbeats 4000000 in
set_option maxRecDepth 100000 in
theorem go_X12_turns {Γ : Cx} (hO : Ok Γ mX12_turns) (h : Hp) (x0 : Nat) (hx0 : Is x0 12) {K : Hp → Prop} (hR : ∀ r, K r → emHV r = tgt Γ) : EG Γ mX12_turns 0 [(0, rf Γ x0)] [] h (F_X12_turns h x0) K := by
  unfold F_X12_turns
  refine x_aload_n hO 0 rfl rfl dX12_turns_0 ?_
  refine y_HV (x_callV hO lv_RX12_283 hx0 vc_12 (by decide) (As := []) rfl (Nat.le_of_ble_eq_true rfl) (ok_X12_takes (cG Γ) h x0 hx0) dX12_turns_1 rfl (Nat.le_of_ble_eq_true rfl)) (fun r1 => ?_)
  refine x_iconst hO (v := 0) (by decide) dX12_turns_4 ?_
  refine x_istore_n hO rfl [(1, .int ((0 : Int32))), (0, rf Γ x0)] dX12_turns_5 (by decide) rfl ?_
  exact x_sub [1, 0] rfl (go_X12_turns_L6 hO r1 x0 ((0 : Int32)) hx0 hR)
theorem ok_X12_turns (G : Gl) (h : Hp) (x0 : Nat) (hx0 : Is x0 12) : CN G mX12_turns [.ref (gb G + x0)] h ((F_X12_turns h x0).map (emHV)) := CN.fn pn_RX12 (Nat.le_of_ble_eq_true rfl) (fun Γ hG hO => by subst hG; exact go_X12_turns hO h x0 hx0 (fun _ q => q))
noncomputable def B_X12_waysOf_10 (h : Hp) (x0 : Nat) (x1 : Int32) (x2 : Int32) (x3 : Int32) (x4 : Int32) : Option ((Hp × Int32) ⊕ (Hp)) :=
  if ((961 : Int32)) ≤ x4 then some (.inr h) else if x4 = 0 then gd (ib x4 (LEN (GR x0 46))) (some (.inl (uI h (GR x0 46) (nx x4) ((1 : Int32)), x4 + (1 : Int32)))) else gd (ib x4 (LEN (GR x0 46))) (some (.inl (uI h (GR x0 46) (nx x4) ((0 : Int32)), x4 + (1 : Int32))))
noncomputable def L_X12_waysOf_10 (h : Hp) (x0 : Nat) (x1 : Int32) (x2 : Int32) (x3 : Int32) (x4 : Int32) : Option (Hp) := iterW (fun s : Hp × Int32 => B_X12_waysOf_10 s.1 x0 x1 x2 x3 s.2) (h, x4)
set_option maxHeartbeats 4000000 in
set_option maxRecDepth 100000 in
theorem go_X12_waysOf_B10 {Γ : Cx} (hO : Ok Γ mX12_waysOf) (h : Hp) (x0 : Nat) (x1 : Int32) (x2 : Int32) (x3 : Int32) (x4 : Int32) (hx0 : Is x0 12) {K : (Hp × Int32) ⊕ (Hp) → Prop} (hC : ∀ (h : Hp) (x4 : Int32), K (.inl (h, x4)) → EW Γ mX12_waysOf 10 [(0, rf Γ x0), (1, .int x1), (2, .int x2), (3, .int x3), (4, .int x4)] [] h) (hE41 : ∀ (h : Hp), K (.inr h) → EW Γ mX12_waysOf 41 [(0, rf Γ x0), (1, .int x1), (2, .int x2), (3, .int x3)] [] h) : EG Γ mX12_waysOf 10 [(0, rf Γ x0), (1, .int x1), (2, .int x2), (3, .int x3), (4, .int x4)] [] h (B_X12_waysOf_10 h x0 x1 x2 x3 x4) K := by
  unfold B_X12_waysOf_10
  refine x_iload hO 4 rfl dX12_waysOf_10 ?_
  refine x_sipush hO (v := 961) (by decide) dX12_waysOf_12 ?_
  refine x_icmp_ge hO (tg := 41) dX12_waysOf_15 (by decide) ?_ ?_
  · exact x_leafs [0, 1, 2, 3] rfl (hE41 h)
  · refine x_aload_n hO 0 rfl rfl dX12_waysOf_18 ?_
    refine x_getR hO fl_RX12_95 hx0 dX12_waysOf_19 ?_
    refine x_iload hO 4 rfl dX12_waysOf_22 ?_
    refine x_iload hO 4 rfl dX12_waysOf_24 ?_
    refine x_if_ne hO (tg := 33) dX12_waysOf_26 (by decide) ?_ ?_
    · refine x_iconst hO (v := 0) (by decide) dX12_waysOf_33 ?_
      refine x_iast hO (gr_12_46 hx0) dX12_waysOf_34 ?_
      refine x_iinc hO 4 (v := 1) [(4, .int (x4 + (1 : Int32))), (0, rf Γ x0), (1, .int x1), (2, .int x2), (3, .int x3)] dX12_waysOf_35 rfl (by decide) (by decide) rfl ?_
      refine x_goto hO (tg := 10) dX12_waysOf_38 (by decide) ?_
      exact x_leafs [1, 2, 3, 4, 0] rfl (hC (uI h (GR x0 46) (nx x4) ((0 : Int32))) (x4 + (1 : Int32)))
    · refine x_iconst hO (v := 1) (by decide) dX12_waysOf_29 ?_
      refine x_goto hO (tg := 34) dX12_waysOf_30 (by decide) ?_
      refine x_iast hO (gr_12_46 hx0) dX12_waysOf_34 ?_
      refine x_iinc hO 4 (v := 1) [(4, .int (x4 + (1 : Int32))), (0, rf Γ x0), (1, .int x1), (2, .int x2), (3, .int x3)] dX12_waysOf_35 rfl (by decide) (by decide) rfl ?_
      refine x_goto hO (tg := 10) dX12_waysOf_38 (by decide) ?_
      exact x_leafs [1, 2, 3, 4, 0] rfl (hC (uI h (GR x0 46) (nx x4) ((1 : Int32))) (x4 + (1 : Int32)))
set_option maxHeartbeats 4000000 in
set_option maxRecDepth 100000 in
theorem go_X12_waysOf_L10 {Γ : Cx} (hO : Ok Γ mX12_waysOf) (h : Hp) (x0 : Nat) (x1 : Int32) (x2 : Int32) (x3 : Int32) (x4 : Int32) (hx0 : Is x0 12) {K : Hp → Prop} (hE41 : ∀ (h : Hp), K (h) → EW Γ mX12_waysOf 41 [(0, rf Γ x0), (1, .int x1), (2, .int x2), (3, .int x3)] [] h) : EG Γ mX12_waysOf 10 [(0, rf Γ x0), (1, .int x1), (2, .int x2), (3, .int x3), (4, .int x4)] [] h (L_X12_waysOf_10 h x0 x1 x2 x3 x4) K := by
  have q := x_loop (Γ := Γ) (M := mX12_waysOf) (pc := 10) (B := fun s : Hp × Int32 => B_X12_waysOf_10 s.1 x0 x1 x2 x3 s.2) (lvf := fun s => [(0, rf Γ x0), (1, .int x1), (2, .int x2), (3, .int x3), (4, .int s.2)]) (hf := fun s => s.1) (Ky := K) (fun s => go_X12_waysOf_B10 hO s.1 x0 x1 x2 x3 s.2 hx0 (fun _ _ => id) hE41) (h, x4)
  exact q
noncomputable def B_X12_waysOf_68 (h : Hp) (x0 : Nat) (x1 : Int32) (x2 : Int32) (x3 : Int32) (x4 : Int32) (x5 : Int32) (x6 : Int32) : Option ((Hp × Int32) ⊕ (Hp)) :=
  if ((961 : Int32)) ≤ x6 then some (.inr h) else gd (ib x6 (LEN (GR x0 47))) (some (.inl (uI h (GR x0 47) (nx x6) ((0 : Int32)), x6 + (1 : Int32))))
noncomputable def L_X12_waysOf_68 (h : Hp) (x0 : Nat) (x1 : Int32) (x2 : Int32) (x3 : Int32) (x4 : Int32) (x5 : Int32) (x6 : Int32) : Option (Hp) := iterW (fun s : Hp × Int32 => B_X12_waysOf_68 s.1 x0 x1 x2 x3 x4 x5 s.2) (h, x6)
set_option maxHeartbeats 4000000 in
set_option maxRecDepth 100000 in
theorem go_X12_waysOf_B68 {Γ : Cx} (hO : Ok Γ mX12_waysOf) (h : Hp) (x0 : Nat) (x1 : Int32) (x2 : Int32) (x3 : Int32) (x4 : Int32) (x5 : Int32) (x6 : Int32) (hx0 : Is x0 12) {K : (Hp × Int32) ⊕ (Hp) → Prop} (hC : ∀ (h : Hp) (x6 : Int32), K (.inl (h, x6)) → EW Γ mX12_waysOf 68 [(0, rf Γ x0), (1, .int x1), (2, .int x2), (3, .int x3), (4, .int x4), (5, .int x5), (6, .int x6)] [] h) (hE90 : ∀ (h : Hp), K (.inr h) → EW Γ mX12_waysOf 90 [(0, rf Γ x0), (1, .int x1), (2, .int x2), (3, .int x3), (4, .int x4), (5, .int x5)] [] h) : EG Γ mX12_waysOf 68 [(0, rf Γ x0), (1, .int x1), (2, .int x2), (3, .int x3), (4, .int x4), (5, .int x5), (6, .int x6)] [] h (B_X12_waysOf_68 h x0 x1 x2 x3 x4 x5 x6) K := by
  unfold B_X12_waysOf_68
  refine x_iload hO 6 rfl dX12_waysOf_68 ?_
  refine x_sipush hO (v := 961) (by decide) dX12_waysOf_70 ?_
  refine x_icmp_ge hO (tg := 90) dX12_waysOf_73 (by decide) ?_ ?_
  · exact x_leafs [0, 1, 2, 3, 4, 5] rfl (hE90 h)
  · refine x_aload_n hO 0 rfl rfl dX12_waysOf_76 ?_
    refine x_getR hO fl_RX12_98 hx0 dX12_waysOf_77 ?_
    refine x_iload hO 6 rfl dX12_waysOf_80 ?_
    refine x_iconst hO (v := 0) (by decide) dX12_waysOf_82 ?_
    refine x_iast hO (gr_12_47 hx0) dX12_waysOf_83 ?_
    refine x_iinc hO 6 (v := 1) [(6, .int (x6 + (1 : Int32))), (0, rf Γ x0), (1, .int x1), (2, .int x2), (3, .int x3), (4, .int x4), (5, .int x5)] dX12_waysOf_84 rfl (by decide) (by decide) rfl ?_
    refine x_goto hO (tg := 68) dX12_waysOf_87 (by decide) ?_
    exact x_leafs [1, 2, 3, 4, 5, 6, 0] rfl (hC (uI h (GR x0 47) (nx x6) ((0 : Int32))) (x6 + (1 : Int32)))
set_option maxHeartbeats 4000000 in
set_option maxRecDepth 100000 in
theorem go_X12_waysOf_L68 {Γ : Cx} (hO : Ok Γ mX12_waysOf) (h : Hp) (x0 : Nat) (x1 : Int32) (x2 : Int32) (x3 : Int32) (x4 : Int32) (x5 : Int32) (x6 : Int32) (hx0 : Is x0 12) {K : Hp → Prop} (hE90 : ∀ (h : Hp), K (h) → EW Γ mX12_waysOf 90 [(0, rf Γ x0), (1, .int x1), (2, .int x2), (3, .int x3), (4, .int x4), (5, .int x5)] [] h) : EG Γ mX12_waysOf 68 [(0, rf Γ x0), (1, .int x1), (2, .int x2), (3, .int x3), (4, .int x4), (5, .int x5), (6, .int x6)] [] h (L_X12_waysOf_68 h x0 x1 x2 x3 x4 x5 x6) K := by
  have q := x_loop (Γ := Γ) (M := mX12_waysOf) (pc := 68) (B := fun s : Hp × Int32 => B_X12_waysOf_68 s.1 x0 x1 x2 x3 x4 x5 s.2) (lvf := fun s => [(0, rf Γ x0), (1, .int x1), (2, .int x2), (3, .int x3), (4, .int x4), (5, .int x5), (6, .int s.2)]) (hf := fun s => s.1) (Ky := K) (fun s => go_X12_waysOf_B68 hO s.1 x0 x1 x2 x3 x4 x5 s.2 hx0 (fun _ _ => id) hE90) (h, x6)
  exact q
noncomputable def J_X12_waysOf_222 (h : Hp) (x0 : Nat) (x1 : Int32) (x2 : Int32) (x3 : Int32) (x4 : Int32) (x5 : Int32) (x6 : Int32) (x7 : Int32) (x8 : Int32) (x9 : Int32) : Option ((Hp × Int32) ⊕ (Hp)) :=
  if x9 = 0 then gd (ib ((((31 : Int32)) * x4) + x8) (LEN (GR x0 47))) (gd (ib x6 (LEN (GR x0 46))) (gd (ib ((((31 : Int32)) * x4) + x8) (LEN (GR x0 47))) (some (.inl (uI h (GR x0 47) (nx ((((31 : Int32)) * x4) + x8)) ((hI h (GR x0 47) (nx ((((31 : Int32)) * x4) + x8))) + (hI h (GR x0 46) (nx x6))), x9 + (1 : Int32)))))) else gd (ib ((((31 : Int32)) * x7) + x4) (LEN (GR x0 47))) (gd (ib x6 (LEN (GR x0 46))) (gd (ib ((((31 : Int32)) * x7) + x4) (LEN (GR x0 47))) (some (.inl (uI h (GR x0 47) (nx ((((31 : Int32)) * x7) + x4)) ((hI h (GR x0 47) (nx ((((31 : Int32)) * x7) + x4))) + (hI h (GR x0 46) (nx x6))), x9 + (1 : Int32))))))
set_option maxHeartbeats 4000000 in
set_option maxRecDepth 100000 in
theorem go_X12_waysOf_J222 {Γ : Cx} (hO : Ok Γ mX12_waysOf) (h : Hp) (x0 : Nat) (x1 : Int32) (x2 : Int32) (x3 : Int32) (x4 : Int32) (x5 : Int32) (x6 : Int32) (x7 : Int32) (x8 : Int32) (x9 : Int32) (hx0 : Is x0 12) {K : (Hp × Int32) ⊕ (Hp) → Prop} (hC : ∀ (h : Hp) (x9 : Int32), K (.inl (h, x9)) → EW Γ mX12_waysOf 131 [(0, rf Γ x0), (1, .int x1), (2, .int x2), (3, .int x3), (4, .int x4), (5, .int x5), (6, .int x6), (7, .int x7), (8, .int x8), (9, .int x9)] [] h) (hE267 : ∀ (h : Hp), K (.inr h) → EW Γ mX12_waysOf 267 [(0, rf Γ x0), (1, .int x1), (2, .int x2), (3, .int x3), (4, .int x4), (5, .int x5), (6, .int x6)] [] h) : EG Γ mX12_waysOf 222 [(0, rf Γ x0), (1, .int x1), (2, .int x2), (3, .int x3), (4, .int x4), (5, .int x5), (6, .int x6), (7, .int x7), (8, .int x8), (9, .int x9)] [] h (J_X12_waysOf_222 h x0 x1 x2 x3 x4 x5 x6 x7 x8 x9) K := by
  unfold J_X12_waysOf_222
  refine x_aload_n hO 0 rfl rfl dX12_waysOf_222 ?_
  refine x_getR hO fl_RX12_98 hx0 dX12_waysOf_223 ?_
  refine x_iload hO 9 rfl dX12_waysOf_226 ?_
  refine x_if_ne hO (tg := 242) dX12_waysOf_228 (by decide) ?_ ?_
  · refine x_bipush hO (v := 31) (by decide) dX12_waysOf_242 ?_
    refine x_iload hO 7 rfl dX12_waysOf_244 ?_
    refine x_imul hO dX12_waysOf_246 ?_
    refine x_iload hO 4 rfl dX12_waysOf_247 ?_
    refine x_iadd hO dX12_waysOf_249 ?_
    refine x_dup2_ri hO dX12_waysOf_250 ?_
    refine x_iald hO (gr_12_47 hx0) dX12_waysOf_251 ?_
    refine x_aload_n hO 0 rfl rfl dX12_waysOf_252 ?_
    refine x_getR hO fl_RX12_95 hx0 dX12_waysOf_253 ?_
    refine x_iload hO 6 rfl dX12_waysOf_256 ?_
    refine x_iald hO (gr_12_46 hx0) dX12_waysOf_258 ?_
    refine x_iadd hO dX12_waysOf_259 ?_
    refine x_iast hO (gr_12_47 hx0) dX12_waysOf_260 ?_
    refine x_iinc hO 9 (v := 1) [(9, .int (x9 + (1 : Int32))), (0, rf Γ x0), (1, .int x1), (2, .int x2), (3, .int x3), (4, .int x4), (5, .int x5), (6, .int x6), (7, .int x7), (8, .int x8)] dX12_waysOf_261 rfl (by decide) (by decide) rfl ?_
    refine x_goto hO (tg := 131) dX12_waysOf_264 (by decide) ?_
    exact x_leafs [1, 2, 3, 4, 5, 6, 7, 8, 9, 0] rfl (hC (uI h (GR x0 47) (nx ((((31 : Int32)) * x7) + x4)) ((hI h (GR x0 47) (nx ((((31 : Int32)) * x7) + x4))) + (hI h (GR x0 46) (nx x6)))) (x9 + (1 : Int32)))
  · refine x_bipush hO (v := 31) (by decide) dX12_waysOf_231 ?_
    refine x_iload hO 4 rfl dX12_waysOf_233 ?_
    refine x_imul hO dX12_waysOf_235 ?_
    refine x_iload hO 8 rfl dX12_waysOf_236 ?_
    refine x_iadd hO dX12_waysOf_238 ?_
    refine x_goto hO (tg := 250) dX12_waysOf_239 (by decide) ?_
    refine x_dup2_ri hO dX12_waysOf_250 ?_
    refine x_iald hO (gr_12_47 hx0) dX12_waysOf_251 ?_
    refine x_aload_n hO 0 rfl rfl dX12_waysOf_252 ?_
    refine x_getR hO fl_RX12_95 hx0 dX12_waysOf_253 ?_
    refine x_iload hO 6 rfl dX12_waysOf_256 ?_
    refine x_iald hO (gr_12_46 hx0) dX12_waysOf_258 ?_
    refine x_iadd hO dX12_waysOf_259 ?_
    refine x_iast hO (gr_12_47 hx0) dX12_waysOf_260 ?_
    refine x_iinc hO 9 (v := 1) [(9, .int (x9 + (1 : Int32))), (0, rf Γ x0), (1, .int x1), (2, .int x2), (3, .int x3), (4, .int x4), (5, .int x5), (6, .int x6), (7, .int x7), (8, .int x8)] dX12_waysOf_261 rfl (by decide) (by decide) rfl ?_
    refine x_goto hO (tg := 131) dX12_waysOf_264 (by decide) ?_
    exact x_leafs [1, 2, 3, 4, 5, 6, 7, 8, 9, 0] rfl (hC (uI h (GR x0 47) (nx ((((31 : Int32)) * x4) + x8)) ((hI h (GR x0 47) (nx ((((31 : Int32)) * x4) + x8))) + (hI h (GR x0 46) (nx x6)))) (x9 + (1 : Int32)))
noncomputable def J_X12_waysOf_193 (h : Hp) (x0 : Nat) (x1 : Int32) (x2 : Int32) (x3 : Int32) (x4 : Int32) (x5 : Int32) (x6 : Int32) (x7 : Int32) (x8 : Int32) (x9 : Int32) (x10 : Int32) (s0 : Int32) : Option ((Hp × Int32) ⊕ (Hp)) :=
  if s0 = 0 then some (.inl (h, x9 + (1 : Int32))) else if x10 = 0 then J_X12_waysOf_222 h x0 x1 x2 x3 x4 x5 x6 x7 x8 x9 else gd (ib x10 (LEN (GR x0 45))) (gd (ib x4 (LEN (GR x0 45))) (if (hI h (GR x0 45) (nx x4)) ≤ (hI h (GR x0 45) (nx x10)) then some (.inl (h, x9 + (1 : Int32))) else J_X12_waysOf_222 h x0 x1 x2 x3 x4 x5 x6 x7 x8 x9))
set_option maxHeartbeats 4000000 in
set_option maxRecDepth 100000 in
theorem go_X12_waysOf_J193 {Γ : Cx} (hO : Ok Γ mX12_waysOf) (h : Hp) (x0 : Nat) (x1 : Int32) (x2 : Int32) (x3 : Int32) (x4 : Int32) (x5 : Int32) (x6 : Int32) (x7 : Int32) (x8 : Int32) (x9 : Int32) (x10 : Int32) (s0 : Int32) (hx0 : Is x0 12) {K : (Hp × Int32) ⊕ (Hp) → Prop} (hC : ∀ (h : Hp) (x9 : Int32), K (.inl (h, x9)) → EW Γ mX12_waysOf 131 [(0, rf Γ x0), (1, .int x1), (2, .int x2), (3, .int x3), (4, .int x4), (5, .int x5), (6, .int x6), (7, .int x7), (8, .int x8), (9, .int x9)] [] h) (hE267 : ∀ (h : Hp), K (.inr h) → EW Γ mX12_waysOf 267 [(0, rf Γ x0), (1, .int x1), (2, .int x2), (3, .int x3), (4, .int x4), (5, .int x5), (6, .int x6)] [] h) : EG Γ mX12_waysOf 193 [(0, rf Γ x0), (1, .int x1), (2, .int x2), (3, .int x3), (4, .int x4), (5, .int x5), (6, .int x6), (7, .int x7), (8, .int x8), (9, .int x9), (10, .int x10)] [.int s0] h (J_X12_waysOf_193 h x0 x1 x2 x3 x4 x5 x6 x7 x8 x9 x10 s0) K := by
  unfold J_X12_waysOf_193
  refine x_istore hO [(11, .int s0), (0, rf Γ x0), (1, .int x1), (2, .int x2), (3, .int x3), (4, .int x4), (5, .int x5), (6, .int x6), (7, .int x7), (8, .int x8), (9, .int x9), (10, .int x10)] dX12_waysOf_193 (by decide) rfl ?_
  refine x_iload hO 0 rfl dX12_waysOf_195 ?_
  refine x_if_eq hO (tg := 261) dX12_waysOf_197 (by decide) ?_ ?_
  · refine x_iinc hO 10 (v := 1) [(9, .int (x9 + (1 : Int32))), (11, .int s0), (0, rf Γ x0), (1, .int x1), (2, .int x2), (3, .int x3), (4, .int x4), (5, .int x5), (6, .int x6), (7, .int x7), (8, .int x8), (10, .int x10)] dX12_waysOf_261 rfl (by decide) (by decide) rfl ?_
    refine x_goto hO (tg := 131) dX12_waysOf_264 (by decide) ?_
    exact x_leafs [2, 3, 4, 5, 6, 7, 8, 9, 10, 0] rfl (hC h (x9 + (1 : Int32)))
  · refine x_iload hO 11 rfl dX12_waysOf_200 ?_
    refine x_if_eq hO (tg := 222) dX12_waysOf_202 (by decide) ?_ ?_
    · exact x_sub [1, 2, 3, 4, 5, 6, 7, 8, 9, 10] rfl (go_X12_waysOf_J222 hO h x0 x1 x2 x3 x4 x5 x6 x7 x8 x9 hx0 hC hE267)
    · refine x_aload_n hO 1 rfl rfl dX12_waysOf_205 ?_
      refine x_getR hO fl_RX12_92 hx0 dX12_waysOf_206 ?_
      refine x_iload hO 11 rfl dX12_waysOf_209 ?_
      refine x_iald hO (gr_12_45 hx0) dX12_waysOf_211 ?_
      refine x_aload_n hO 1 rfl rfl dX12_waysOf_212 ?_
      refine x_getR hO fl_RX12_92 hx0 dX12_waysOf_213 ?_
      refine x_iload hO 5 rfl dX12_waysOf_216 ?_
      refine x_iald hO (gr_12_45 hx0) dX12_waysOf_218 ?_
      refine x_icmp_ge hO (tg := 261) dX12_waysOf_219 (by decide) ?_ ?_
      · refine x_iinc hO 10 (v := 1) [(9, .int (x9 + (1 : Int32))), (11, .int s0), (0, rf Γ x0), (1, .int x1), (2, .int x2), (3, .int x3), (4, .int x4), (5, .int x5), (6, .int x6), (7, .int x7), (8, .int x8), (10, .int x10)] dX12_waysOf_261 rfl (by decide) (by decide) rfl ?_
        refine x_goto hO (tg := 131) dX12_waysOf_264 (by decide) ?_
        exact x_leafs [2, 3, 4, 5, 6, 7, 8, 9, 10, 0] rfl (hC h (x9 + (1 : Int32)))
      · exact x_sub [1, 2, 3, 4, 5, 6, 7, 8, 9, 10] rfl (go_X12_waysOf_J222 hO h x0 x1 x2 x3 x4 x5 x6 x7 x8 x9 hx0 hC hE267)
noncomputable def J_X12_waysOf_188 (h : Hp) (x0 : Nat) (x1 : Int32) (x2 : Int32) (x3 : Int32) (x4 : Int32) (x5 : Int32) (x6 : Int32) (x7 : Int32) (x8 : Int32) (x9 : Int32) (x10 : Int32) : Option ((Hp × Int32) ⊕ (Hp)) :=
  J_X12_waysOf_193 h x0 x1 x2 x3 x4 x5 x6 x7 x8 x9 x10 ((1 : Int32))
set_option maxHeartbeats 4000000 in
set_option maxRecDepth 100000 in
theorem go_X12_waysOf_J188 {Γ : Cx} (hO : Ok Γ mX12_waysOf) (h : Hp) (x0 : Nat) (x1 : Int32) (x2 : Int32) (x3 : Int32) (x4 : Int32) (x5 : Int32) (x6 : Int32) (x7 : Int32) (x8 : Int32) (x9 : Int32) (x10 : Int32) (hx0 : Is x0 12) {K : (Hp × Int32) ⊕ (Hp) → Prop} (hC : ∀ (h : Hp) (x9 : Int32), K (.inl (h, x9)) → EW Γ mX12_waysOf 131 [(0, rf Γ x0), (1, .int x1), (2, .int x2), (3, .int x3), (4, .int x4), (5, .int x5), (6, .int x6), (7, .int x7), (8, .int x8), (9, .int x9)] [] h) (hE267 : ∀ (h : Hp), K (.inr h) → EW Γ mX12_waysOf 267 [(0, rf Γ x0), (1, .int x1), (2, .int x2), (3, .int x3), (4, .int x4), (5, .int x5), (6, .int x6)] [] h) : EG Γ mX12_waysOf 188 [(0, rf Γ x0), (1, .int x1), (2, .int x2), (3, .int x3), (4, .int x4), (5, .int x5), (6, .int x6), (7, .int x7), (8, .int x8), (9, .int x9), (10, .int x10)] [] h (J_X12_waysOf_188 h x0 x1 x2 x3 x4 x5 x6 x7 x8 x9 x10) K := by
  unfold J_X12_waysOf_188
  refine x_iconst hO (v := 1) (by decide) dX12_waysOf_188 ?_
  refine x_goto hO (tg := 193) dX12_waysOf_189 (by decide) ?_
  exact x_sub [0, 1, 2, 3, 4, 5, 6, 7, 8, 9, 10] rfl (go_X12_waysOf_J193 hO h x0 x1 x2 x3 x4 x5 x6 x7 x8 x9 x10 ((1 : Int32)) hx0 hC hE267)
noncomputable def J_X12_waysOf_192 (h : Hp) (x0 : Nat) (x1 : Int32) (x2 : Int32) (x3 : Int32) (x4 : Int32) (x5 : Int32) (x6 : Int32) (x7 : Int32) (x8 : Int32) (x9 : Int32) (x10 : Int32) : Option ((Hp × Int32) ⊕ (Hp)) :=
  J_X12_waysOf_193 h x0 x1 x2 x3 x4 x5 x6 x7 x8 x9 x10 ((0 : Int32))
set_option maxHeartbeats 4000000 in
set_option maxRecDepth 100000 in
theorem go_X12_waysOf_J192 {Γ : Cx} (hO : Ok Γ mX12_waysOf) (h : Hp) (x0 : Nat) (x1 : Int32) (x2 : Int32) (x3 : Int32) (x4 : Int32) (x5 : Int32) (x6 : Int32) (x7 : Int32) (x8 : Int32) (x9 : Int32) (x10 : Int32) (hx0 : Is x0 12) {K : (Hp × Int32) ⊕ (Hp) → Prop} (hC : ∀ (h : Hp) (x9 : Int32), K (.inl (h, x9)) → EW Γ mX12_waysOf 131 [(0, rf Γ x0), (1, .int x1), (2, .int x2), (3, .int x3), (4, .int x4), (5, .int x5), (6, .int x6), (7, .int x7), (8, .int x8), (9, .int x9)] [] h) (hE267 : ∀ (h : Hp), K (.inr h) → EW Γ mX12_waysOf 267 [(0, rf Γ x0), (1, .int x1), (2, .int x2), (3, .int x3), (4, .int x4), (5, .int x5), (6, .int x6)] [] h) : EG Γ mX12_waysOf 192 [(0, rf Γ x0), (1, .int x1), (2, .int x2), (3, .int x3), (4, .int x4), (5, .int x5), (6, .int x6), (7, .int x7), (8, .int x8), (9, .int x9), (10, .int x10)] [] h (J_X12_waysOf_192 h x0 x1 x2 x3 x4 x5 x6 x7 x8 x9 x10) K := by
  unfold J_X12_waysOf_192
  refine x_iconst hO (v := 0) (by decide) dX12_waysOf_192 ?_
  exact x_sub [0, 1, 2, 3, 4, 5, 6, 7, 8, 9, 10] rfl (go_X12_waysOf_J193 hO h x0 x1 x2 x3 x4 x5 x6 x7 x8 x9 x10 ((0 : Int32)) hx0 hC hE267)
noncomputable def J_X12_waysOf_176 (h : Hp) (x0 : Nat) (x1 : Int32) (x2 : Int32) (x3 : Int32) (x4 : Int32) (x5 : Int32) (x6 : Int32) (x7 : Int32) (x8 : Int32) (x9 : Int32) (x10 : Int32) : Option ((Hp × Int32) ⊕ (Hp)) :=
  if x5 = x1 then if x2 = x9 then J_X12_waysOf_188 h x0 x1 x2 x3 x4 x5 x6 x7 x8 x9 x10 else J_X12_waysOf_192 h x0 x1 x2 x3 x4 x5 x6 x7 x8 x9 x10 else J_X12_waysOf_188 h x0 x1 x2 x3 x4 x5 x6 x7 x8 x9 x10
set_option maxHeartbeats 4000000 in
set_option maxRecDepth 100000 in
theorem go_X12_waysOf_J176 {Γ : Cx} (hO : Ok Γ mX12_waysOf) (h : Hp) (x0 : Nat) (x1 : Int32) (x2 : Int32) (x3 : Int32) (x4 : Int32) (x5 : Int32) (x6 : Int32) (x7 : Int32) (x8 : Int32) (x9 : Int32) (x10 : Int32) (hx0 : Is x0 12) {K : (Hp × Int32) ⊕ (Hp) → Prop} (hC : ∀ (h : Hp) (x9 : Int32), K (.inl (h, x9)) → EW Γ mX12_waysOf 131 [(0, rf Γ x0), (1, .int x1), (2, .int x2), (3, .int x3), (4, .int x4), (5, .int x5), (6, .int x6), (7, .int x7), (8, .int x8), (9, .int x9)] [] h) (hE267 : ∀ (h : Hp), K (.inr h) → EW Γ mX12_waysOf 267 [(0, rf Γ x0), (1, .int x1), (2, .int x2), (3, .int x3), (4, .int x4), (5, .int x5), (6, .int x6)] [] h) : EG Γ mX12_waysOf 176 [(0, rf Γ x0), (1, .int x1), (2, .int x2), (3, .int x3), (4, .int x4), (5, .int x5), (6, .int x6), (7, .int x7), (8, .int x8), (9, .int x9), (10, .int x10)] [] h (J_X12_waysOf_176 h x0 x1 x2 x3 x4 x5 x6 x7 x8 x9 x10) K := by
  unfold J_X12_waysOf_176
  refine x_iload hO 5 rfl dX12_waysOf_176 ?_
  refine x_iload_n hO 1 rfl rfl dX12_waysOf_178 ?_
  refine x_icmp_ne hO (tg := 188) dX12_waysOf_179 (by decide) ?_ ?_
  · exact x_sub [0, 1, 2, 3, 4, 5, 6, 7, 8, 9, 10] rfl (go_X12_waysOf_J188 hO h x0 x1 x2 x3 x4 x5 x6 x7 x8 x9 x10 hx0 hC hE267)
  · refine x_iload_n hO 2 rfl rfl dX12_waysOf_182 ?_
    refine x_iload hO 9 rfl dX12_waysOf_183 ?_
    refine x_icmp_ne hO (tg := 192) dX12_waysOf_185 (by decide) ?_ ?_
    · exact x_sub [0, 1, 2, 3, 4, 5, 6, 7, 8, 9, 10] rfl (go_X12_waysOf_J192 hO h x0 x1 x2 x3 x4 x5 x6 x7 x8 x9 x10 hx0 hC hE267)
    · exact x_sub [0, 1, 2, 3, 4, 5, 6, 7, 8, 9, 10] rfl (go_X12_waysOf_J188 hO h x0 x1 x2 x3 x4 x5 x6 x7 x8 x9 x10 hx0 hC hE267)
noncomputable def J_X12_waysOf_149 (h : Hp) (x0 : Nat) (x1 : Int32) (x2 : Int32) (x3 : Int32) (x4 : Int32) (x5 : Int32) (x6 : Int32) (x7 : Int32) (x8 : Int32) (x9 : Int32) (s0 : Int32) : Option ((Hp × Int32) ⊕ (Hp)) :=
  (F_X12_ofCard h x0 x5 ((9 : Int32))).bind (fun r1 => if r1 = ((-1 : Int32)) then J_X12_waysOf_176 h x0 x1 x2 x3 x4 x5 x6 x7 x8 x9 s0 else (F_X12_ofCard h x0 x5 ((9 : Int32))).bind (fun r2 => if r2 = x9 then J_X12_waysOf_176 h x0 x1 x2 x3 x4 x5 x6 x7 x8 x9 s0 else J_X12_waysOf_192 h x0 x1 x2 x3 x4 x5 x6 x7 x8 x9 s0))
set_option maxHeartbeats 4000000 in
set_option maxRecDepth 100000 in
theorem go_X12_waysOf_J149 {Γ : Cx} (hO : Ok Γ mX12_waysOf) (h : Hp) (x0 : Nat) (x1 : Int32) (x2 : Int32) (x3 : Int32) (x4 : Int32) (x5 : Int32) (x6 : Int32) (x7 : Int32) (x8 : Int32) (x9 : Int32) (s0 : Int32) (hx0 : Is x0 12) {K : (Hp × Int32) ⊕ (Hp) → Prop} (hC : ∀ (h : Hp) (x9 : Int32), K (.inl (h, x9)) → EW Γ mX12_waysOf 131 [(0, rf Γ x0), (1, .int x1), (2, .int x2), (3, .int x3), (4, .int x4), (5, .int x5), (6, .int x6), (7, .int x7), (8, .int x8), (9, .int x9)] [] h) (hE267 : ∀ (h : Hp), K (.inr h) → EW Γ mX12_waysOf 267 [(0, rf Γ x0), (1, .int x1), (2, .int x2), (3, .int x3), (4, .int x4), (5, .int x5), (6, .int x6)] [] h) : EG Γ mX12_waysOf 149 [(0, rf Γ x0), (1, .int x1), (2, .int x2), (3, .int x3), (4, .int x4), (5, .int x5), (6, .int x6), (7, .int x7), (8, .int x8), (9, .int x9)] [.int s0] h (J_X12_waysOf_149 h x0 x1 x2 x3 x4 x5 x6 x7 x8 x9 s0) K := by
  unfold J_X12_waysOf_149
  refine x_istore hO [(10, .int s0), (0, rf Γ x0), (1, .int x1), (2, .int x2), (3, .int x3), (4, .int x4), (5, .int x5), (6, .int x6), (7, .int x7), (8, .int x8), (9, .int x9)] dX12_waysOf_149 (by decide) rfl ?_
  refine x_aload_n hO 1 rfl rfl dX12_waysOf_151 ?_
  refine x_iload hO 6 rfl dX12_waysOf_152 ?_
  refine x_bipush hO (v := 9) (by decide) dX12_waysOf_154 ?_
  refine y_PI (x_callV hO lv_RX12_130 hx0 vc_12 (by decide) (As := [.int x5, .int ((9 : Int32))]) rfl (Nat.le_of_ble_eq_true rfl) (ok_X12_ofCard (cG Γ) h x0 x5 ((9 : Int32)) hx0) dX12_waysOf_156 rfl (Nat.le_of_ble_eq_true rfl)) (fun r1 => ?_)
  refine x_iconst hO (v := -1) (by decide) dX12_waysOf_159 ?_
  refine x_icmp_eq hO (tg := 176) dX12_waysOf_160 (by decide) ?_ ?_
  · exact x_sub [1, 2, 3, 4, 5, 6, 7, 8, 9, 10, 0] rfl (go_X12_waysOf_J176 hO h x0 x1 x2 x3 x4 x5 x6 x7 x8 x9 s0 hx0 hC hE267)
  · refine x_aload_n hO 1 rfl rfl dX12_waysOf_163 ?_
    refine x_iload hO 6 rfl dX12_waysOf_164 ?_
    refine x_bipush hO (v := 9) (by decide) dX12_waysOf_166 ?_
    refine y_PI (x_callV hO lv_RX12_130 hx0 vc_12 (by decide) (As := [.int x5, .int ((9 : Int32))]) rfl (Nat.le_of_ble_eq_true rfl) (ok_X12_ofCard (cG Γ) h x0 x5 ((9 : Int32)) hx0) dX12_waysOf_168 rfl (Nat.le_of_ble_eq_true rfl)) (fun r2 => ?_)
    refine x_iload hO 10 rfl dX12_waysOf_171 ?_
    refine x_icmp_ne hO (tg := 192) dX12_waysOf_173 (by decide) ?_ ?_
    · exact x_sub [1, 2, 3, 4, 5, 6, 7, 8, 9, 10, 0] rfl (go_X12_waysOf_J192 hO h x0 x1 x2 x3 x4 x5 x6 x7 x8 x9 s0 hx0 hC hE267)
    · exact x_sub [1, 2, 3, 4, 5, 6, 7, 8, 9, 10, 0] rfl (go_X12_waysOf_J176 hO h x0 x1 x2 x3 x4 x5 x6 x7 x8 x9 s0 hx0 hC hE267)
noncomputable def B_X12_waysOf_131 (h : Hp) (x0 : Nat) (x1 : Int32) (x2 : Int32) (x3 : Int32) (x4 : Int32) (x5 : Int32) (x6 : Int32) (x7 : Int32) (x8 : Int32) (x9 : Int32) : Option ((Hp × Int32) ⊕ (Hp)) :=
  if ((2 : Int32)) ≤ x9 then some (.inr h) else if x9 = 0 then J_X12_waysOf_149 h x0 x1 x2 x3 x4 x5 x6 x7 x8 x9 x7 else J_X12_waysOf_149 h x0 x1 x2 x3 x4 x5 x6 x7 x8 x9 x8
noncomputable def L_X12_waysOf_131 (h : Hp) (x0 : Nat) (x1 : Int32) (x2 : Int32) (x3 : Int32) (x4 : Int32) (x5 : Int32) (x6 : Int32) (x7 : Int32) (x8 : Int32) (x9 : Int32) : Option (Hp) := iterW (fun s : Hp × Int32 => B_X12_waysOf_131 s.1 x0 x1 x2 x3 x4 x5 x6 x7 x8 s.2) (h, x9)
set_option maxHeartbeats 4000000 in
set_option maxRecDepth 100000 in
theorem go_X12_waysOf_B131 {Γ : Cx} (hO : Ok Γ mX12_waysOf) (h : Hp) (x0 : Nat) (x1 : Int32) (x2 : Int32) (x3 : Int32) (x4 : Int32) (x5 : Int32) (x6 : Int32) (x7 : Int32) (x8 : Int32) (x9 : Int32) (hx0 : Is x0 12) {K : (Hp × Int32) ⊕ (Hp) → Prop} (hC : ∀ (h : Hp) (x9 : Int32), K (.inl (h, x9)) → EW Γ mX12_waysOf 131 [(0, rf Γ x0), (1, .int x1), (2, .int x2), (3, .int x3), (4, .int x4), (5, .int x5), (6, .int x6), (7, .int x7), (8, .int x8), (9, .int x9)] [] h) (hE267 : ∀ (h : Hp), K (.inr h) → EW Γ mX12_waysOf 267 [(0, rf Γ x0), (1, .int x1), (2, .int x2), (3, .int x3), (4, .int x4), (5, .int x5), (6, .int x6)] [] h) : EG Γ mX12_waysOf 131 [(0, rf Γ x0), (1, .int x1), (2, .int x2), (3, .int x3), (4, .int x4), (5, .int x5), (6, .int x6), (7, .int x7), (8, .int x8), (9, .int x9)] [] h (B_X12_waysOf_131 h x0 x1 x2 x3 x4 x5 x6 x7 x8 x9) K := by
  unfold B_X12_waysOf_131
  refine x_iload hO 9 rfl dX12_waysOf_131 ?_
  refine x_iconst hO (v := 2) (by decide) dX12_waysOf_133 ?_
  refine x_icmp_ge hO (tg := 267) dX12_waysOf_134 (by decide) ?_ ?_
  · exact x_leafs [0, 1, 2, 3, 4, 5, 6] rfl (hE267 h)
  · refine x_iload hO 9 rfl dX12_waysOf_137 ?_
    refine x_if_ne hO (tg := 147) dX12_waysOf_139 (by decide) ?_ ?_
    · refine x_iload hO 8 rfl dX12_waysOf_147 ?_
      exact x_sub [0, 1, 2, 3, 4, 5, 6, 7, 8, 9] rfl (go_X12_waysOf_J149 hO h x0 x1 x2 x3 x4 x5 x6 x7 x8 x9 x8 hx0 hC hE267)
    · refine x_iload hO 7 rfl dX12_waysOf_142 ?_
      refine x_goto hO (tg := 149) dX12_waysOf_144 (by decide) ?_
      exact x_sub [0, 1, 2, 3, 4, 5, 6, 7, 8, 9] rfl (go_X12_waysOf_J149 hO h x0 x1 x2 x3 x4 x5 x6 x7 x8 x9 x7 hx0 hC hE267)
set_option maxHeartbeats 4000000 in
set_option maxRecDepth 100000 in
theorem go_X12_waysOf_L131 {Γ : Cx} (hO : Ok Γ mX12_waysOf) (h : Hp) (x0 : Nat) (x1 : Int32) (x2 : Int32) (x3 : Int32) (x4 : Int32) (x5 : Int32) (x6 : Int32) (x7 : Int32) (x8 : Int32) (x9 : Int32) (hx0 : Is x0 12) {K : Hp → Prop} (hE267 : ∀ (h : Hp), K (h) → EW Γ mX12_waysOf 267 [(0, rf Γ x0), (1, .int x1), (2, .int x2), (3, .int x3), (4, .int x4), (5, .int x5), (6, .int x6)] [] h) : EG Γ mX12_waysOf 131 [(0, rf Γ x0), (1, .int x1), (2, .int x2), (3, .int x3), (4, .int x4), (5, .int x5), (6, .int x6), (7, .int x7), (8, .int x8), (9, .int x9)] [] h (L_X12_waysOf_131 h x0 x1 x2 x3 x4 x5 x6 x7 x8 x9) K := by
  have q := x_loop (Γ := Γ) (M := mX12_waysOf) (pc := 131) (B := fun s : Hp × Int32 => B_X12_waysOf_131 s.1 x0 x1 x2 x3 x4 x5 x6 x7 x8 s.2) (lvf := fun s => [(0, rf Γ x0), (1, .int x1), (2, .int x2), (3, .int x3), (4, .int x4), (5, .int x5), (6, .int x6), (7, .int x7), (8, .int x8), (9, .int s.2)]) (hf := fun s => s.1) (Ky := K) (fun s => go_X12_waysOf_B131 hO s.1 x0 x1 x2 x3 x4 x5 x6 x7 x8 s.2 hx0 (fun _ _ => id) hE267) (h, x9)
  exact q
noncomputable def B_X12_waysOf_93 (h : Hp) (x0 : Nat) (x1 : Int32) (x2 : Int32) (x3 : Int32) (x4 : Int32) (x5 : Int32) (x6 : Int32) : Option ((Hp × Int32) ⊕ (Hp)) :=
  if ((961 : Int32)) ≤ x6 then some (.inr h) else gd (ib x6 (LEN (GR x0 46))) (if (hI h (GR x0 46) (nx x6)) = 0 then some (.inl (h, x6 + (1 : Int32))) else (L_X12_waysOf_131 h x0 x1 x2 x3 x4 x5 x6 (x6 / ((31 : Int32))) (x6 - x6 / ((31 : Int32)) * ((31 : Int32))) ((0 : Int32))).bind (fun e1 => some (.inl (e1, x6 + (1 : Int32)))))
noncomputable def L_X12_waysOf_93 (h : Hp) (x0 : Nat) (x1 : Int32) (x2 : Int32) (x3 : Int32) (x4 : Int32) (x5 : Int32) (x6 : Int32) : Option (Hp) := iterW (fun s : Hp × Int32 => B_X12_waysOf_93 s.1 x0 x1 x2 x3 x4 x5 s.2) (h, x6)
set_option maxHeartbeats 4000000 in
set_option maxRecDepth 100000 in
theorem go_X12_waysOf_B93 {Γ : Cx} (hO : Ok Γ mX12_waysOf) (h : Hp) (x0 : Nat) (x1 : Int32) (x2 : Int32) (x3 : Int32) (x4 : Int32) (x5 : Int32) (x6 : Int32) (hx0 : Is x0 12) {K : (Hp × Int32) ⊕ (Hp) → Prop} (hC : ∀ (h : Hp) (x6 : Int32), K (.inl (h, x6)) → EW Γ mX12_waysOf 93 [(0, rf Γ x0), (1, .int x1), (2, .int x2), (3, .int x3), (4, .int x4), (5, .int x5), (6, .int x6)] [] h) (hE273 : ∀ (h : Hp), K (.inr h) → EW Γ mX12_waysOf 273 [(0, rf Γ x0), (1, .int x1), (2, .int x2), (3, .int x3), (4, .int x4)] [] h) : EG Γ mX12_waysOf 93 [(0, rf Γ x0), (1, .int x1), (2, .int x2), (3, .int x3), (4, .int x4), (5, .int x5), (6, .int x6)] [] h (B_X12_waysOf_93 h x0 x1 x2 x3 x4 x5 x6) K := by
  unfold B_X12_waysOf_93
  refine x_iload hO 6 rfl dX12_waysOf_93 ?_
  refine x_sipush hO (v := 961) (by decide) dX12_waysOf_95 ?_
  refine x_icmp_ge hO (tg := 273) dX12_waysOf_98 (by decide) ?_ ?_
  · exact x_leafs [0, 1, 2, 3, 4] rfl (hE273 h)
  · refine x_aload_n hO 0 rfl rfl dX12_waysOf_101 ?_
    refine x_getR hO fl_RX12_95 hx0 dX12_waysOf_102 ?_
    refine x_iload hO 6 rfl dX12_waysOf_105 ?_
    refine x_iald hO (gr_12_46 hx0) dX12_waysOf_107 ?_
    refine x_if_ne hO (tg := 114) dX12_waysOf_108 (by decide) ?_ ?_
    · refine x_iload hO 6 rfl dX12_waysOf_114 ?_
      refine x_bipush hO (v := 31) (by decide) dX12_waysOf_116 ?_
      refine x_idivc hO (by decide) dX12_waysOf_118 ?_
      refine x_istore hO [(7, .int (x6 / ((31 : Int32)))), (0, rf Γ x0), (1, .int x1), (2, .int x2), (3, .int x3), (4, .int x4), (5, .int x5), (6, .int x6)] dX12_waysOf_119 (by decide) rfl ?_
      refine x_iload hO 7 rfl dX12_waysOf_121 ?_
      refine x_bipush hO (v := 31) (by decide) dX12_waysOf_123 ?_
      refine x_iremc hO (by decide) dX12_waysOf_125 ?_
      refine x_istore hO [(8, .int (x6 - x6 / ((31 : Int32)) * ((31 : Int32)))), (7, .int (x6 / ((31 : Int32)))), (0, rf Γ x0), (1, .int x1), (2, .int x2), (3, .int x3), (4, .int x4), (5, .int x5), (6, .int x6)] dX12_waysOf_126 (by decide) rfl ?_
      refine x_iconst hO (v := 0) (by decide) dX12_waysOf_128 ?_
      refine x_istore hO [(9, .int ((0 : Int32))), (8, .int (x6 - x6 / ((31 : Int32)) * ((31 : Int32)))), (7, .int (x6 / ((31 : Int32)))), (0, rf Γ x0), (1, .int x1), (2, .int x2), (3, .int x3), (4, .int x4), (5, .int x5), (6, .int x6)] dX12_waysOf_129 (by decide) rfl ?_
      refine x_bind (x_sub [3, 4, 5, 6, 7, 8, 9, 2, 1, 0] rfl (go_X12_waysOf_L131 hO h x0 x1 x2 x3 x4 x5 x6 (x6 / ((31 : Int32))) (x6 - x6 / ((31 : Int32)) * ((31 : Int32))) ((0 : Int32)) hx0 (fun y1_0 hx => ?_)))
      refine x_run (t := (some (.inl (y1_0, x6 + (1 : Int32))) : Option ((Hp × Int32) ⊕ (Hp)))) hx ?_
      refine x_iinc hO 6 (v := 1) [(6, .int (x6 + (1 : Int32))), (0, rf Γ x0), (1, .int x1), (2, .int x2), (3, .int x3), (4, .int x4), (5, .int x5)] dX12_waysOf_267 rfl (by decide) (by decide) rfl ?_
      refine x_goto hO (tg := 93) dX12_waysOf_270 (by decide) ?_
      exact x_leafs [1, 2, 3, 4, 5, 6, 0] rfl (hC y1_0 (x6 + (1 : Int32)))
    · refine x_goto hO (tg := 267) dX12_waysOf_111 (by decide) ?_
      refine x_iinc hO 6 (v := 1) [(6, .int (x6 + (1 : Int32))), (0, rf Γ x0), (1, .int x1), (2, .int x2), (3, .int x3), (4, .int x4), (5, .int x5)] dX12_waysOf_267 rfl (by decide) (by decide) rfl ?_
      refine x_goto hO (tg := 93) dX12_waysOf_270 (by decide) ?_
      exact x_leafs [1, 2, 3, 4, 5, 6, 0] rfl (hC h (x6 + (1 : Int32)))
set_option maxHeartbeats 4000000 in
set_option maxRecDepth 100000 in
theorem go_X12_waysOf_L93 {Γ : Cx} (hO : Ok Γ mX12_waysOf) (h : Hp) (x0 : Nat) (x1 : Int32) (x2 : Int32) (x3 : Int32) (x4 : Int32) (x5 : Int32) (x6 : Int32) (hx0 : Is x0 12) {K : Hp → Prop} (hE273 : ∀ (h : Hp), K (h) → EW Γ mX12_waysOf 273 [(0, rf Γ x0), (1, .int x1), (2, .int x2), (3, .int x3), (4, .int x4)] [] h) : EG Γ mX12_waysOf 93 [(0, rf Γ x0), (1, .int x1), (2, .int x2), (3, .int x3), (4, .int x4), (5, .int x5), (6, .int x6)] [] h (L_X12_waysOf_93 h x0 x1 x2 x3 x4 x5 x6) K := by
  have q := x_loop (Γ := Γ) (M := mX12_waysOf) (pc := 93) (B := fun s : Hp × Int32 => B_X12_waysOf_93 s.1 x0 x1 x2 x3 x4 x5 s.2) (lvf := fun s => [(0, rf Γ x0), (1, .int x1), (2, .int x2), (3, .int x3), (4, .int x4), (5, .int x5), (6, .int s.2)]) (hf := fun s => s.1) (Ky := K) (fun s => go_X12_waysOf_B93 hO s.1 x0 x1 x2 x3 x4 x5 s.2 hx0 (fun _ _ => id) hE273) (h, x6)
  exact q
noncomputable def B_X12_waysOf_276 (h : Hp) (x0 : Nat) (x1 : Int32) (x2 : Int32) (x3 : Int32) (x4 : Int32) (x6 : Int32) : Option ((Hp × Int32) ⊕ (Hp)) :=
  if ((961 : Int32)) ≤ x6 then some (.inr h) else gd (ib x6 (LEN (GR x0 47))) (gd (ib x6 (LEN (GR x0 46))) (some (.inl (uI h (GR x0 46) (nx x6) (hI h (GR x0 47) (nx x6)), x6 + (1 : Int32)))))
noncomputable def L_X12_waysOf_276 (h : Hp) (x0 : Nat) (x1 : Int32) (x2 : Int32) (x3 : Int32) (x4 : Int32) (x6 : Int32) : Option (Hp) := iterW (fun s : Hp × Int32 => B_X12_waysOf_276 s.1 x0 x1 x2 x3 x4 s.2) (h, x6)
set_option maxHeartbeats 4000000 in
set_option maxRecDepth 100000 in
theorem go_X12_waysOf_B276 {Γ : Cx} (hO : Ok Γ mX12_waysOf) (h : Hp) (x0 : Nat) (x1 : Int32) (x2 : Int32) (x3 : Int32) (x4 : Int32) (x6 : Int32) (hx0 : Is x0 12) {K : (Hp × Int32) ⊕ (Hp) → Prop} (hC : ∀ (h : Hp) (x6 : Int32), K (.inl (h, x6)) → EW Γ mX12_waysOf 276 [(0, rf Γ x0), (1, .int x1), (2, .int x2), (3, .int x3), (4, .int x4), (6, .int x6)] [] h) (hE304 : ∀ (h : Hp), K (.inr h) → EW Γ mX12_waysOf 304 [(0, rf Γ x0), (1, .int x1), (2, .int x2), (3, .int x3), (4, .int x4)] [] h) : EG Γ mX12_waysOf 276 [(0, rf Γ x0), (1, .int x1), (2, .int x2), (3, .int x3), (4, .int x4), (6, .int x6)] [] h (B_X12_waysOf_276 h x0 x1 x2 x3 x4 x6) K := by
  unfold B_X12_waysOf_276
  refine x_iload hO 5 rfl dX12_waysOf_276 ?_
  refine x_sipush hO (v := 961) (by decide) dX12_waysOf_278 ?_
  refine x_icmp_ge hO (tg := 304) dX12_waysOf_281 (by decide) ?_ ?_
  · exact x_leafs [0, 1, 2, 3, 4] rfl (hE304 h)
  · refine x_aload_n hO 0 rfl rfl dX12_waysOf_284 ?_
    refine x_getR hO fl_RX12_95 hx0 dX12_waysOf_285 ?_
    refine x_iload hO 5 rfl dX12_waysOf_288 ?_
    refine x_aload_n hO 0 rfl rfl dX12_waysOf_290 ?_
    refine x_getR hO fl_RX12_98 hx0 dX12_waysOf_291 ?_
    refine x_iload hO 5 rfl dX12_waysOf_294 ?_
    refine x_iald hO (gr_12_47 hx0) dX12_waysOf_296 ?_
    refine x_iast hO (gr_12_46 hx0) dX12_waysOf_297 ?_
    refine x_iinc hO 5 (v := 1) [(6, .int (x6 + (1 : Int32))), (0, rf Γ x0), (1, .int x1), (2, .int x2), (3, .int x3), (4, .int x4)] dX12_waysOf_298 rfl (by decide) (by decide) rfl ?_
    refine x_goto hO (tg := 276) dX12_waysOf_301 (by decide) ?_
    exact x_leafs [1, 2, 3, 4, 5, 0] rfl (hC (uI h (GR x0 46) (nx x6) (hI h (GR x0 47) (nx x6))) (x6 + (1 : Int32)))
set_option maxHeartbeats 4000000 in
set_option maxRecDepth 100000 in
theorem go_X12_waysOf_L276 {Γ : Cx} (hO : Ok Γ mX12_waysOf) (h : Hp) (x0 : Nat) (x1 : Int32) (x2 : Int32) (x3 : Int32) (x4 : Int32) (x6 : Int32) (hx0 : Is x0 12) {K : Hp → Prop} (hE304 : ∀ (h : Hp), K (h) → EW Γ mX12_waysOf 304 [(0, rf Γ x0), (1, .int x1), (2, .int x2), (3, .int x3), (4, .int x4)] [] h) : EG Γ mX12_waysOf 276 [(0, rf Γ x0), (1, .int x1), (2, .int x2), (3, .int x3), (4, .int x4), (6, .int x6)] [] h (L_X12_waysOf_276 h x0 x1 x2 x3 x4 x6) K := by
  have q := x_loop (Γ := Γ) (M := mX12_waysOf) (pc := 276) (B := fun s : Hp × Int32 => B_X12_waysOf_276 s.1 x0 x1 x2 x3 x4 s.2) (lvf := fun s => [(0, rf Γ x0), (1, .int x1), (2, .int x2), (3, .int x3), (4, .int x4), (6, .int s.2)]) (hf := fun s => s.1) (Ky := K) (fun s => go_X12_waysOf_B276 hO s.1 x0 x1 x2 x3 x4 s.2 hx0 (fun _ _ => id) hE304) (h, x6)
  exact q
noncomputable def B_X12_waysOf_44 (h : Hp) (x0 : Nat) (x1 : Int32) (x2 : Int32) (x3 : Int32) (x4 : Int32) : Option ((Hp × Int32) ⊕ (Hp)) :=
  if x3 < x4 then some (.inr h) else gd (ib ((((338 : Int32)) + x4) - ((1 : Int32))) (LEN (GR x0 0))) (bnd (hI h (GR x0 0) (nx ((((338 : Int32)) + x4) - ((1 : Int32))))) (fun v1 => (L_X12_waysOf_68 h x0 x1 x2 x3 x4 v1 ((0 : Int32))).bind (fun e2 => (L_X12_waysOf_93 e2 x0 x1 x2 x3 x4 v1 ((0 : Int32))).bind (fun e3 => (L_X12_waysOf_276 e3 x0 x1 x2 x3 x4 ((0 : Int32))).bind (fun e4 => some (.inl (e4, x4 + (1 : Int32))))))))
noncomputable def L_X12_waysOf_44 (h : Hp) (x0 : Nat) (x1 : Int32) (x2 : Int32) (x3 : Int32) (x4 : Int32) : Option (Hp) := iterW (fun s : Hp × Int32 => B_X12_waysOf_44 s.1 x0 x1 x2 x3 s.2) (h, x4)
set_option maxHeartbeats 4000000 in
set_option maxRecDepth 100000 in
theorem go_X12_waysOf_B44 {Γ : Cx} (hO : Ok Γ mX12_waysOf) (h : Hp) (x0 : Nat) (x1 : Int32) (x2 : Int32) (x3 : Int32) (x4 : Int32) (hx0 : Is x0 12) {K : (Hp × Int32) ⊕ (Hp) → Prop} (hC : ∀ (h : Hp) (x4 : Int32), K (.inl (h, x4)) → EW Γ mX12_waysOf 44 [(0, rf Γ x0), (1, .int x1), (2, .int x2), (3, .int x3), (4, .int x4)] [] h) (hE310 : ∀ (h : Hp), K (.inr h) → EW Γ mX12_waysOf 310 [(0, rf Γ x0)] [] h) : EG Γ mX12_waysOf 44 [(0, rf Γ x0), (1, .int x1), (2, .int x2), (3, .int x3), (4, .int x4)] [] h (B_X12_waysOf_44 h x0 x1 x2 x3 x4) K := by
  unfold B_X12_waysOf_44
  refine x_iload hO 4 rfl dX12_waysOf_44 ?_
  refine x_iload_n hO 3 rfl rfl dX12_waysOf_46 ?_
  refine x_icmp_gt hO (tg := 310) dX12_waysOf_47 (by decide) ?_ ?_
  · exact x_leafs [0] rfl (hE310 h)
  · refine x_aload_n hO 0 rfl rfl dX12_waysOf_50 ?_
    refine x_getR hO fl_RX12_7 hx0 dX12_waysOf_51 ?_
    refine x_sipush hO (v := 338) (by decide) dX12_waysOf_54 ?_
    refine x_iload hO 4 rfl dX12_waysOf_57 ?_
    refine x_iadd hO dX12_waysOf_59 ?_
    refine x_iconst hO (v := 1) (by decide) dX12_waysOf_60 ?_
    refine x_isub hO dX12_waysOf_61 ?_
    refine x_iald hO (gr_12_0 hx0) dX12_waysOf_62 ?_
    refine x_bnd ?_
    generalize hI h (GR x0 0) (nx ((((338 : Int32)) + x4) - ((1 : Int32)))) = v1
    refine x_istore hO [(5, .int v1), (0, rf Γ x0), (1, .int x1), (2, .int x2), (3, .int x3), (4, .int x4)] dX12_waysOf_63 (by decide) rfl ?_
    refine x_iconst hO (v := 0) (by decide) dX12_waysOf_65 ?_
    refine x_istore hO [(6, .int ((0 : Int32))), (5, .int v1), (0, rf Γ x0), (1, .int x1), (2, .int x2), (3, .int x3), (4, .int x4)] dX12_waysOf_66 (by decide) rfl ?_
    refine x_bind (x_sub [2, 3, 4, 5, 6, 1, 0] rfl (go_X12_waysOf_L68 hO h x0 x1 x2 x3 x4 v1 ((0 : Int32)) hx0 (fun y2_0 hx => ?_)))
    refine x_run (t := ((L_X12_waysOf_93 y2_0 x0 x1 x2 x3 x4 v1 ((0 : Int32))).bind (fun e3 => (L_X12_waysOf_276 e3 x0 x1 x2 x3 x4 ((0 : Int32))).bind (fun e4 => some (.inl (e4, x4 + (1 : Int32))))) : Option ((Hp × Int32) ⊕ (Hp)))) hx ?_
    refine x_iconst hO (v := 0) (by decide) dX12_waysOf_90 ?_
    refine x_istore hO [(6, .int ((0 : Int32))), (0, rf Γ x0), (1, .int x1), (2, .int x2), (3, .int x3), (4, .int x4), (5, .int v1)] dX12_waysOf_91 (by decide) rfl ?_
    refine x_bind (x_sub [1, 2, 3, 4, 5, 6, 0] rfl (go_X12_waysOf_L93 hO y2_0 x0 x1 x2 x3 x4 v1 ((0 : Int32)) hx0 (fun y3_0 hx => ?_)))
    refine x_run (t := ((L_X12_waysOf_276 y3_0 x0 x1 x2 x3 x4 ((0 : Int32))).bind (fun e4 => some (.inl (e4, x4 + (1 : Int32)))) : Option ((Hp × Int32) ⊕ (Hp)))) hx ?_
    refine x_iconst hO (v := 0) (by decide) dX12_waysOf_273 ?_
    refine x_istore hO [(6, .int ((0 : Int32))), (0, rf Γ x0), (1, .int x1), (2, .int x2), (3, .int x3), (4, .int x4)] dX12_waysOf_274 (by decide) rfl ?_
    refine x_bind (x_sub [1, 2, 3, 4, 5, 0] rfl (go_X12_waysOf_L276 hO y3_0 x0 x1 x2 x3 x4 ((0 : Int32)) hx0 (fun y4_0 hx => ?_)))
    refine x_run (t := (some (.inl (y4_0, x4 + (1 : Int32))) : Option ((Hp × Int32) ⊕ (Hp)))) hx ?_
    refine x_iinc hO 4 (v := 1) [(4, .int (x4 + (1 : Int32))), (0, rf Γ x0), (1, .int x1), (2, .int x2), (3, .int x3)] dX12_waysOf_304 rfl (by decide) (by decide) rfl ?_
    refine x_goto hO (tg := 44) dX12_waysOf_307 (by decide) ?_
    exact x_leafs [1, 2, 3, 4, 0] rfl (hC y4_0 (x4 + (1 : Int32)))
set_option maxHeartbeats 4000000 in
set_option maxRecDepth 100000 in
theorem go_X12_waysOf_L44 {Γ : Cx} (hO : Ok Γ mX12_waysOf) (h : Hp) (x0 : Nat) (x1 : Int32) (x2 : Int32) (x3 : Int32) (x4 : Int32) (hx0 : Is x0 12) {K : Hp → Prop} (hE310 : ∀ (h : Hp), K (h) → EW Γ mX12_waysOf 310 [(0, rf Γ x0)] [] h) : EG Γ mX12_waysOf 44 [(0, rf Γ x0), (1, .int x1), (2, .int x2), (3, .int x3), (4, .int x4)] [] h (L_X12_waysOf_44 h x0 x1 x2 x3 x4) K := by
  have q := x_loop (Γ := Γ) (M := mX12_waysOf) (pc := 44) (B := fun s : Hp × Int32 => B_X12_waysOf_44 s.1 x0 x1 x2 x3 s.2) (lvf := fun s => [(0, rf Γ x0), (1, .int x1), (2, .int x2), (3, .int x3), (4, .int s.2)]) (hf := fun s => s.1) (Ky := K) (fun s => go_X12_waysOf_B44 hO s.1 x0 x1 x2 x3 s.2 hx0 (fun _ _ => id) hE310) (h, x4)
  exact q
noncomputable def B_X12_waysOf_316 (h : Hp) (x0 : Nat) (x4 : Int32) (x5 : Int32) : Option ((Int32 × Int32) ⊕ (Hp × Int32)) :=
  if ((961 : Int32)) ≤ x5 then some (.inr ((h, x4))) else gd (ib x5 (LEN (GR x0 46))) (some (.inl (x4 + (hI h (GR x0 46) (nx x5)), x5 + (1 : Int32))))
noncomputable def L_X12_waysOf_316 (h : Hp) (x0 : Nat) (x4 : Int32) (x5 : Int32) : Option (Hp × Int32) := iterW (fun s : Int32 × Int32 => B_X12_waysOf_316 h x0 s.1 s.2) (x4, x5)
set_option maxHeartbeats 4000000 in
set_option maxRecDepth 100000 in
theorem go_X12_waysOf_B316 {Γ : Cx} (hO : Ok Γ mX12_waysOf) (h : Hp) (x0 : Nat) (x4 : Int32) (x5 : Int32) (hx0 : Is x0 12) {K : (Int32 × Int32) ⊕ (Hp × Int32) → Prop} (hC : ∀ (x4 : Int32) (x5 : Int32), K (.inl (x4, x5)) → EW Γ mX12_waysOf 316 [(0, rf Γ x0), (4, .int x4), (5, .int x5)] [] h) (hR : ∀ r, K (.inr r) → emHI r = tgt Γ) : EG Γ mX12_waysOf 316 [(0, rf Γ x0), (4, .int x4), (5, .int x5)] [] h (B_X12_waysOf_316 h x0 x4 x5) K := by
  unfold B_X12_waysOf_316
  refine x_iload hO 2 rfl dX12_waysOf_316 ?_
  refine x_sipush hO (v := 961) (by decide) dX12_waysOf_318 ?_
  refine x_icmp_ge hO (tg := 342) dX12_waysOf_321 (by decide) ?_ ?_
  · refine x_iload hO 1 rfl dX12_waysOf_342 ?_
    exact x_iret hO rfl dX12_waysOf_344 (hR _)
  · refine x_iload hO 1 rfl dX12_waysOf_324 ?_
    refine x_aload_n hO 0 rfl rfl dX12_waysOf_326 ?_
    refine x_getR hO fl_RX12_95 hx0 dX12_waysOf_327 ?_
    refine x_iload hO 2 rfl dX12_waysOf_330 ?_
    refine x_iald hO (gr_12_46 hx0) dX12_waysOf_332 ?_
    refine x_iadd hO dX12_waysOf_333 ?_
    refine x_istore hO [(4, .int (x4 + (hI h (GR x0 46) (nx x5)))), (0, rf Γ x0), (5, .int x5)] dX12_waysOf_334 (by decide) rfl ?_
    refine x_iinc hO 2 (v := 1) [(5, .int (x5 + (1 : Int32))), (4, .int (x4 + (hI h (GR x0 46) (nx x5)))), (0, rf Γ x0)] dX12_waysOf_336 rfl (by decide) (by decide) rfl ?_
    refine x_goto hO (tg := 316) dX12_waysOf_339 (by decide) ?_
    exact x_leafs [2, 1, 0] rfl (hC (x4 + (hI h (GR x0 46) (nx x5))) (x5 + (1 : Int32)))
set_option maxHeartbeats 4000000 in
set_option maxRecDepth 100000 in
theorem go_X12_waysOf_L316 {Γ : Cx} (hO : Ok Γ mX12_waysOf) (h : Hp) (x0 : Nat) (x4 : Int32) (x5 : Int32) (hx0 : Is x0 12) {K : Hp × Int32 → Prop} (hR : ∀ r, K (r) → emHI r = tgt Γ) : EG Γ mX12_waysOf 316 [(0, rf Γ x0), (4, .int x4), (5, .int x5)] [] h (L_X12_waysOf_316 h x0 x4 x5) K := by
  have q := x_loop (Γ := Γ) (M := mX12_waysOf) (pc := 316) (B := fun s : Int32 × Int32 => B_X12_waysOf_316 h x0 s.1 s.2) (lvf := fun s => [(0, rf Γ x0), (4, .int s.1), (5, .int s.2)]) (hf := fun s => h) (Ky := K) (fun s => go_X12_waysOf_B316 hO h x0 s.1 s.2 hx0 (fun _ _ => id) hR) (x4, x5)
  exact q
noncomputable def F_X12_waysOf (h : Hp) (x0 : Nat) (x1 : Int32) (x2 : Int32) : Option (Hp × Int32) :=
  gd (ib ((0 : Int32)) (LEN (GR x0 0))) ((L_X12_waysOf_10 h x0 x1 x2 (hI h (GR x0 0) (nx ((0 : Int32)))) ((0 : Int32))).bind (fun e1 => (L_X12_waysOf_44 e1 x0 x1 x2 (hI h (GR x0 0) (nx ((0 : Int32)))) ((1 : Int32))).bind (fun e2 => L_X12_waysOf_316 e2 x0 ((0 : Int32)) ((0 : Int32)))))
set_option maxHeartbeats 4000000 in
set_option maxRecDepth 100000 in
theorem go_X12_waysOf {Γ : Cx} (hO : Ok Γ mX12_waysOf) (h : Hp) (x0 : Nat) (x1 : Int32) (x2 : Int32) (hx0 : Is x0 12) {K : Hp × Int32 → Prop} (hR : ∀ r, K r → emHI r = tgt Γ) : EG Γ mX12_waysOf 0 [(0, rf Γ x0), (1, .int x1), (2, .int x2)] [] h (F_X12_waysOf h x0 x1 x2) K := by
  unfold F_X12_waysOf
  refine x_aload_n hO 0 rfl rfl dX12_waysOf_0 ?_
  refine x_getR hO fl_RX12_7 hx0 dX12_waysOf_1 ?_
  refine x_iconst hO (v := 0) (by decide) dX12_waysOf_4 ?_
  refine x_iald hO (gr_12_0 hx0) dX12_waysOf_5 ?_
  refine x_istore_n hO rfl [(3, .int (hI h (GR x0 0) (nx ((0 : Int32))))), (0, rf Γ x0), (1, .int x1), (2, .int x2)] dX12_waysOf_6 (by decide) rfl ?_
  refine x_iconst hO (v := 0) (by decide) dX12_waysOf_7 ?_
  refine x_istore hO [(4, .int ((0 : Int32))), (3, .int (hI h (GR x0 0) (nx ((0 : Int32))))), (0, rf Γ x0), (1, .int x1), (2, .int x2)] dX12_waysOf_8 (by decide) rfl ?_
  refine x_bind (x_sub [2, 3, 4, 1, 0] rfl (go_X12_waysOf_L10 hO h x0 x1 x2 (hI h (GR x0 0) (nx ((0 : Int32)))) ((0 : Int32)) hx0 (fun y1_0 hx => ?_)))
  refine x_run (t := ((L_X12_waysOf_44 y1_0 x0 x1 x2 (hI h (GR x0 0) (nx ((0 : Int32)))) ((1 : Int32))).bind (fun e2 => L_X12_waysOf_316 e2 x0 ((0 : Int32)) ((0 : Int32))) : Option (Hp × Int32))) hx ?_
  refine x_iconst hO (v := 1) (by decide) dX12_waysOf_41 ?_
  refine x_istore hO [(4, .int ((1 : Int32))), (0, rf Γ x0), (1, .int x1), (2, .int x2), (3, .int (hI h (GR x0 0) (nx ((0 : Int32)))))] dX12_waysOf_42 (by decide) rfl ?_
  refine x_bind (x_sub [1, 2, 3, 4, 0] rfl (go_X12_waysOf_L44 hO y1_0 x0 x1 x2 (hI h (GR x0 0) (nx ((0 : Int32)))) ((1 : Int32)) hx0 (fun y2_0 hx => ?_)))
  refine x_run (t := (L_X12_waysOf_316 y2_0 x0 ((0 : Int32)) ((0 : Int32)) : Option (Hp × Int32))) hx ?_
  refine x_iconst hO (v := 0) (by decide) dX12_waysOf_310 ?_
  refine x_istore hO [(4, .int ((0 : Int32))), (0, rf Γ x0)] dX12_waysOf_311 (by decide) rfl ?_
  refine x_iconst hO (v := 0) (by decide) dX12_waysOf_313 ?_
  refine x_istore hO [(5, .int ((0 : Int32))), (4, .int ((0 : Int32))), (0, rf Γ x0)] dX12_waysOf_314 (by decide) rfl ?_
  exact x_sub [2, 1, 0] rfl (go_X12_waysOf_L316 hO y2_0 x0 ((0 : Int32)) ((0 : Int32)) hx0 hR)
theorem ok_X12_waysOf (G : Gl) (h : Hp) (x0 : Nat) (x1 : Int32) (x2 : Int32) (hx0 : Is x0 12) : CN G mX12_waysOf [.ref (gb G + x0), .int x1, .int x2] h ((F_X12_waysOf h x0 x1 x2).map (emHI)) := CN.fn pn_RX12 (Nat.le_of_ble_eq_true rfl) (fun Γ hG hO => by subst hG; exact go_X12_waysOf hO h x0 x1 x2 hx0 (fun _ q => q))
