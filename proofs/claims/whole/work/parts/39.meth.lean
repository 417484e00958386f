noncomputable def B_X12_inWords_25 (h : Hp) (x0 : Nat) (x1 : Nat) (x2 : Int32) (x3 : Int32) (x4 : Int32) : Option ((Int32) ⊕ (Int32)) :=
  gd (ib x4 (SLN.getD x1 0)) (if ((SBY.getD x1 []).getD (nx x4) 0) = ((32 : Int32)) then some (.inr x4) else some (.inl (x4 + (1 : Int32))))
noncomputable def L_X12_inWords_25 (h : Hp) (x0 : Nat) (x1 : Nat) (x2 : Int32) (x3 : Int32) (x4 : Int32) : Option (Int32) := iterW (fun s : Int32 => B_X12_inWords_25 h x0 x1 x2 x3 s) x4
set_option maxHeartbeats 4000000 in
set_option maxRecDepth 100000 in
theorem go_X12_inWords_B25 {Γ : Cx} (hO : Ok Γ mX12_inWords) (h : Hp) (x0 : Nat) (x1 : Nat) (x2 : Int32) (x3 : Int32) (x4 : Int32) (hx0 : Is x0 12) (hx1 : x1 < NS) {K : (Int32) ⊕ (Int32) → Prop} (hC : ∀ (x4 : Int32), K (.inl x4) → EW Γ mX12_inWords 25 [(0, rf Γ x0), (1, sf Γ x1), (2, .int x2), (3, .int x3), (4, .int x4)] [] h) (hE42 : ∀ (x4 : Int32), K (.inr x4) → EW Γ mX12_inWords 42 [(0, rf Γ x0), (1, sf Γ x1), (2, .int x2), (3, .int x3), (4, .int x4)] [] h) : EG Γ mX12_inWords 25 [(0, rf Γ x0), (1, sf Γ x1), (2, .int x2), (3, .int x3), (4, .int x4)] [] h (B_X12_inWords_25 h x0 x1 x2 x3 x4) K := by
  unfold B_X12_inWords_25
  refine x_aload_n hO 1 rfl rfl dX12_inWords_25 ?_
  refine x_iload hO 4 rfl dX12_inWords_26 ?_
  refine x_schr hO ls_RX12_203 (Nat.le_of_ble_eq_true rfl) hx1 dX12_inWords_28 (Nat.le_of_ble_eq_true rfl) ?_
  refine x_bipush hO (v := 32) (by decide) dX12_inWords_31 ?_
  refine x_icmp_eq hO (tg := 42) dX12_inWords_33 (by decide) ?_ ?_
  · exact x_leafs [0, 1, 2, 3, 4] rfl (hE42 x4)
  · refine x_iinc hO 4 (v := 1) [(4, .int (x4 + (1 : Int32))), (0, rf Γ x0), (1, sf Γ x1), (2, .int x2), (3, .int x3)] dX12_inWords_36 rfl (by decide) (by decide) rfl ?_
    refine x_goto hO (tg := 25) dX12_inWords_39 (by decide) ?_
    exact x_leafs [1, 2, 3, 4, 0] rfl (hC (x4 + (1 : Int32)))
set_option maxHeartbeats 4000000 in
set_option maxRecDepth 100000 in
theorem go_X12_inWords_L25 {Γ : Cx} (hO : Ok Γ mX12_inWords) (h : Hp) (x0 : Nat) (x1 : Nat) (x2 : Int32) (x3 : Int32) (x4 : Int32) (hx0 : Is x0 12) (hx1 : x1 < NS) {K : Int32 → Prop} (hE42 : ∀ (x4 : Int32), K (x4) → EW Γ mX12_inWords 42 [(0, rf Γ x0), (1, sf Γ x1), (2, .int x2), (3, .int x3), (4, .int x4)] [] h) : EG Γ mX12_inWords 25 [(0, rf Γ x0), (1, sf Γ x1), (2, .int x2), (3, .int x3), (4, .int x4)] [] h (L_X12_inWords_25 h x0 x1 x2 x3 x4) K := by
  have q := x_loop (Γ := Γ) (M := mX12_inWords) (pc := 25) (B := fun s : Int32 => B_X12_inWords_25 h x0 x1 x2 x3 s) (lvf := fun s => [(0, rf Γ x0), (1, sf Γ x1), (2, .int x2), (3, .int x3), (4, .int s)]) (hf := fun s => h) (Ky := K) (fun s => go_X12_inWords_B25 hO h x0 x1 x2 x3 s hx0 hx1 (fun _ => id) hE42) x4
  exact q
noncomputable def B_X12_inWords_68 (h : Hp) (x0 : Nat) (x1 : Nat) (x2 : Int32) (x3 : Int32) (x4 : Int32) (x5 : Int32) (x6 : Int32) : Option ((Int32 × Int32) ⊕ (Int32)) :=
  if x4 ≤ x6 then some (.inr x5) else if x5 = 0 then some (.inr x5) else gd (ib x6 (SLN.getD x1 0)) ((F_X12_byteAt h x0 (((hI h x0 12) + x6) - x3)).bind (fun r1 => if ((SBY.getD x1 []).getD (nx x6) 0) = r1 then some (.inl ((1 : Int32), x6 + (1 : Int32))) else some (.inl ((0 : Int32), x6 + (1 : Int32)))))
noncomputable def L_X12_inWords_68 (h : Hp) (x0 : Nat) (x1 : Nat) (x2 : Int32) (x3 : Int32) (x4 : Int32) (x5 : Int32) (x6 : Int32) : Option (Int32) := iterW (fun s : Int32 × Int32 => B_X12_inWords_68 h x0 x1 x2 x3 x4 s.1 s.2) (x5, x6)
set_option maxHeartbeats 4000000 in
set_option maxRecDepth 100000 in
theorem go_X12_inWords_B68 {Γ : Cx} (hO : Ok Γ mX12_inWords) (h : Hp) (x0 : Nat) (x1 : Nat) (x2 : Int32) (x3 : Int32) (x4 : Int32) (x5 : Int32) (x6 : Int32) (hx0 : Is x0 12) (hx1 : x1 < NS) {K : (Int32 × Int32) ⊕ (Int32) → Prop} (hC : ∀ (x5 : Int32) (x6 : Int32), K (.inl (x5, x6)) → EW Γ mX12_inWords 68 [(0, rf Γ x0), (1, sf Γ x1), (2, .int x2), (3, .int x3), (4, .int x4), (5, .int x5), (6, .int x6)] [] h) (hE115 : ∀ (x5 : Int32), K (.inr x5) → EW Γ mX12_inWords 115 [(0, rf Γ x0), (1, sf Γ x1), (2, .int x2), (4, .int x4), (5, .int x5)] [] h) : EG Γ mX12_inWords 68 [(0, rf Γ x0), (1, sf Γ x1), (2, .int x2), (3, .int x3), (4, .int x4), (5, .int x5), (6, .int x6)] [] h (B_X12_inWords_68 h x0 x1 x2 x3 x4 x5 x6) K := by
  unfold B_X12_inWords_68
  refine x_iload hO 6 rfl dX12_inWords_68 ?_
  refine x_iload hO 4 rfl dX12_inWords_70 ?_
  refine x_icmp_ge hO (tg := 115) dX12_inWords_72 (by decide) ?_ ?_
  · exact x_leafs [0, 1, 2, 4, 5] rfl (hE115 x5)
  · refine x_iload hO 5 rfl dX12_inWords_75 ?_
    refine x_if_eq hO (tg := 115) dX12_inWords_77 (by decide) ?_ ?_
    · exact x_leafs [0, 1, 2, 4, 5] rfl (hE115 x5)
    · refine x_aload_n hO 1 rfl rfl dX12_inWords_80 ?_
      refine x_iload hO 6 rfl dX12_inWords_81 ?_
      refine x_schr hO ls_RX12_203 (Nat.le_of_ble_eq_true rfl) hx1 dX12_inWords_83 (Nat.le_of_ble_eq_true rfl) ?_
      refine x_aload_n hO 0 rfl rfl dX12_inWords_86 ?_
      refine x_aload_n hO 0 rfl rfl dX12_inWords_87 ?_
      refine x_getI hO fl_RX12_177 hx0 dX12_inWords_88 ?_
      refine x_iload hO 6 rfl dX12_inWords_91 ?_
      refine x_iadd hO dX12_inWords_93 ?_
      refine x_iload_n hO 3 rfl rfl dX12_inWords_94 ?_
      refine x_isub hO dX12_inWords_95 ?_
      refine y_PI (x_callV hO lv_RX12_174 hx0 vc_12 (by decide) (As := [.int (((hI h x0 12) + x6) - x3)]) rfl (Nat.le_of_ble_eq_true rfl) (ok_X12_byteAt (cG Γ) h x0 (((hI h x0 12) + x6) - x3) hx0) dX12_inWords_96 rfl (Nat.le_of_ble_eq_true rfl)) (fun r1 => ?_)
      refine x_icmp_ne hO (tg := 106) dX12_inWords_99 (by decide) ?_ ?_
      · refine x_iconst hO (v := 0) (by decide) dX12_inWords_106 ?_
        refine x_istore hO [(5, .int ((0 : Int32))), (0, rf Γ x0), (1, sf Γ x1), (2, .int x2), (3, .int x3), (4, .int x4), (6, .int x6)] dX12_inWords_107 (by decide) rfl ?_
        refine x_iinc hO 6 (v := 1) [(6, .int (x6 + (1 : Int32))), (5, .int ((0 : Int32))), (0, rf Γ x0), (1, sf Γ x1), (2, .int x2), (3, .int x3), (4, .int x4)] dX12_inWords_109 rfl (by decide) (by decide) rfl ?_
        refine x_goto hO (tg := 68) dX12_inWords_112 (by decide) ?_
        exact x_leafs [2, 3, 4, 5, 6, 1, 0] rfl (hC ((0 : Int32)) (x6 + (1 : Int32)))
      · refine x_iconst hO (v := 1) (by decide) dX12_inWords_102 ?_
        refine x_goto hO (tg := 107) dX12_inWords_103 (by decide) ?_
        refine x_istore hO [(5, .int ((1 : Int32))), (0, rf Γ x0), (1, sf Γ x1), (2, .int x2), (3, .int x3), (4, .int x4), (6, .int x6)] dX12_inWords_107 (by decide) rfl ?_
        refine x_iinc hO 6 (v := 1) [(6, .int (x6 + (1 : Int32))), (5, .int ((1 : Int32))), (0, rf Γ x0), (1, sf Γ x1), (2, .int x2), (3, .int x3), (4, .int x4)] dX12_inWords_109 rfl (by decide) (by decide) rfl ?_
        refine x_goto hO (tg := 68) dX12_inWords_112 (by decide) ?_
        exact x_leafs [2, 3, 4, 5, 6, 1, 0] rfl (hC ((1 : Int32)) (x6 + (1 : Int32)))
set_option maxHeartbeats 4000000 in
set_option maxRecDepth 100000 in
theorem go_X12_inWords_L68 {Γ : Cx} (hO : Ok Γ mX12_inWords) (h : Hp) (x0 : Nat) (x1 : Nat) (x2 : Int32) (x3 : Int32) (x4 : Int32) (x5 : Int32) (x6 : Int32) (hx0 : Is x0 12) (hx1 : x1 < NS) {K : Int32 → Prop} (hE115 : ∀ (x5 : Int32), K (x5) → EW Γ mX12_inWords 115 [(0, rf Γ x0), (1, sf Γ x1), (2, .int x2), (4, .int x4), (5, .int x5)] [] h) : EG Γ mX12_inWords 68 [(0, rf Γ x0), (1, sf Γ x1), (2, .int x2), (3, .int x3), (4, .int x4), (5, .int x5), (6, .int x6)] [] h (L_X12_inWords_68 h x0 x1 x2 x3 x4 x5 x6) K := by
  have q := x_loop (Γ := Γ) (M := mX12_inWords) (pc := 68) (B := fun s : Int32 × Int32 => B_X12_inWords_68 h x0 x1 x2 x3 x4 s.1 s.2) (lvf := fun s => [(0, rf Γ x0), (1, sf Γ x1), (2, .int x2), (3, .int x3), (4, .int x4), (5, .int s.1), (6, .int s.2)]) (hf := fun s => h) (Ky := K) (fun s => go_X12_inWords_B68 hO h x0 x1 x2 x3 x4 s.1 s.2 hx0 hx1 (fun _ _ => id) hE115) (x5, x6)
  exact q
noncomputable def B_X12_inWords_14 (h : Hp) (x0 : Nat) (x1 : Nat) (x2 : Int32) (x3 : Int32) : Option ((Int32 × Int32) ⊕ (Int32)) :=
  if (nI (SLN.getD x1 0)) ≤ x3 then some (.inr ((-1 : Int32))) else (L_X12_inWords_25 h x0 x1 x2 x3 x3).bind (fun e1 => if (e1 - x3) = ((hI h x0 13) - (hI h x0 12)) then (L_X12_inWords_68 h x0 x1 x2 x3 e1 ((1 : Int32)) x3).bind (fun e3 => if e3 = 0 then some (.inl (x2 + (1 : Int32), e1 + ((1 : Int32)))) else some (.inr x2)) else (L_X12_inWords_68 h x0 x1 x2 x3 e1 ((0 : Int32)) x3).bind (fun e2 => if e2 = 0 then some (.inl (x2 + (1 : Int32), e1 + ((1 : Int32)))) else some (.inr x2)))
noncomputable def L_X12_inWords_14 (h : Hp) (x0 : Nat) (x1 : Nat) (x2 : Int32) (x3 : Int32) : Option (Int32) := iterW (fun s : Int32 × Int32 => B_X12_inWords_14 h x0 x1 s.1 s.2) (x2, x3)
set_option maxHeartbeats 4000000 in
set_option maxRecDepth 100000 in
theorem go_X12_inWords_B14 {Γ : Cx} (hO : Ok Γ mX12_inWords) (h : Hp) (x0 : Nat) (x1 : Nat) (x2 : Int32) (x3 : Int32) (hx0 : Is x0 12) (hx1 : x1 < NS) {K : (Int32 × Int32) ⊕ (Int32) → Prop} (hC : ∀ (x2 : Int32) (x3 : Int32), K (.inl (x2, x3)) → EW Γ mX12_inWords 14 [(0, rf Γ x0), (1, sf Γ x1), (2, .int x2), (3, .int x3)] [] h) (hR : ∀ r, K (.inr r) → emPI h r = tgt Γ) : EG Γ mX12_inWords 14 [(0, rf Γ x0), (1, sf Γ x1), (2, .int x2), (3, .int x3)] [] h (B_X12_inWords_14 h x0 x1 x2 x3) K := by
  unfold B_X12_inWords_14
  refine x_iload_n hO 3 rfl rfl dX12_inWords_14 ?_
  refine x_aload_n hO 1 rfl rfl dX12_inWords_15 ?_
  refine x_slen hO ls_RX12_197 (Nat.le_of_ble_eq_true rfl) hx1 dX12_inWords_16 (Nat.le_of_ble_eq_true rfl) ?_
  refine x_icmp_ge hO (tg := 133) dX12_inWords_19 (by decide) ?_ ?_
  · refine x_iconst hO (v := -1) (by decide) dX12_inWords_133 ?_
    exact x_iret hO rfl dX12_inWords_134 (hR _)
  · refine x_iload_n hO 3 rfl rfl dX12_inWords_22 ?_
    refine x_istore hO [(4, .int x3), (0, rf Γ x0), (1, sf Γ x1), (2, .int x2), (3, .int x3)] dX12_inWords_23 (by decide) rfl ?_
    refine x_bind (x_sub [1, 2, 3, 4, 0] rfl (go_X12_inWords_L25 hO h x0 x1 x2 x3 x3 hx0 hx1 (fun y1_0 hx => ?_)))
    refine x_run (t := (if (y1_0 - x3) = ((hI h x0 13) - (hI h x0 12)) then (L_X12_inWords_68 h x0 x1 x2 x3 y1_0 ((1 : Int32)) x3).bind (fun e3 => if e3 = 0 then some (.inl (x2 + (1 : Int32), y1_0 + ((1 : Int32)))) else some (.inr x2)) else (L_X12_inWords_68 h x0 x1 x2 x3 y1_0 ((0 : Int32)) x3).bind (fun e2 => if e2 = 0 then some (.inl (x2 + (1 : Int32), y1_0 + ((1 : Int32)))) else some (.inr x2)) : Option ((Int32 × Int32) ⊕ (Int32)))) hx ?_
    refine x_iload hO 4 rfl dX12_inWords_42 ?_
    refine x_iload_n hO 3 rfl rfl dX12_inWords_44 ?_
    refine x_isub hO dX12_inWords_45 ?_
    refine x_aload_n hO 0 rfl rfl dX12_inWords_46 ?_
    refine x_getI hO fl_RX12_171 hx0 dX12_inWords_47 ?_
    refine x_aload_n hO 0 rfl rfl dX12_inWords_50 ?_
    refine x_getI hO fl_RX12_177 hx0 dX12_inWords_51 ?_
    refine x_isub hO dX12_inWords_54 ?_
    refine x_icmp_ne hO (tg := 62) dX12_inWords_55 (by decide) ?_ ?_
    · refine x_iconst hO (v := 0) (by decide) dX12_inWords_62 ?_
      refine x_istore hO [(5, .int ((0 : Int32))), (0, rf Γ x0), (1, sf Γ x1), (2, .int x2), (3, .int x3), (4, .int y1_0)] dX12_inWords_63 (by decide) rfl ?_
      refine x_iload_n hO 4 rfl rfl dX12_inWords_65 ?_
      refine x_istore hO [(6, .int x3), (5, .int ((0 : Int32))), (0, rf Γ x0), (1, sf Γ x1), (2, .int x2), (3, .int x3), (4, .int y1_0)] dX12_inWords_66 (by decide) rfl ?_
      refine x_bind (x_sub [2, 3, 4, 5, 6, 1, 0] rfl (go_X12_inWords_L68 hO h x0 x1 x2 x3 y1_0 ((0 : Int32)) x3 hx0 hx1 (fun y2_0 hx => ?_)))
      refine x_run (t := (if y2_0 = 0 then some (.inl (x2 + (1 : Int32), y1_0 + ((1 : Int32)))) else some (.inr x2) : Option ((Int32 × Int32) ⊕ (Int32)))) hx ?_
      refine x_iload hO 4 rfl dX12_inWords_115 ?_
      refine x_if_eq hO (tg := 122) dX12_inWords_117 (by decide) ?_ ?_
      · refine x_iinc hO 2 (v := 1) [(2, .int (x2 + (1 : Int32))), (0, rf Γ x0), (1, sf Γ x1), (4, .int y1_0), (5, .int y2_0)] dX12_inWords_122 rfl (by decide) (by decide) rfl ?_
        refine x_iload hO 3 rfl dX12_inWords_125 ?_
        refine x_iconst hO (v := 1) (by decide) dX12_inWords_127 ?_
        refine x_iadd hO dX12_inWords_128 ?_
        refine x_istore_n hO rfl [(3, .int (y1_0 + ((1 : Int32)))), (2, .int (x2 + (1 : Int32))), (0, rf Γ x0), (1, sf Γ x1), (4, .int y1_0), (5, .int y2_0)] dX12_inWords_129 (by decide) rfl ?_
        refine x_goto hO (tg := 14) dX12_inWords_130 (by decide) ?_
        exact x_leafs [2, 3, 1, 0] rfl (hC (x2 + (1 : Int32)) (y1_0 + ((1 : Int32))))
      · refine x_iload_n hO 2 rfl rfl dX12_inWords_120 ?_
        exact x_iret hO rfl dX12_inWords_121 (hR _)
    · refine x_iconst hO (v := 1) (by decide) dX12_inWords_58 ?_
      refine x_goto hO (tg := 63) dX12_inWords_59 (by decide) ?_
      refine x_istore hO [(5, .int ((1 : Int32))), (0, rf Γ x0), (1, sf Γ x1), (2, .int x2), (3, .int x3), (4, .int y1_0)] dX12_inWords_63 (by decide) rfl ?_
      refine x_iload_n hO 4 rfl rfl dX12_inWords_65 ?_
      refine x_istore hO [(6, .int x3), (5, .int ((1 : Int32))), (0, rf Γ x0), (1, sf Γ x1), (2, .int x2), (3, .int x3), (4, .int y1_0)] dX12_inWords_66 (by decide) rfl ?_
      refine x_bind (x_sub [2, 3, 4, 5, 6, 1, 0] rfl (go_X12_inWords_L68 hO h x0 x1 x2 x3 y1_0 ((1 : Int32)) x3 hx0 hx1 (fun y3_0 hx => ?_)))
      refine x_run (t := (if y3_0 = 0 then some (.inl (x2 + (1 : Int32), y1_0 + ((1 : Int32)))) else some (.inr x2) : Option ((Int32 × Int32) ⊕ (Int32)))) hx ?_
      refine x_iload hO 4 rfl dX12_inWords_115 ?_
      refine x_if_eq hO (tg := 122) dX12_inWords_117 (by decide) ?_ ?_
      · refine x_iinc hO 2 (v := 1) [(2, .int (x2 + (1 : Int32))), (0, rf Γ x0), (1, sf Γ x1), (4, .int y1_0), (5, .int y3_0)] dX12_inWords_122 rfl (by decide) (by decide) rfl ?_
        refine x_iload hO 3 rfl dX12_inWords_125 ?_
        refine x_iconst hO (v := 1) (by decide) dX12_inWords_127 ?_
        refine x_iadd hO dX12_inWords_128 ?_
        refine x_istore_n hO rfl [(3, .int (y1_0 + ((1 : Int32)))), (2, .int (x2 + (1 : Int32))), (0, rf Γ x0), (1, sf Γ x1), (4, .int y1_0), (5, .int y3_0)] dX12_inWords_129 (by decide) rfl ?_
        refine x_goto hO (tg := 14) dX12_inWords_130 (by decide) ?_
        exact x_leafs [2, 3, 1, 0] rfl (hC (x2 + (1 : Int32)) (y1_0 + ((1 : Int32))))
      · refine x_iload_n hO 2 rfl rfl dX12_inWords_120 ?_
        exact x_iret hO rfl dX12_inWords_121 (hR _)
set_option maxHeartbeats 4000000 in
set_option maxRecDepth 100000 in
theorem go_X12_inWords_L14 {Γ : Cx} (hO : Ok Γ mX12_inWords) (h : Hp) (x0 : Nat) (x1 : Nat) (x2 : Int32) (x3 : Int32) (hx0 : Is x0 12) (hx1 : x1 < NS) {K : Int32 → Prop} (hR : ∀ r, K (r) → emPI h r = tgt Γ) : EG Γ mX12_inWords 14 [(0, rf Γ x0), (1, sf Γ x1), (2, .int x2), (3, .int x3)] [] h (L_X12_inWords_14 h x0 x1 x2 x3) K := by
  have q := x_loop (Γ := Γ) (M := mX12_inWords) (pc := 14) (B := fun s : Int32 × Int32 => B_X12_inWords_14 h x0 x1 s.1 s.2) (lvf := fun s => [(0, rf Γ x0), (1, sf Γ x1), (2, .int s.1), (3, .int s.2)]) (hf := fun s => h) (Ky := K) (fun s => go_X12_inWords_B14 hO h x0 x1 s.1 s.2 hx0 hx1 (fun _ _ => id) hR) (x2, x3)
  exact q
noncomputable def F_X12_inWords (h : Hp) (x0 : Nat) (x1 : Nat) : Option (Int32) :=
  if (hI h x0 11) = ((2 : Int32)) then L_X12_inWords_14 h x0 x1 ((0 : Int32)) ((1 : Int32)) else some ((-1 : Int32))
set_option maxHeartbeats 4000000 in
set_option maxRecDepth 100000 in
theorem go_X12_inWords {Γ : Cx} (hO : Ok Γ mX12_inWords) (h : Hp) (x0 : Nat) (x1 : Nat) (hx0 : Is x0 12) (hx1 : x1 < NS) {K : Int32 → Prop} (hR : ∀ r, K r → emPI h r = tgt Γ) : EG Γ mX12_inWords 0 [(0, rf Γ x0), (1, sf Γ x1)] [] h (F_X12_inWords h x0 x1) K := by
  unfold F_X12_inWords
  refine x_aload_n hO 0 rfl rfl dX12_inWords_0 ?_
  refine x_getI hO fl_RX12_183 hx0 dX12_inWords_1 ?_
  refine x_iconst hO (v := 2) (by decide) dX12_inWords_4 ?_
  refine x_icmp_eq hO (tg := 10) dX12_inWords_5 (by decide) ?_ ?_
  · refine x_iconst hO (v := 0) (by decide) dX12_inWords_10 ?_
    refine x_istore_n hO rfl [(2, .int ((0 : Int32))), (0, rf Γ x0), (1, sf Γ x1)] dX12_inWords_11 (by decide) rfl ?_
    refine x_iconst hO (v := 1) (by decide) dX12_inWords_12 ?_
    refine x_istore_n hO rfl [(3, .int ((1 : Int32))), (2, .int ((0 : Int32))), (0, rf Γ x0), (1, sf Γ x1)] dX12_inWords_13 (by decide) rfl ?_
    exact x_sub [2, 3, 1, 0] rfl (go_X12_inWords_L14 hO h x0 x1 ((0 : Int32)) ((1 : Int32)) hx0 hx1 hR)
  · refine x_iconst hO (v := -1) (by decide) dX12_inWords_8 ?_
    exact x_iret hO rfl dX12_inWords_9 (hR _)
theorem ok_X12_inWords (G : Gl) (h : Hp) (x0 : Nat) (x1 : Nat) (hx0 : Is x0 12) (hx1 : x1 < NS) : CN G mX12_inWords [.ref (gb G + x0), .ref (gk G x1)] h ((F_X12_inWords h x0 x1).map (emPI h)) := CN.fn pn_RX12 (Nat.le_of_ble_eq_true rfl) (fun Γ hG hO => by subst hG; exact go_X12_inWords hO h x0 x1 hx0 hx1 (fun _ q => q))
noncomputable def B_X12_plan_36 (h : Hp) (x0 : Nat) (x4 : Int32) (x5 : Int32) (x6 : Int32) (x7 : Int32) : Option ((Int32 × Int32) ⊕ (Int32)) :=
  if (hI h x0 30) ≤ x7 then some (.inr x6) else if x6 = 0 then gd (ib x7 (LEN (GR x0 28))) (if (hI h (GR x0 28) (nx x7)) = x5 then some (.inl ((1 : Int32), x7 + (1 : Int32))) else some (.inl ((0 : Int32), x7 + (1 : Int32)))) else some (.inl ((1 : Int32), x7 + (1 : Int32)))
noncomputable def L_X12_plan_36 (h : Hp) (x0 : Nat) (x4 : Int32) (x5 : Int32) (x6 : Int32) (x7 : Int32) : Option (Int32) := iterW (fun s : Int32 × Int32 => B_X12_plan_36 h x0 x4 x5 s.1 s.2) (x6, x7)
set_option maxHeartbeats 4000000 in
set_option maxRecDepth 100000 in
theorem go_X12_plan_B36 {Γ : Cx} (hO : Ok Γ mX12_plan) (h : Hp) (x0 : Nat) (x4 : Int32) (x5 : Int32) (x6 : Int32) (x7 : Int32) (hx0 : Is x0 12) {K : (Int32 × Int32) ⊕ (Int32) → Prop} (hC : ∀ (x6 : Int32) (x7 : Int32), K (.inl (x6, x7)) → EW Γ mX12_plan 36 [(0, rf Γ x0), (4, .int x4), (5, .int x5), (6, .int x6), (7, .int x7)] [] h) (hE75 : ∀ (x6 : Int32), K (.inr x6) → EW Γ mX12_plan 75 [(0, rf Γ x0), (4, .int x4), (5, .int x5), (6, .int x6)] [] h) : EG Γ mX12_plan 36 [(0, rf Γ x0), (4, .int x4), (5, .int x5), (6, .int x6), (7, .int x7)] [] h (B_X12_plan_36 h x0 x4 x5 x6 x7) K := by
  unfold B_X12_plan_36
  refine x_iload hO 4 rfl dX12_plan_36 ?_
  refine x_aload_n hO 0 rfl rfl dX12_plan_38 ?_
  refine x_getI hO fl_RX12_299 hx0 dX12_plan_39 ?_
  refine x_icmp_ge hO (tg := 75) dX12_plan_42 (by decide) ?_ ?_
  · exact x_leafs [0, 1, 2, 3] rfl (hE75 x6)
  · refine x_iload hO 3 rfl dX12_plan_45 ?_
    refine x_if_ne hO (tg := 62) dX12_plan_47 (by decide) ?_ ?_
    · refine x_iconst hO (v := 1) (by decide) dX12_plan_62 ?_
      refine x_goto hO (tg := 67) dX12_plan_63 (by decide) ?_
      refine x_istore hO [(6, .int ((1 : Int32))), (0, rf Γ x0), (4, .int x4), (5, .int x5), (7, .int x7)] dX12_plan_67 (by decide) rfl ?_
      refine x_iinc hO 4 (v := 1) [(7, .int (x7 + (1 : Int32))), (6, .int ((1 : Int32))), (0, rf Γ x0), (4, .int x4), (5, .int x5)] dX12_plan_69 rfl (by decide) (by decide) rfl ?_
      refine x_goto hO (tg := 36) dX12_plan_72 (by decide) ?_
      exact x_leafs [2, 3, 4, 1, 0] rfl (hC ((1 : Int32)) (x7 + (1 : Int32)))
    · refine x_aload_n hO 0 rfl rfl dX12_plan_50 ?_
      refine x_getR hO fl_RX12_59 hx0 dX12_plan_51 ?_
      refine x_iload hO 4 rfl dX12_plan_54 ?_
      refine x_iald hO (gr_12_28 hx0) dX12_plan_56 ?_
      refine x_iload hO 2 rfl dX12_plan_57 ?_
      refine x_icmp_ne hO (tg := 66) dX12_plan_59 (by decide) ?_ ?_
      · refine x_iconst hO (v := 0) (by decide) dX12_plan_66 ?_
        refine x_istore hO [(6, .int ((0 : Int32))), (0, rf Γ x0), (4, .int x4), (5, .int x5), (7, .int x7)] dX12_plan_67 (by decide) rfl ?_
        refine x_iinc hO 4 (v := 1) [(7, .int (x7 + (1 : Int32))), (6, .int ((0 : Int32))), (0, rf Γ x0), (4, .int x4), (5, .int x5)] dX12_plan_69 rfl (by decide) (by decide) rfl ?_
        refine x_goto hO (tg := 36) dX12_plan_72 (by decide) ?_
        exact x_leafs [2, 3, 4, 1, 0] rfl (hC ((0 : Int32)) (x7 + (1 : Int32)))
      · refine x_iconst hO (v := 1) (by decide) dX12_plan_62 ?_
        refine x_goto hO (tg := 67) dX12_plan_63 (by decide) ?_
        refine x_istore hO [(6, .int ((1 : Int32))), (0, rf Γ x0), (4, .int x4), (5, .int x5), (7, .int x7)] dX12_plan_67 (by decide) rfl ?_
        refine x_iinc hO 4 (v := 1) [(7, .int (x7 + (1 : Int32))), (6, .int ((1 : Int32))), (0, rf Γ x0), (4, .int x4), (5, .int x5)] dX12_plan_69 rfl (by decide) (by decide) rfl ?_
        refine x_goto hO (tg := 36) dX12_plan_72 (by decide) ?_
        exact x_leafs [2, 3, 4, 1, 0] rfl (hC ((1 : Int32)) (x7 + (1 : Int32)))
set_option maxHeartbeats 4000000 in
set_option maxRecDepth 100000 in
theorem go_X12_plan_L36 {Γ : Cx} (hO : Ok Γ mX12_plan) (h : Hp) (x0 : Nat) (x4 : Int32) (x5 : Int32) (x6 : Int32) (x7 : Int32) (hx0 : Is x0 12) {K : Int32 → Prop} (hE75 : ∀ (x6 : Int32), K (x6) → EW Γ mX12_plan 75 [(0, rf Γ x0), (4, .int x4), (5, .int x5), (6, .int x6)] [] h) : EG Γ mX12_plan 36 [(0, rf Γ x0), (4, .int x4), (5, .int x5), (6, .int x6), (7, .int x7)] [] h (L_X12_plan_36 h x0 x4 x5 x6 x7) K := by
  have q := x_loop (Γ := Γ) (M := mX12_plan) (pc := 36) (B := fun s : Int32 × Int32 => B_X12_plan_36 h x0 x4 x5 s.1 s.2) (lvf := fun s => [(0, rf Γ x0), (4, .int x4), (5, .int x5), (6, .int s.1), (7, .int s.2)]) (hf := fun s => h) (Ky := K) (fun s => go_X12_plan_B36 hO h x0 x4 x5 s.1 s.2 hx0 (fun _ _ => id) hE75) (x6, x7)
  exact q
noncomputable def B_X12_plan_23 (h : Hp) (x0 : Nat) (x4 : Int32) (x5 : Int32) : Option ((Hp × Int32 × Int32) ⊕ (Hp × Int32)) :=
  if ((8 : Int32)) ≤ x5 then some (.inr ((h, x4))) else (L_X12_plan_36 h x0 x4 x5 ((0 : Int32)) ((0 : Int32))).bind (fun e1 => if e1 = 0 then some (.inl (h, x4, x5 + (1 : Int32))) else gd (ib x4 (LEN (GR x0 31))) (some (.inl (uI h (GR x0 31) (nx x4) x5, x4 + (1 : Int32), x5 + (1 : Int32)))))
noncomputable def L_X12_plan_23 (h : Hp) (x0 : Nat) (x4 : Int32) (x5 : Int32) : Option (Hp × Int32) := iterW (fun s : Hp × Int32 × Int32 => B_X12_plan_23 s.1 x0 s.2.1 s.2.2) (h, x4, x5)
set_option maxHeartbeats 4000000 in
set_option maxRecDepth 100000 in
theorem go_X12_plan_B23 {Γ : Cx} (hO : Ok Γ mX12_plan) (h : Hp) (x0 : Nat) (x4 : Int32) (x5 : Int32) (hx0 : Is x0 12) {K : (Hp × Int32 × Int32) ⊕ (Hp × Int32) → Prop} (hC : ∀ (h : Hp) (x4 : Int32) (x5 : Int32), K (.inl (h, x4, x5)) → EW Γ mX12_plan 23 [(0, rf Γ x0), (4, .int x4), (5, .int x5)] [] h) (hE101 : ∀ (h : Hp) (x4 : Int32), K (.inr ((h, x4))) → EW Γ mX12_plan 101 [(0, rf Γ x0), (4, .int x4)] [] h) : EG Γ mX12_plan 23 [(0, rf Γ x0), (4, .int x4), (5, .int x5)] [] h (B_X12_plan_23 h x0 x4 x5) K := by
  unfold B_X12_plan_23
  refine x_iload hO 2 rfl dX12_plan_23 ?_
  refine x_bipush hO (v := 8) (by decide) dX12_plan_25 ?_
  refine x_icmp_ge hO (tg := 101) dX12_plan_27 (by decide) ?_ ?_
  · exact x_leafs [0, 1] rfl (hE101 h x4)
  · refine x_iconst hO (v := 0) (by decide) dX12_plan_30 ?_
    refine x_istore hO [(6, .int ((0 : Int32))), (0, rf Γ x0), (4, .int x4), (5, .int x5)] dX12_plan_31 (by decide) rfl ?_
    refine x_iconst hO (v := 0) (by decide) dX12_plan_33 ?_
    refine x_istore hO [(7, .int ((0 : Int32))), (6, .int ((0 : Int32))), (0, rf Γ x0), (4, .int x4), (5, .int x5)] dX12_plan_34 (by decide) rfl ?_
    refine x_bind (x_sub [2, 3, 4, 1, 0] rfl (go_X12_plan_L36 hO h x0 x4 x5 ((0 : Int32)) ((0 : Int32)) hx0 (fun y1_0 hx => ?_)))
    refine x_run (t := (if y1_0 = 0 then some (.inl (h, x4, x5 + (1 : Int32))) else gd (ib x4 (LEN (GR x0 31))) (some (.inl (uI h (GR x0 31) (nx x4) x5, x4 + (1 : Int32), x5 + (1 : Int32)))) : Option ((Hp × Int32 × Int32) ⊕ (Hp × Int32)))) hx ?_
    refine x_iload hO 3 rfl dX12_plan_75 ?_
    refine x_if_ne hO (tg := 83) dX12_plan_77 (by decide) ?_ ?_
    · refine x_aload_n hO 0 rfl rfl dX12_plan_83 ?_
      refine x_getR hO fl_RX12_65 hx0 dX12_plan_84 ?_
      refine x_iload hO 1 rfl dX12_plan_87 ?_
      refine x_iload hO 2 rfl dX12_plan_89 ?_
      refine x_iast hO (gr_12_31 hx0) dX12_plan_91 ?_
      refine x_iinc hO 1 (v := 1) [(4, .int (x4 + (1 : Int32))), (0, rf Γ x0), (5, .int x5), (6, .int y1_0)] dX12_plan_92 rfl (by decide) (by decide) rfl ?_
      refine x_iinc hO 2 (v := 1) [(5, .int (x5 + (1 : Int32))), (4, .int (x4 + (1 : Int32))), (0, rf Γ x0), (6, .int y1_0)] dX12_plan_95 rfl (by decide) (by decide) rfl ?_
      refine x_goto hO (tg := 23) dX12_plan_98 (by decide) ?_
      exact x_leafs [2, 1, 0] rfl (hC (uI h (GR x0 31) (nx x4) x5) (x4 + (1 : Int32)) (x5 + (1 : Int32)))
    · refine x_goto hO (tg := 95) dX12_plan_80 (by decide) ?_
      refine x_iinc hO 2 (v := 1) [(5, .int (x5 + (1 : Int32))), (0, rf Γ x0), (4, .int x4), (6, .int y1_0)] dX12_plan_95 rfl (by decide) (by decide) rfl ?_
      refine x_goto hO (tg := 23) dX12_plan_98 (by decide) ?_
      exact x_leafs [1, 2, 0] rfl (hC h x4 (x5 + (1 : Int32)))
set_option maxHeartbeats 4000000 in
set_option maxRecDepth 100000 in
theorem go_X12_plan_L23 {Γ : Cx} (hO : Ok Γ mX12_plan) (h : Hp) (x0 : Nat) (x4 : Int32) (x5 : Int32) (hx0 : Is x0 12) {K : Hp × Int32 → Prop} (hE101 : ∀ (h : Hp) (x4 : Int32), K ((h, x4)) → EW Γ mX12_plan 101 [(0, rf Γ x0), (4, .int x4)] [] h) : EG Γ mX12_plan 23 [(0, rf Γ x0), (4, .int x4), (5, .int x5)] [] h (L_X12_plan_23 h x0 x4 x5) K := by
  have q := x_loop (Γ := Γ) (M := mX12_plan) (pc := 23) (B := fun s : Hp × Int32 × Int32 => B_X12_plan_23 s.1 x0 s.2.1 s.2.2) (lvf := fun s => [(0, rf Γ x0), (4, .int s.2.1), (5, .int s.2.2)]) (hf := fun s => s.1) (Ky := K) (fun s => go_X12_plan_B23 hO s.1 x0 s.2.1 s.2.2 hx0 (fun _ _ _ => id) hE101) (h, x4, x5)
  exact q
noncomputable def B_X12_plan_136 (h : Hp) (x0 : Nat) (x4 : Int32) (x5 : Int32) (x6 : Int32) (x7 : Int32) (x8 : Int32) (x9 : Int32) (x10 : Int32) : Option ((Hp × Int32 × Int32) ⊕ (Hp)) :=
  if x10 < 0 then some (.inr h) else gd (!decide (x4 = 0)) (gd (ib (x9 - x9 / x4 * x4) (LEN (GR x0 31))) (gd (ib x10 (LEN (GR x0 32))) (gd (!decide (x4 = 0)) (some (.inl (uI h (GR x0 32) (nx x10) (hI h (GR x0 31) (nx (x9 - x9 / x4 * x4))), x9 / x4, x10 + (-1 : Int32)))))))
noncomputable def L_X12_plan_136 (h : Hp) (x0 : Nat) (x4 : Int32) (x5 : Int32) (x6 : Int32) (x7 : Int32) (x8 : Int32) (x9 : Int32) (x10 : Int32) : Option (Hp) := iterW (fun s : Hp × Int32 × Int32 => B_X12_plan_136 s.1 x0 x4 x5 x6 x7 x8 s.2.1 s.2.2) (h, x9, x10)
set_option maxHeartbeats 4000000 in
set_option maxRecDepth 100000 in
theorem go_X12_plan_B136 {Γ : Cx} (hO : Ok Γ mX12_plan) (h : Hp) (x0 : Nat) (x4 : Int32) (x5 : Int32) (x6 : Int32) (x7 : Int32) (x8 : Int32) (x9 : Int32) (x10 : Int32) (hx0 : Is x0 12) {K : (Hp × Int32 × Int32) ⊕ (Hp) → Prop} (hC : ∀ (h : Hp) (x9 : Int32) (x10 : Int32), K (.inl (h, x9, x10)) → EW Γ mX12_plan 136 [(0, rf Γ x0), (4, .int x4), (5, .int x5), (6, .int x6), (7, .int x7), (8, .int x8), (9, .int x9), (10, .int x10)] [] h) (hE171 : ∀ (h : Hp), K (.inr h) → EW Γ mX12_plan 171 [(0, rf Γ x0), (4, .int x4), (5, .int x5), (6, .int x6), (7, .int x7), (8, .int x8)] [] h) : EG Γ mX12_plan 136 [(0, rf Γ x0), (4, .int x4), (5, .int x5), (6, .int x6), (7, .int x7), (8, .int x8), (9, .int x9), (10, .int x10)] [] h (B_X12_plan_136 h x0 x4 x5 x6 x7 x8 x9 x10) K := by
  unfold B_X12_plan_136
  refine x_iload hO 7 rfl dX12_plan_136 ?_
  refine x_if_lt hO (tg := 171) dX12_plan_138 (by decide) ?_ ?_
  · exact x_leafs [0, 1, 2, 3, 4, 5] rfl (hE171 h)
  · refine x_aload_n hO 0 rfl rfl dX12_plan_141 ?_
    refine x_getR hO fl_RX12_68 hx0 dX12_plan_142 ?_
    refine x_iload hO 7 rfl dX12_plan_145 ?_
    refine x_aload_n hO 0 rfl rfl dX12_plan_147 ?_
    refine x_getR hO fl_RX12_65 hx0 dX12_plan_148 ?_
    refine x_iload hO 6 rfl dX12_plan_151 ?_
    refine x_iload hO 1 rfl dX12_plan_153 ?_
    refine x_irem hO dX12_plan_155 ?_
    refine x_iald hO (gr_12_31 hx0) dX12_plan_156 ?_
    refine x_iast hO (gr_12_32 hx0) dX12_plan_157 ?_
    refine x_iload hO 6 rfl dX12_plan_158 ?_
    refine x_iload hO 1 rfl dX12_plan_160 ?_
    refine x_idiv hO dX12_plan_162 ?_
    refine x_istore hO [(9, .int (x9 / x4)), (0, rf Γ x0), (4, .int x4), (5, .int x5), (6, .int x6), (7, .int x7), (8, .int x8), (10, .int x10)] dX12_plan_163 (by decide) rfl ?_
    refine x_iinc hO 7 (v := -1) [(10, .int (x10 + (-1 : Int32))), (9, .int (x9 / x4)), (0, rf Γ x0), (4, .int x4), (5, .int x5), (6, .int x6), (7, .int x7), (8, .int x8)] dX12_plan_165 rfl (by decide) (by decide) rfl ?_
    refine x_goto hO (tg := 136) dX12_plan_168 (by decide) ?_
    exact x_leafs [2, 3, 4, 5, 6, 7, 1, 0] rfl (hC (uI h (GR x0 32) (nx x10) (hI h (GR x0 31) (nx (x9 - x9 / x4 * x4)))) (x9 / x4) (x10 + (-1 : Int32)))
set_option maxHeartbeats 4000000 in
set_option maxRecDepth 100000 in
theorem go_X12_plan_L136 {Γ : Cx} (hO : Ok Γ mX12_plan) (h : Hp) (x0 : Nat) (x4 : Int32) (x5 : Int32) (x6 : Int32) (x7 : Int32) (x8 : Int32) (x9 : Int32) (x10 : Int32) (hx0 : Is x0 12) {K : Hp → Prop} (hE171 : ∀ (h : Hp), K (h) → EW Γ mX12_plan 171 [(0, rf Γ x0), (4, .int x4), (5, .int x5), (6, .int x6), (7, .int x7), (8, .int x8)] [] h) : EG Γ mX12_plan 136 [(0, rf Γ x0), (4, .int x4), (5, .int x5), (6, .int x6), (7, .int x7), (8, .int x8), (9, .int x9), (10, .int x10)] [] h (L_X12_plan_136 h x0 x4 x5 x6 x7 x8 x9 x10) K := by
  have q := x_loop (Γ := Γ) (M := mX12_plan) (pc := 136) (B := fun s : Hp × Int32 × Int32 => B_X12_plan_136 s.1 x0 x4 x5 x6 x7 x8 s.2.1 s.2.2) (lvf := fun s => [(0, rf Γ x0), (4, .int x4), (5, .int x5), (6, .int x6), (7, .int x7), (8, .int x8), (9, .int s.2.1), (10, .int s.2.2)]) (hf := fun s => s.1) (Ky := K) (fun s => go_X12_plan_B136 hO s.1 x0 x4 x5 x6 x7 x8 s.2.1 s.2.2 hx0 (fun _ _ _ => id) hE171) (h, x9, x10)
  exact q
noncomputable def B_X12_plan_208 (h : Hp) (x0 : Nat) (x4 : Int32) (x5 : Int32) (x6 : Int32) (x7 : Int32) (x8 : Int32) (x11 : Int32) : Option ((Hp × Int32) ⊕ (Hp)) :=
  if x6 ≤ x11 then some (.inr h) else gd (ib x11 (LEN (GR x0 32))) (gd (ib x11 (LEN (GR x0 33))) (some (.inl (uI h (GR x0 33) (nx x11) (hI h (GR x0 32) (nx x11)), x11 + (1 : Int32)))))
noncomputable def L_X12_plan_208 (h : Hp) (x0 : Nat) (x4 : Int32) (x5 : Int32) (x6 : Int32) (x7 : Int32) (x8 : Int32) (x11 : Int32) : Option (Hp) := iterW (fun s : Hp × Int32 => B_X12_plan_208 s.1 x0 x4 x5 x6 x7 x8 s.2) (h, x11)
set_option maxHeartbeats 4000000 in
set_option maxRecDepth 100000 in
theorem go_X12_plan_B208 {Γ : Cx} (hO : Ok Γ mX12_plan) (h : Hp) (x0 : Nat) (x4 : Int32) (x5 : Int32) (x6 : Int32) (x7 : Int32) (x8 : Int32) (x11 : Int32) (hx0 : Is x0 12) {K : (Hp × Int32) ⊕ (Hp) → Prop} (hC : ∀ (h : Hp) (x11 : Int32), K (.inl (h, x11)) → EW Γ mX12_plan 208 [(0, rf Γ x0), (4, .int x4), (5, .int x5), (6, .int x6), (7, .int x7), (8, .int x8), (11, .int x11)] [] h) (hE235 : ∀ (h : Hp), K (.inr h) → EW Γ mX12_plan 235 [(0, rf Γ x0), (4, .int x4), (5, .int x5), (6, .int x6), (7, .int x7), (8, .int x8)] [] h) : EG Γ mX12_plan 208 [(0, rf Γ x0), (4, .int x4), (5, .int x5), (6, .int x6), (7, .int x7), (8, .int x8), (11, .int x11)] [] h (B_X12_plan_208 h x0 x4 x5 x6 x7 x8 x11) K := by
  unfold B_X12_plan_208
  refine x_iload hO 6 rfl dX12_plan_208 ?_
  refine x_iload hO 3 rfl dX12_plan_210 ?_
  refine x_icmp_ge hO (tg := 235) dX12_plan_212 (by decide) ?_ ?_
  · exact x_leafs [0, 1, 2, 3, 4, 5] rfl (hE235 h)
  · refine x_aload_n hO 0 rfl rfl dX12_plan_215 ?_
    refine x_getR hO fl_RX12_71 hx0 dX12_plan_216 ?_
    refine x_iload hO 6 rfl dX12_plan_219 ?_
    refine x_aload_n hO 0 rfl rfl dX12_plan_221 ?_
    refine x_getR hO fl_RX12_68 hx0 dX12_plan_222 ?_
    refine x_iload hO 6 rfl dX12_plan_225 ?_
    refine x_iald hO (gr_12_32 hx0) dX12_plan_227 ?_
    refine x_iast hO (gr_12_33 hx0) dX12_plan_228 ?_
    refine x_iinc hO 6 (v := 1) [(11, .int (x11 + (1 : Int32))), (0, rf Γ x0), (4, .int x4), (5, .int x5), (6, .int x6), (7, .int x7), (8, .int x8)] dX12_plan_229 rfl (by decide) (by decide) rfl ?_
    refine x_goto hO (tg := 208) dX12_plan_232 (by decide) ?_
    exact x_leafs [1, 2, 3, 4, 5, 6, 0] rfl (hC (uI h (GR x0 33) (nx x11) (hI h (GR x0 32) (nx x11))) (x11 + (1 : Int32)))
set_option maxHeartbeats 4000000 in
set_option maxRecDepth 100000 in
theorem go_X12_plan_L208 {Γ : Cx} (hO : Ok Γ mX12_plan) (h : Hp) (x0 : Nat) (x4 : Int32) (x5 : Int32) (x6 : Int32) (x7 : Int32) (x8 : Int32) (x11 : Int32) (hx0 : Is x0 12) {K : Hp → Prop} (hE235 : ∀ (h : Hp), K (h) → EW Γ mX12_plan 235 [(0, rf Γ x0), (4, .int x4), (5, .int x5), (6, .int x6), (7, .int x7), (8, .int x8)] [] h) : EG Γ mX12_plan 208 [(0, rf Γ x0), (4, .int x4), (5, .int x5), (6, .int x6), (7, .int x7), (8, .int x8), (11, .int x11)] [] h (L_X12_plan_208 h x0 x4 x5 x6 x7 x8 x11) K := by
  have q := x_loop (Γ := Γ) (M := mX12_plan) (pc := 208) (B := fun s : Hp × Int32 => B_X12_plan_208 s.1 x0 x4 x5 x6 x7 x8 s.2) (lvf := fun s => [(0, rf Γ x0), (4, .int x4), (5, .int x5), (6, .int x6), (7, .int x7), (8, .int x8), (11, .int s.2)]) (hf := fun s => s.1) (Ky := K) (fun s => go_X12_plan_B208 hO s.1 x0 x4 x5 x6 x7 x8 s.2 hx0 (fun _ _ => id) hE235) (h, x11)
  exact q
noncomputable def B_X12_plan_119 (h : Hp) (x0 : Nat) (x4 : Int32) (x5 : Int32) (x6 : Int32) (x7 : Int32) (x8 : Int32) : Option ((Hp × Int32 × Int32) ⊕ (Hp × Int32)) :=
  if x5 ≤ x8 then some (.inr ((h, x7))) else (L_X12_plan_136 h x0 x4 x5 x6 x7 x8 x8 (x6 - ((1 : Int32)))).bind (fun e1 => (F_X12_triesRow e1 x0 x6).bind (fun r2 => if r2.2 = ((-1 : Int32)) then some (.inl (r2.1, x7, x8 + (1 : Int32))) else if x7 = ((-1 : Int32)) then (L_X12_plan_208 r2.1 x0 x4 x5 x6 r2.2 x8 ((0 : Int32))).bind (fun e3 => some (.inl (e3, r2.2, x8 + (1 : Int32)))) else if r2.2 < x7 then (L_X12_plan_208 r2.1 x0 x4 x5 x6 r2.2 x8 ((0 : Int32))).bind (fun e4 => some (.inl (e4, r2.2, x8 + (1 : Int32)))) else some (.inl (r2.1, x7, x8 + (1 : Int32)))))
noncomputable def L_X12_plan_119 (h : Hp) (x0 : Nat) (x4 : Int32) (x5 : Int32) (x6 : Int32) (x7 : Int32) (x8 : Int32) : Option (Hp × Int32) := iterW (fun s : Hp × Int32 × Int32 => B_X12_plan_119 s.1 x0 x4 x5 x6 s.2.1 s.2.2) (h, x7, x8)
set_option maxHeartbeats 4000000 in
set_option maxRecDepth 100000 in
theorem go_X12_plan_B119 {Γ : Cx} (hO : Ok Γ mX12_plan) (h : Hp) (x0 : Nat) (x4 : Int32) (x5 : Int32) (x6 : Int32) (x7 : Int32) (x8 : Int32) (hx0 : Is x0 12) {K : (Hp × Int32 × Int32) ⊕ (Hp × Int32) → Prop} (hC : ∀ (h : Hp) (x7 : Int32) (x8 : Int32), K (.inl (h, x7, x8)) → EW Γ mX12_plan 119 [(0, rf Γ x0), (4, .int x4), (5, .int x5), (6, .int x6), (7, .int x7), (8, .int x8)] [] h) (hE241 : ∀ (h : Hp) (x7 : Int32), K (.inr ((h, x7))) → EW Γ mX12_plan 241 [(0, rf Γ x0), (4, .int x4), (5, .int x5), (6, .int x6), (7, .int x7)] [] h) : EG Γ mX12_plan 119 [(0, rf Γ x0), (4, .int x4), (5, .int x5), (6, .int x6), (7, .int x7), (8, .int x8)] [] h (B_X12_plan_119 h x0 x4 x5 x6 x7 x8) K := by
  unfold B_X12_plan_119
  refine x_iload hO 5 rfl dX12_plan_119 ?_
  refine x_iload hO 2 rfl dX12_plan_121 ?_
  refine x_icmp_ge hO (tg := 241) dX12_plan_123 (by decide) ?_ ?_
  · exact x_leafs [0, 1, 2, 3, 4] rfl (hE241 h x7)
  · refine x_iload hO 5 rfl dX12_plan_126 ?_
    refine x_istore hO [(9, .int x8), (0, rf Γ x0), (4, .int x4), (5, .int x5), (6, .int x6), (7, .int x7), (8, .int x8)] dX12_plan_128 (by decide) rfl ?_
    refine x_iload hO 4 rfl dX12_plan_130 ?_
    refine x_iconst hO (v := 1) (by decide) dX12_plan_132 ?_
    refine x_isub hO dX12_plan_133 ?_
    refine x_istore hO [(10, .int (x6 - ((1 : Int32)))), (9, .int x8), (0, rf Γ x0), (4, .int x4), (5, .int x5), (6, .int x6), (7, .int x7), (8, .int x8)] dX12_plan_134 (by decide) rfl ?_
    refine x_bind (x_sub [2, 3, 4, 5, 6, 7, 1, 0] rfl (go_X12_plan_L136 hO h x0 x4 x5 x6 x7 x8 x8 (x6 - ((1 : Int32))) hx0 (fun y1_0 hx => ?_)))
    refine x_run (t := ((F_X12_triesRow y1_0 x0 x6).bind (fun r2 => if r2.2 = ((-1 : Int32)) then some (.inl (r2.1, x7, x8 + (1 : Int32))) else if x7 = ((-1 : Int32)) then (L_X12_plan_208 r2.1 x0 x4 x5 x6 r2.2 x8 ((0 : Int32))).bind (fun e3 => some (.inl (e3, r2.2, x8 + (1 : Int32)))) else if r2.2 < x7 then (L_X12_plan_208 r2.1 x0 x4 x5 x6 r2.2 x8 ((0 : Int32))).bind (fun e4 => some (.inl (e4, r2.2, x8 + (1 : Int32)))) else some (.inl (r2.1, x7, x8 + (1 : Int32)))) : Option ((Hp × Int32 × Int32) ⊕ (Hp × Int32)))) hx ?_
    refine x_aload_n hO 0 rfl rfl dX12_plan_171 ?_
    refine x_iload hO 3 rfl dX12_plan_172 ?_
    refine y_HI (x_callV hO lv_RX12_311 hx0 vc_12 (by decide) (As := [.int x6]) rfl (Nat.le_of_ble_eq_true rfl) (ok_X12_triesRow (cG Γ) y1_0 x0 x6 hx0) dX12_plan_174 rfl (Nat.le_of_ble_eq_true rfl)) (fun r2 => ?_)
    refine x_istore hO [(10, .int r2.2), (0, rf Γ x0), (4, .int x4), (5, .int x5), (6, .int x6), (7, .int x7), (8, .int x8)] dX12_plan_177 (by decide) rfl ?_
    refine x_iload hO 0 rfl dX12_plan_179 ?_
    refine x_iconst hO (v := -1) (by decide) dX12_plan_181 ?_
    refine x_icmp_eq hO (tg := 235) dX12_plan_182 (by decide) ?_ ?_
    · refine x_iinc hO 6 (v := 1) [(8, .int (x8 + (1 : Int32))), (10, .int r2.2), (0, rf Γ x0), (4, .int x4), (5, .int x5), (6, .int x6), (7, .int x7)] dX12_plan_235 rfl (by decide) (by decide) rfl ?_
      refine x_goto hO (tg := 119) dX12_plan_238 (by decide) ?_
      exact x_leafs [2, 3, 4, 5, 6, 0] rfl (hC r2.1 x7 (x8 + (1 : Int32)))
    · refine x_iload hO 5 rfl dX12_plan_185 ?_
      refine x_iconst hO (v := -1) (by decide) dX12_plan_187 ?_
      refine x_icmp_eq hO (tg := 201) dX12_plan_188 (by decide) ?_ ?_
      · refine x_iload hO 0 rfl dX12_plan_201 ?_
        refine x_istore hO [(7, .int r2.2), (10, .int r2.2), (0, rf Γ x0), (4, .int x4), (5, .int x5), (6, .int x6), (8, .int x8)] dX12_plan_203 (by decide) rfl ?_
        refine x_iconst hO (v := 0) (by decide) dX12_plan_205 ?_
        refine x_istore hO [(11, .int ((0 : Int32))), (7, .int r2.2), (10, .int r2.2), (0, rf Γ x0), (4, .int x4), (5, .int x5), (6, .int x6), (8, .int x8)] dX12_plan_206 (by decide) rfl ?_
        refine x_bind (x_sub [3, 4, 5, 6, 1, 7, 0] rfl (go_X12_plan_L208 hO r2.1 x0 x4 x5 x6 r2.2 x8 ((0 : Int32)) hx0 (fun y3_0 hx => ?_)))
        refine x_run (t := (some (.inl (y3_0, r2.2, x8 + (1 : Int32))) : Option ((Hp × Int32 × Int32) ⊕ (Hp × Int32)))) hx ?_
        refine x_iinc hO 5 (v := 1) [(8, .int (x8 + (1 : Int32))), (0, rf Γ x0), (4, .int x4), (5, .int x5), (6, .int x6), (7, .int r2.2)] dX12_plan_235 rfl (by decide) (by decide) rfl ?_
        refine x_goto hO (tg := 119) dX12_plan_238 (by decide) ?_
        exact x_leafs [1, 2, 3, 4, 5, 0] rfl (hC y3_0 r2.2 (x8 + (1 : Int32)))
      · refine x_iload hO 0 rfl dX12_plan_191 ?_
        refine x_iload hO 5 rfl dX12_plan_193 ?_
        refine x_icmp_lt hO (tg := 201) dX12_plan_195 (by decide) ?_ ?_
        · refine x_iload hO 0 rfl dX12_plan_201 ?_
          refine x_istore hO [(7, .int r2.2), (10, .int r2.2), (0, rf Γ x0), (4, .int x4), (5, .int x5), (6, .int x6), (8, .int x8)] dX12_plan_203 (by decide) rfl ?_
          refine x_iconst hO (v := 0) (by decide) dX12_plan_205 ?_
          refine x_istore hO [(11, .int ((0 : Int32))), (7, .int r2.2), (10, .int r2.2), (0, rf Γ x0), (4, .int x4), (5, .int x5), (6, .int x6), (8, .int x8)] dX12_plan_206 (by decide) rfl ?_
          refine x_bind (x_sub [3, 4, 5, 6, 1, 7, 0] rfl (go_X12_plan_L208 hO r2.1 x0 x4 x5 x6 r2.2 x8 ((0 : Int32)) hx0 (fun y4_0 hx => ?_)))
          refine x_run (t := (some (.inl (y4_0, r2.2, x8 + (1 : Int32))) : Option ((Hp × Int32 × Int32) ⊕ (Hp × Int32)))) hx ?_
          refine x_iinc hO 5 (v := 1) [(8, .int (x8 + (1 : Int32))), (0, rf Γ x0), (4, .int x4), (5, .int x5), (6, .int x6), (7, .int r2.2)] dX12_plan_235 rfl (by decide) (by decide) rfl ?_
          refine x_goto hO (tg := 119) dX12_plan_238 (by decide) ?_
          exact x_leafs [1, 2, 3, 4, 5, 0] rfl (hC y4_0 r2.2 (x8 + (1 : Int32)))
        · refine x_goto hO (tg := 235) dX12_plan_198 (by decide) ?_
          refine x_iinc hO 6 (v := 1) [(8, .int (x8 + (1 : Int32))), (10, .int r2.2), (0, rf Γ x0), (4, .int x4), (5, .int x5), (6, .int x6), (7, .int x7)] dX12_plan_235 rfl (by decide) (by decide) rfl ?_
          refine x_goto hO (tg := 119) dX12_plan_238 (by decide) ?_
          exact x_leafs [2, 3, 4, 5, 6, 0] rfl (hC r2.1 x7 (x8 + (1 : Int32)))
set_option maxHeartbeats 4000000 in
set_option maxRecDepth 100000 in
theorem go_X12_plan_L119 {Γ : Cx} (hO : Ok Γ mX12_plan) (h : Hp) (x0 : Nat) (x4 : Int32) (x5 : Int32) (x6 : Int32) (x7 : Int32) (x8 : Int32) (hx0 : Is x0 12) {K : Hp × Int32 → Prop} (hE241 : ∀ (h : Hp) (x7 : Int32), K ((h, x7)) → EW Γ mX12_plan 241 [(0, rf Γ x0), (4, .int x4), (5, .int x5), (6, .int x6), (7, .int x7)] [] h) : EG Γ mX12_plan 119 [(0, rf Γ x0), (4, .int x4), (5, .int x5), (6, .int x6), (7, .int x7), (8, .int x8)] [] h (L_X12_plan_119 h x0 x4 x5 x6 x7 x8) K := by
  have q := x_loop (Γ := Γ) (M := mX12_plan) (pc := 119) (B := fun s : Hp × Int32 × Int32 => B_X12_plan_119 s.1 x0 x4 x5 x6 s.2.1 s.2.2) (lvf := fun s => [(0, rf Γ x0), (4, .int x4), (5, .int x5), (6, .int x6), (7, .int s.2.1), (8, .int s.2.2)]) (hf := fun s => s.1) (Ky := K) (fun s => go_X12_plan_B119 hO s.1 x0 x4 x5 x6 s.2.1 s.2.2 hx0 (fun _ _ _ => id) hE241) (h, x7, x8)
  exact q
noncomputable def B_X12_plan_107 (h : Hp) (x0 : Nat) (x4 : Int32) (x5 : Int32) (x6 : Int32) : Option ((Hp × Int32 × Int32) ⊕ (Hp × Int32)) :=
  if ((5 : Int32)) < x6 then (F_X12_refuse h x0 ((6 : Int32))).bind (fun r1 => some (.inr ((r1.1, r1.2)))) else (L_X12_plan_119 h x0 x4 x5 x6 ((-1 : Int32)) ((0 : Int32))).bind (fun e2 => if e2.2 = ((-1 : Int32)) then some (.inl (e2.1, x5 * x4, x6 + (1 : Int32))) else (F_X12_gives (uI (uI e2.1 x0 34 x6) x0 35 e2.2) x0 x6).bind (fun r3 => some (.inr ((r3.1, r3.2)))))
noncomputable def L_X12_plan_107 (h : Hp) (x0 : Nat) (x4 : Int32) (x5 : Int32) (x6 : Int32) : Option (Hp × Int32) := iterW (fun s : Hp × Int32 × Int32 => B_X12_plan_107 s.1 x0 x4 s.2.1 s.2.2) (h, x5, x6)
set_option maxHeartbeats 4000000 in
set_option maxRecDepth 100000 in
theorem go_X12_plan_B107 {Γ : Cx} (hO : Ok Γ mX12_plan) (h : Hp) (x0 : Nat) (x4 : Int32) (x5 : Int32) (x6 : Int32) (hx0 : Is x0 12) {K : (Hp × Int32 × Int32) ⊕ (Hp × Int32) → Prop} (hC : ∀ (h : Hp) (x5 : Int32) (x6 : Int32), K (.inl (h, x5, x6)) → EW Γ mX12_plan 107 [(0, rf Γ x0), (4, .int x4), (5, .int x5), (6, .int x6)] [] h) (hR : ∀ r, K (.inr r) → emHI r = tgt Γ) : EG Γ mX12_plan 107 [(0, rf Γ x0), (4, .int x4), (5, .int x5), (6, .int x6)] [] h (B_X12_plan_107 h x0 x4 x5 x6) K := by
  unfold B_X12_plan_107
  refine x_iload hO 3 rfl dX12_plan_107 ?_
  refine x_iconst hO (v := 5) (by decide) dX12_plan_109 ?_
  refine x_icmp_gt hO (tg := 279) dX12_plan_110 (by decide) ?_ ?_
  · refine x_aload_n hO 0 rfl rfl dX12_plan_279 ?_
    refine x_bipush hO (v := 6) (by decide) dX12_plan_280 ?_
    refine y_HI (x_callV hO lv_RX12_137 hx0 vc_12 (by decide) (As := [.int ((6 : Int32))]) rfl (Nat.le_of_ble_eq_true rfl) (ok_X12_refuse (cG Γ) h x0 ((6 : Int32)) hx0) dX12_plan_282 rfl (Nat.le_of_ble_eq_true rfl)) (fun r1 => ?_)
    exact x_iret hO rfl dX12_plan_285 (hR _)
  · refine x_iconst hO (v := -1) (by decide) dX12_plan_113 ?_
    refine x_istore hO [(7, .int ((-1 : Int32))), (0, rf Γ x0), (4, .int x4), (5, .int x5), (6, .int x6)] dX12_plan_114 (by decide) rfl ?_
    refine x_iconst hO (v := 0) (by decide) dX12_plan_116 ?_
    refine x_istore hO [(8, .int ((0 : Int32))), (7, .int ((-1 : Int32))), (0, rf Γ x0), (4, .int x4), (5, .int x5), (6, .int x6)] dX12_plan_117 (by decide) rfl ?_
    refine x_bind (x_sub [2, 3, 4, 5, 1, 0] rfl (go_X12_plan_L119 hO h x0 x4 x5 x6 ((-1 : Int32)) ((0 : Int32)) hx0 (fun y2_0 y2_1 hx => ?_)))
    refine x_run (t := (if y2_1 = ((-1 : Int32)) then some (.inl (y2_0, x5 * x4, x6 + (1 : Int32))) else (F_X12_gives (uI (uI y2_0 x0 34 x6) x0 35 y2_1) x0 x6).bind (fun r3 => some (.inr ((r3.1, r3.2)))) : Option ((Hp × Int32 × Int32) ⊕ (Hp × Int32)))) hx ?_
    refine x_iload hO 4 rfl dX12_plan_241 ?_
    refine x_iconst hO (v := -1) (by decide) dX12_plan_243 ?_
    refine x_icmp_eq hO (tg := 266) dX12_plan_244 (by decide) ?_ ?_
    · refine x_iload hO 2 rfl dX12_plan_266 ?_
      refine x_iload hO 1 rfl dX12_plan_268 ?_
      refine x_imul hO dX12_plan_270 ?_
      refine x_istore hO [(5, .int (x5 * x4)), (0, rf Γ x0), (4, .int x4), (6, .int x6), (7, .int y2_1)] dX12_plan_271 (by decide) rfl ?_
      refine x_iinc hO 3 (v := 1) [(6, .int (x6 + (1 : Int32))), (5, .int (x5 * x4)), (0, rf Γ x0), (4, .int x4), (7, .int y2_1)] dX12_plan_273 rfl (by decide) (by decide) rfl ?_
      refine x_goto hO (tg := 107) dX12_plan_276 (by decide) ?_
      exact x_leafs [2, 3, 1, 0] rfl (hC y2_0 (x5 * x4) (x6 + (1 : Int32)))
    · refine x_aload_n hO 0 rfl rfl dX12_plan_247 ?_
      refine x_iload hO 3 rfl dX12_plan_248 ?_
      refine x_putI hO fl_RX12_74 hx0 dX12_plan_250 ?_
      refine x_aload_n hO 0 rfl rfl dX12_plan_253 ?_
      refine x_iload hO 4 rfl dX12_plan_254 ?_
      refine x_putI hO fl_RX12_314 hx0 dX12_plan_256 ?_
      refine x_aload_n hO 0 rfl rfl dX12_plan_259 ?_
      refine x_iload hO 3 rfl dX12_plan_260 ?_
      refine y_HI (x_callV hO lv_RX12_146 hx0 vc_12 (by decide) (As := [.int x6]) rfl (Nat.le_of_ble_eq_true rfl) (ok_X12_gives (cG Γ) (uI (uI y2_0 x0 34 x6) x0 35 y2_1) x0 x6 hx0) dX12_plan_262 rfl (Nat.le_of_ble_eq_true rfl)) (fun r3 => ?_)
      exact x_iret hO rfl dX12_plan_265 (hR _)
set_option maxHeartbeats 4000000 in
set_option maxRecDepth 100000 in
theorem go_X12_plan_L107 {Γ : Cx} (hO : Ok Γ mX12_plan) (h : Hp) (x0 : Nat) (x4 : Int32) (x5 : Int32) (x6 : Int32) (hx0 : Is x0 12) {K : Hp × Int32 → Prop} (hR : ∀ r, K (r) → emHI r = tgt Γ) : EG Γ mX12_plan 107 [(0, rf Γ x0), (4, .int x4), (5, .int x5), (6, .int x6)] [] h (L_X12_plan_107 h x0 x4 x5 x6) K := by
  have q := x_loop (Γ := Γ) (M := mX12_plan) (pc := 107) (B := fun s : Hp × Int32 × Int32 => B_X12_plan_107 s.1 x0 x4 s.2.1 s.2.2) (lvf := fun s => [(0, rf Γ x0), (4, .int x4), (5, .int s.2.1), (6, .int s.2.2)]) (hf := fun s => s.1) (Ky := K) (fun s => go_X12_plan_B107 hO s.1 x0 x4 s.2.1 s.2.2 hx0 (fun _ _ _ => id) hR) (h, x5, x6)
  exact q
noncomputable def F_X12_plan (h : Hp) (x0 : Nat) (x1 : Int32) (x2 : Int32) : Option (Hp × Int32) :=
  (F_X12_wrongKey h x0 x1 x2).bind (fun r1 => if r1.2 ≤ 0 then (L_X12_plan_23 r1.1 x0 ((0 : Int32)) ((0 : Int32))).bind (fun e2 => L_X12_plan_107 e2.1 x0 e2.2 ((1 : Int32)) ((0 : Int32))) else (F_X12_refuse r1.1 x0 r1.2).bind (fun r3 => some ((r3.1, r3.2))))
set_option maxHeartbeats 4000000 in
set_option maxRecDepth 100000 in
theorem go_X12_plan {Γ : Cx} (hO : Ok Γ mX12_plan) (h : Hp) (x0 : Nat) (x1 : Int32) (x2 : Int32) (hx0 : Is x0 12) {K : Hp × Int32 → Prop} (hR : ∀ r, K r → emHI r = tgt Γ) : EG Γ mX12_plan 0 [(0, rf Γ x0), (1, .int x1), (2, .int x2)] [] h (F_X12_plan h x0 x1 x2) K := by
  unfold F_X12_plan
  refine x_aload_n hO 0 rfl rfl dX12_plan_0 ?_
  refine x_iload_n hO 1 rfl rfl dX12_plan_1 ?_
  refine x_iload_n hO 2 rfl rfl dX12_plan_2 ?_
  refine y_HI (x_callV hO lv_RX12_305 hx0 vc_12 (by decide) (As := [.int x1, .int x2]) rfl (Nat.le_of_ble_eq_true rfl) (ok_X12_wrongKey (cG Γ) h x0 x1 x2 hx0) dX12_plan_3 rfl (Nat.le_of_ble_eq_true rfl)) (fun r1 => ?_)
  refine x_istore_n hO rfl [(3, .int r1.2), (0, rf Γ x0), (1, .int x1), (2, .int x2)] dX12_plan_6 (by decide) rfl ?_
  refine x_iload_n hO 0 rfl rfl dX12_plan_7 ?_
  refine x_if_le hO (tg := 17) dX12_plan_8 (by decide) ?_ ?_
  · refine x_iconst hO (v := 0) (by decide) dX12_plan_17 ?_
    refine x_istore hO [(4, .int ((0 : Int32))), (3, .int r1.2), (0, rf Γ x0), (1, .int x1), (2, .int x2)] dX12_plan_18 (by decide) rfl ?_
    refine x_iconst hO (v := 0) (by decide) dX12_plan_20 ?_
    refine x_istore hO [(5, .int ((0 : Int32))), (4, .int ((0 : Int32))), (3, .int r1.2), (0, rf Γ x0), (1, .int x1), (2, .int x2)] dX12_plan_21 (by decide) rfl ?_
    refine x_bind (x_sub [3, 1, 0] rfl (go_X12_plan_L23 hO r1.1 x0 ((0 : Int32)) ((0 : Int32)) hx0 (fun y2_0 y2_1 hx => ?_)))
    refine x_run (t := (L_X12_plan_107 y2_0 x0 y2_1 ((1 : Int32)) ((0 : Int32)) : Option (Hp × Int32))) hx ?_
    refine x_iconst hO (v := 1) (by decide) dX12_plan_101 ?_
    refine x_istore hO [(5, .int ((1 : Int32))), (0, rf Γ x0), (4, .int y2_1)] dX12_plan_102 (by decide) rfl ?_
    refine x_iconst hO (v := 0) (by decide) dX12_plan_104 ?_
    refine x_istore hO [(6, .int ((0 : Int32))), (5, .int ((1 : Int32))), (0, rf Γ x0), (4, .int y2_1)] dX12_plan_105 (by decide) rfl ?_
    exact x_sub [2, 3, 1, 0] rfl (go_X12_plan_L107 hO y2_0 x0 y2_1 ((1 : Int32)) ((0 : Int32)) hx0 hR)
  · refine x_aload_n hO 1 rfl rfl dX12_plan_11 ?_
    refine x_iload_n hO 0 rfl rfl dX12_plan_12 ?_
    refine y_HI (x_callV hO lv_RX12_137 hx0 vc_12 (by decide) (As := [.int r1.2]) rfl (Nat.le_of_ble_eq_true rfl) (ok_X12_refuse (cG Γ) r1.1 x0 r1.2 hx0) dX12_plan_13 rfl (Nat.le_of_ble_eq_true rfl)) (fun r3 => ?_)
    exact x_iret hO rfl dX12_plan_16 (hR _)
theorem ok_X12_plan (G : Gl) (h : Hp) (x0 : Nat) (x1 : Int32) (x2 : Int32) (hx0 : Is x0 12) : CN G mX12_plan [.ref (gb G + x0), .int x1, .int x2] h ((F_X12_plan h x0 x1 x2).map (emHI)) := CN.fn pn_RX12 (Nat.le_of_ble_eq_true rfl) (fun Γ hG hO => by subst hG; exact go_X12_plan hO h x0 x1 x2 hx0 (fun _ q => q))
noncomputable def B_X12_run_18 (h : Hp) (x0 : Nat) (x1 : Int32) (x2 : Int32) : Option ((Hp × Int32 × Int32) ⊕ (Hp × Int32 × Int32)) :=
  gd (ib ((5 : Int32)) (LEN (GR x0 0))) (if (hI h (GR x0 0) (nx ((5 : Int32)))) ≤ x2 then some (.inr ((h, x1, x2))) else if ((200 : Int32)) ≤ x1 then some (.inr ((h, x1, x2))) else (F_X12_does h x0 x2).bind (fun r1 => (F_X12_behindEnds r1.1 x0 r1.2).bind (fun r2 => some (.inl (r2.1, x1 + (1 : Int32), r2.2)))))
noncomputable def L_X12_run_18 (h : Hp) (x0 : Nat) (x1 : Int32) (x2 : Int32) : Option (Hp × Int32 × Int32) := iterW (fun s : Hp × Int32 × Int32 => B_X12_run_18 s.1 x0 s.2.1 s.2.2) (h, x1, x2)
set_option maxHeartbeats 4000000 in
set_option maxRecDepth 100000 in
theorem go_X12_run_B18 {Γ : Cx} (hO : Ok Γ mX12_run) (h : Hp) (x0 : Nat) (x1 : Int32) (x2 : Int32) (hx0 : Is x0 12) {K : (Hp × Int32 × Int32) ⊕ (Hp × Int32 × Int32) → Prop} (hC : ∀ (h : Hp) (x1 : Int32) (x2 : Int32), K (.inl (h, x1, x2)) → EW Γ mX12_run 18 [(0, rf Γ x0), (1, .int x1), (2, .int x2)] [] h) (hE51 : ∀ (h : Hp) (x1 : Int32) (x2 : Int32), K (.inr ((h, x1, x2))) → EW Γ mX12_run 51 [(0, rf Γ x0), (1, .int x1), (2, .int x2)] [] h) : EG Γ mX12_run 18 [(0, rf Γ x0), (1, .int x1), (2, .int x2)] [] h (B_X12_run_18 h x0 x1 x2) K := by
  unfold B_X12_run_18
  refine x_iload_n hO 2 rfl rfl dX12_run_18 ?_
  refine x_aload_n hO 0 rfl rfl dX12_run_19 ?_
  refine x_getR hO fl_RX12_7 hx0 dX12_run_20 ?_
  refine x_iconst hO (v := 5) (by decide) dX12_run_23 ?_
  refine x_iald hO (gr_12_0 hx0) dX12_run_24 ?_
  refine x_icmp_ge hO (tg := 51) dX12_run_25 (by decide) ?_ ?_
  · exact x_leafs [0, 1, 2] rfl (hE51 h x1 x2)
  · refine x_iload_n hO 1 rfl rfl dX12_run_28 ?_
    refine x_sipush hO (v := 200) (by decide) dX12_run_29 ?_
    refine x_icmp_ge hO (tg := 51) dX12_run_32 (by decide) ?_ ?_
    · exact x_leafs [0, 1, 2] rfl (hE51 h x1 x2)
    · refine x_aload_n hO 0 rfl rfl dX12_run_35 ?_
      refine x_aload_n hO 0 rfl rfl dX12_run_36 ?_
      refine x_iload_n hO 2 rfl rfl dX12_run_37 ?_
      refine y_HI (x_callV hO lv_RX12_362 hx0 vc_12 (by decide) (As := [.int x2]) rfl (Nat.le_of_ble_eq_true rfl) (ok_X12_does (cG Γ) h x0 x2 hx0) dX12_run_38 rfl (Nat.le_of_ble_eq_true rfl)) (fun r1 => ?_)
      refine y_HI (x_callV hO lv_RX12_359 hx0 vc_12 (by decide) (As := [.int r1.2]) rfl (Nat.le_of_ble_eq_true rfl) (ok_X12_behindEnds (cG Γ) r1.1 x0 r1.2 hx0) dX12_run_41 rfl (Nat.le_of_ble_eq_true rfl)) (fun r2 => ?_)
      refine x_istore_n hO rfl [(2, .int r2.2), (0, rf Γ x0), (1, .int x1)] dX12_run_44 (by decide) rfl ?_
      refine x_iinc hO 2 (v := 1) [(1, .int (x1 + (1 : Int32))), (2, .int r2.2), (0, rf Γ x0)] dX12_run_45 rfl (by decide) (by decide) rfl ?_
      refine x_goto hO (tg := 18) dX12_run_48 (by decide) ?_
      exact x_leafs [2, 0, 1] rfl (hC r2.1 (x1 + (1 : Int32)) r2.2)
set_option maxHeartbeats 4000000 in
set_option maxRecDepth 100000 in
theorem go_X12_run_L18 {Γ : Cx} (hO : Ok Γ mX12_run) (h : Hp) (x0 : Nat) (x1 : Int32) (x2 : Int32) (hx0 : Is x0 12) {K : Hp × Int32 × Int32 → Prop} (hE51 : ∀ (h : Hp) (x1 : Int32) (x2 : Int32), K ((h, x1, x2)) → EW Γ mX12_run 51 [(0, rf Γ x0), (1, .int x1), (2, .int x2)] [] h) : EG Γ mX12_run 18 [(0, rf Γ x0), (1, .int x1), (2, .int x2)] [] h (L_X12_run_18 h x0 x1 x2) K := by
  have q := x_loop (Γ := Γ) (M := mX12_run) (pc := 18) (B := fun s : Hp × Int32 × Int32 => B_X12_run_18 s.1 x0 s.2.1 s.2.2) (lvf := fun s => [(0, rf Γ x0), (1, .int s.2.1), (2, .int s.2.2)]) (hf := fun s => s.1) (Ky := K) (fun s => go_X12_run_B18 hO s.1 x0 s.2.1 s.2.2 hx0 (fun _ _ _ => id) hE51) (h, x1, x2)
  exact q
noncomputable def J_X12_run_51 (h : Hp) (x0 : Nat) (x1 : Int32) (x2 : Int32) : Option (Hp × Int32) :=
  gd (ib ((5 : Int32)) (LEN (GR x0 0))) (if (hI h (GR x0 0) (nx ((5 : Int32)))) ≤ x2 then (F_X12_gives (uI h x0 38 ((0 : Int32))) x0 x1).bind (fun r1 => some ((r1.1, r1.2))) else (F_X12_gives (uI h x0 38 ((1 : Int32))) x0 x1).bind (fun r2 => some ((r2.1, r2.2))))
set_option maxHeartbeats 4000000 in
set_option maxRecDepth 100000 in
theorem go_X12_run_J51 {Γ : Cx} (hO : Ok Γ mX12_run) (h : Hp) (x0 : Nat) (x1 : Int32) (x2 : Int32) (hx0 : Is x0 12) {K : Hp × Int32 → Prop} (hR : ∀ r, K r → emHI r = tgt Γ) : EG Γ mX12_run 51 [(0, rf Γ x0), (1, .int x1), (2, .int x2)] [] h (J_X12_run_51 h x0 x1 x2) K := by
  unfold J_X12_run_51
  refine x_aload_n hO 0 rfl rfl dX12_run_51 ?_
  refine x_iload_n hO 2 rfl rfl dX12_run_52 ?_
  refine x_aload_n hO 0 rfl rfl dX12_run_53 ?_
  refine x_getR hO fl_RX12_7 hx0 dX12_run_54 ?_
  refine x_iconst hO (v := 5) (by decide) dX12_run_57 ?_
  refine x_iald hO (gr_12_0 hx0) dX12_run_58 ?_
  refine x_icmp_ge hO (tg := 66) dX12_run_59 (by decide) ?_ ?_
  · refine x_iconst hO (v := 0) (by decide) dX12_run_66 ?_
    refine x_putI hO fl_RX12_77 hx0 dX12_run_67 ?_
    refine x_aload_n hO 0 rfl rfl dX12_run_70 ?_
    refine x_iload_n hO 1 rfl rfl dX12_run_71 ?_
    refine y_HI (x_callV hO lv_RX12_146 hx0 vc_12 (by decide) (As := [.int x1]) rfl (Nat.le_of_ble_eq_true rfl) (ok_X12_gives (cG Γ) (uI h x0 38 ((0 : Int32))) x0 x1 hx0) dX12_run_72 rfl (Nat.le_of_ble_eq_true rfl)) (fun r1 => ?_)
    exact x_iret hO rfl dX12_run_75 (hR _)
  · refine x_iconst hO (v := 1) (by decide) dX12_run_62 ?_
    refine x_goto hO (tg := 67) dX12_run_63 (by decide) ?_
    refine x_putI hO fl_RX12_77 hx0 dX12_run_67 ?_
    refine x_aload_n hO 0 rfl rfl dX12_run_70 ?_
    refine x_iload_n hO 1 rfl rfl dX12_run_71 ?_
    refine y_HI (x_callV hO lv_RX12_146 hx0 vc_12 (by decide) (As := [.int x1]) rfl (Nat.le_of_ble_eq_true rfl) (ok_X12_gives (cG Γ) (uI h x0 38 ((1 : Int32))) x0 x1 hx0) dX12_run_72 rfl (Nat.le_of_ble_eq_true rfl)) (fun r2 => ?_)
    exact x_iret hO rfl dX12_run_75 (hR _)
noncomputable def F_X12_run (h : Hp) (x0 : Nat) : Option (Hp × Int32) :=
  (F_X12_behindEnds (uI (uL h x0 36 ((0 : Int64))) x0 37 ((0 : Int32))) x0 ((0 : Int32))).bind (fun r1 => (L_X12_run_18 r1.1 x0 ((0 : Int32)) r1.2).bind (fun e2 => J_X12_run_51 e2.1 x0 e2.2.1 e2.2.2))
set_option maxHeartbeats 4000000 in
set_option maxRecDepth 100000 in
theorem go_X12_run {Γ : Cx} (hO : Ok Γ mX12_run) (h : Hp) (x0 : Nat) (hx0 : Is x0 12) {K : Hp × Int32 → Prop} (hR : ∀ r, K r → emHI r = tgt Γ) : EG Γ mX12_run 0 [(0, rf Γ x0)] [] h (F_X12_run h x0) K := by
  unfold F_X12_run
  refine x_aload_n hO 0 rfl rfl dX12_run_0 ?_
  refine x_lconst hO (v := 0) (by decide) dX12_run_1 ?_
  refine x_putL hO fl_RX12_356 hx0 dX12_run_2 ?_
  refine x_aload_n hO 0 rfl rfl dX12_run_5 ?_
  refine x_iconst hO (v := 0) (by decide) dX12_run_6 ?_
  refine x_putI hO fl_RX12_343 hx0 dX12_run_7 ?_
  refine x_iconst hO (v := 0) (by decide) dX12_run_10 ?_
  refine x_istore_n hO rfl [(1, .int ((0 : Int32))), (0, rf Γ x0)] dX12_run_11 (by decide) rfl ?_
  refine x_aload_n hO 1 rfl rfl dX12_run_12 ?_
  refine x_iconst hO (v := 0) (by decide) dX12_run_13 ?_
  refine y_HI (x_callV hO lv_RX12_359 hx0 vc_12 (by decide) (As := [.int ((0 : Int32))]) rfl (Nat.le_of_ble_eq_true rfl) (ok_X12_behindEnds (cG Γ) (uI (uL h x0 36 ((0 : Int64))) x0 37 ((0 : Int32))) x0 ((0 : Int32)) hx0) dX12_run_14 rfl (Nat.le_of_ble_eq_true rfl)) (fun r1 => ?_)
  refine x_istore_n hO rfl [(2, .int r1.2), (1, .int ((0 : Int32))), (0, rf Γ x0)] dX12_run_17 (by decide) rfl ?_
  refine x_bind (x_sub [2, 1, 0] rfl (go_X12_run_L18 hO r1.1 x0 ((0 : Int32)) r1.2 hx0 (fun y2_0 y2_1 y2_2 hx => ?_)))
  refine x_run (t := (J_X12_run_51 y2_0 x0 y2_1 y2_2 : Option (Hp × Int32))) hx ?_
  exact x_sub [0, 1, 2] rfl (go_X12_run_J51 hO y2_0 x0 y2_1 y2_2 hx0 hR)
theorem ok_X12_run (G : Gl) (h : Hp) (x0 : Nat) (hx0 : Is x0 12) : CN G mX12_run [.ref (gb G + x0)] h ((F_X12_run h x0).map (emHI)) := CN.fn pn_RX12 (Nat.le_of_ble_eq_true rfl) (fun Γ hG hO => by subst hG; exact go_X12_run hO h x0 hx0 (fun _ q => q))
noncomputable def B_X7_isWord_28 (h : Hp) (x0 : Nat) (x1 : Nat) (x2 : Int32) : Option ((Int32) ⊕ (Int32)) :=
  if (nI (SLN.getD x1 0)) ≤ x2 then some (.inr ((1 : Int32))) else if (hI h x0 1) ≤ ((hI h x0 2) + x2) then some (.inr ((1 : Int32))) else gd (ib ((hI h x0 2) + x2) (LEN (hT h x0))) (gd (ib x2 (SLN.getD x1 0)) (if (hI h (hT h x0) (nx ((hI h x0 2) + x2))) = ((SBY.getD x1 []).getD (nx x2) 0) then some (.inl (x2 + (1 : Int32))) else some (.inr ((0 : Int32)))))
noncomputable def L_X7_isWord_28 (h : Hp) (x0 : Nat) (x1 : Nat) (x2 : Int32) : Option (Int32) := iterW (fun s : Int32 => B_X7_isWord_28 h x0 x1 s) x2
set_option maxHeartbeats 4000000 in
set_option maxRecDepth 100000 in
theorem go_X7_isWord_B28 {Γ : Cx} (hO : Ok Γ mX7_isWord) (h : Hp) (x0 : Nat) (x1 : Nat) (x2 : Int32) (hx0 : Is x0 7) (hx1 : x1 < NS) {K : (Int32) ⊕ (Int32) → Prop} (hC : ∀ (x2 : Int32), K (.inl x2) → EW Γ mX7_isWord 28 [(0, rf Γ x0), (1, sf Γ x1), (2, .int x2)] [] h) (hR : ∀ r, K (.inr r) → emPI h r = tgt Γ) : EG Γ mX7_isWord 28 [(0, rf Γ x0), (1, sf Γ x1), (2, .int x2)] [] h (B_X7_isWord_28 h x0 x1 x2) K := by
  unfold B_X7_isWord_28
  refine x_iload_n hO 2 rfl rfl dX7_isWord_28 ?_
  refine x_aload_n hO 1 rfl rfl dX7_isWord_29 ?_
  refine x_slen hO ls_RX7_50 (Nat.le_of_ble_eq_true rfl) hx1 dX7_isWord_30 (Nat.le_of_ble_eq_true rfl) ?_
  refine x_icmp_ge hO (tg := 76) dX7_isWord_33 (by decide) ?_ ?_
  · refine x_iconst hO (v := 1) (by decide) dX7_isWord_76 ?_
    exact x_zretv hO rfl (by decide) dX7_isWord_77 (hR _)
  · refine x_aload_n hO 0 rfl rfl dX7_isWord_36 ?_
    refine x_getI hO fl_RX7_19 hx0 dX7_isWord_37 ?_
    refine x_iload_n hO 2 rfl rfl dX7_isWord_40 ?_
    refine x_iadd hO dX7_isWord_41 ?_
    refine x_aload_n hO 0 rfl rfl dX7_isWord_42 ?_
    refine x_getI hO fl_RX7_15 hx0 dX7_isWord_43 ?_
    refine x_icmp_ge hO (tg := 76) dX7_isWord_46 (by decide) ?_ ?_
    · refine x_iconst hO (v := 1) (by decide) dX7_isWord_76 ?_
      exact x_zretv hO rfl (by decide) dX7_isWord_77 (hR _)
    · refine x_aload_n hO 0 rfl rfl dX7_isWord_49 ?_
      refine x_getT hO fl_RX7_9 rfl hx0 dX7_isWord_50 (fun q1 => ?_)
      refine x_aload_n hO 0 rfl rfl dX7_isWord_53 ?_
      refine x_getI hO fl_RX7_19 hx0 dX7_isWord_54 ?_
      refine x_iload_n hO 2 rfl rfl dX7_isWord_57 ?_
      refine x_iadd hO dX7_isWord_58 ?_
      refine x_iald hO q1 dX7_isWord_59 ?_
      refine x_aload_n hO 1 rfl rfl dX7_isWord_60 ?_
      refine x_iload_n hO 2 rfl rfl dX7_isWord_61 ?_
      refine x_schr hO ls_RX7_55 (Nat.le_of_ble_eq_true rfl) hx1 dX7_isWord_62 (Nat.le_of_ble_eq_true rfl) ?_
      refine x_icmp_eq hO (tg := 70) dX7_isWord_65 (by decide) ?_ ?_
      · refine x_iinc hO 2 (v := 1) [(2, .int (x2 + (1 : Int32))), (0, rf Γ x0), (1, sf Γ x1)] dX7_isWord_70 rfl (by decide) (by decide) rfl ?_
        refine x_goto hO (tg := 28) dX7_isWord_73 (by decide) ?_
        exact x_leafs [1, 2, 0] rfl (hC (x2 + (1 : Int32)))
      · refine x_iconst hO (v := 0) (by decide) dX7_isWord_68 ?_
        exact x_zretv hO rfl (by decide) dX7_isWord_69 (hR _)
set_option maxHeartbeats 4000000 in
set_option maxRecDepth 100000 in
theorem go_X7_isWord_L28 {Γ : Cx} (hO : Ok Γ mX7_isWord) (h : Hp) (x0 : Nat) (x1 : Nat) (x2 : Int32) (hx0 : Is x0 7) (hx1 : x1 < NS) {K : Int32 → Prop} (hR : ∀ r, K (r) → emPI h r = tgt Γ) : EG Γ mX7_isWord 28 [(0, rf Γ x0), (1, sf Γ x1), (2, .int x2)] [] h (L_X7_isWord_28 h x0 x1 x2) K := by
  have q := x_loop (Γ := Γ) (M := mX7_isWord) (pc := 28) (B := fun s : Int32 => B_X7_isWord_28 h x0 x1 s) (lvf := fun s => [(0, rf Γ x0), (1, sf Γ x1), (2, .int s)]) (hf := fun s => h) (Ky := K) (fun s => go_X7_isWord_B28 hO h x0 x1 s hx0 hx1 (fun _ => id) hR) x2
  exact q
noncomputable def F_X7_isWord (h : Hp) (x0 : Nat) (x1 : Nat) : Option (Int32) :=
  if (hI h x0 4) = ((1 : Int32)) then if ((hI h x0 3) - (hI h x0 2)) = (nI (SLN.getD x1 0)) then L_X7_isWord_28 h x0 x1 ((0 : Int32)) else some ((0 : Int32)) else some ((0 : Int32))
set_option maxHeartbeats 4000000 in
set_option maxRecDepth 100000 in
theorem go_X7_isWord {Γ : Cx} (hO : Ok Γ mX7_isWord) (h : Hp) (x0 : Nat) (x1 : Nat) (hx0 : Is x0 7) (hx1 : x1 < NS) {K : Int32 → Prop} (hR : ∀ r, K r → emPI h r = tgt Γ) : EG Γ mX7_isWord 0 [(0, rf Γ x0), (1, sf Γ x1)] [] h (F_X7_isWord h x0 x1) K := by
  unfold F_X7_isWord
  refine x_aload_n hO 0 rfl rfl dX7_isWord_0 ?_
  refine x_getI hO fl_RX7_25 hx0 dX7_isWord_1 ?_
  refine x_iconst hO (v := 1) (by decide) dX7_isWord_4 ?_
  refine x_icmp_ne hO (tg := 24) dX7_isWord_5 (by decide) ?_ ?_
  · refine x_iconst hO (v := 0) (by decide) dX7_isWord_24 ?_
    exact x_zretv hO rfl (by decide) dX7_isWord_25 (hR _)
  · refine x_aload_n hO 0 rfl rfl dX7_isWord_8 ?_
    refine x_getI hO fl_RX7_22 hx0 dX7_isWord_9 ?_
    refine x_aload_n hO 0 rfl rfl dX7_isWord_12 ?_
    refine x_getI hO fl_RX7_19 hx0 dX7_isWord_13 ?_
    refine x_isub hO dX7_isWord_16 ?_
    refine x_aload_n hO 1 rfl rfl dX7_isWord_17 ?_
    refine x_slen hO ls_RX7_50 (Nat.le_of_ble_eq_true rfl) hx1 dX7_isWord_18 (Nat.le_of_ble_eq_true rfl) ?_
    refine x_icmp_eq hO (tg := 26) dX7_isWord_21 (by decide) ?_ ?_
    · refine x_iconst hO (v := 0) (by decide) dX7_isWord_26 ?_
      refine x_istore_n hO rfl [(2, .int ((0 : Int32))), (0, rf Γ x0), (1, sf Γ x1)] dX7_isWord_27 (by decide) rfl ?_
      exact x_sub [1, 2, 0] rfl (go_X7_isWord_L28 hO h x0 x1 ((0 : Int32)) hx0 hx1 hR)
    · refine x_iconst hO (v := 0) (by decide) dX7_isWord_24 ?_
      exact x_zretv hO rfl (by decide) dX7_isWord_25 (hR _)
theorem ok_X7_isWord (G : Gl) (h : Hp) (x0 : Nat) (x1 : Nat) (hx0 : Is x0 7) (hx1 : x1 < NS) : CN G mX7_isWord [.ref (gb G + x0), .ref (gk G x1)] h ((F_X7_isWord h x0 x1).map (emPI h)) := CN.fn pn_RX7 (Nat.le_of_ble_eq_true rfl) (fun Γ hG hO => by subst hG; exact go_X7_isWord hO h x0 x1 hx0 hx1 (fun _ q => q))
noncomputable def F_X12_isName (h : Hp) (x0 : Nat) : Option (Int32) :=
  if (hI h x0 11) = ((2 : Int32)) then if ((8 : Int32)) < ((hI h x0 13) - (hI h x0 12)) then some ((0 : Int32)) else (F_X12_inWords h x0 14).bind (fun r1 => if r1 = ((-1 : Int32)) then some ((1 : Int32)) else some ((0 : Int32))) else some ((0 : Int32))
set_option maxHeartbeats 4000000 in
set_option maxRecDepth 100000 in
theorem go_X12_isName {Γ : Cx} (hO : Ok Γ mX12_isName) (h : Hp) (x0 : Nat) (hx0 : Is x0 12) {K : Int32 → Prop} (hR : ∀ r, K r → emPI h r = tgt Γ) : EG Γ mX12_isName 0 [(0, rf Γ x0)] [] h (F_X12_isName h x0) K := by
  unfold F_X12_isName
  refine x_aload_n hO 0 rfl rfl dX12_isName_0 ?_
  refine x_getI hO fl_RX12_183 hx0 dX12_isName_1 ?_
  refine x_iconst hO (v := 2) (by decide) dX12_isName_4 ?_
  refine x_icmp_ne hO (tg := 36) dX12_isName_5 (by decide) ?_ ?_
  · refine x_iconst hO (v := 0) (by decide) dX12_isName_36 ?_
    exact x_zretv hO rfl (by decide) dX12_isName_37 (hR _)
  · refine x_aload_n hO 0 rfl rfl dX12_isName_8 ?_
    refine x_getI hO fl_RX12_171 hx0 dX12_isName_9 ?_
    refine x_aload_n hO 0 rfl rfl dX12_isName_12 ?_
    refine x_getI hO fl_RX12_177 hx0 dX12_isName_13 ?_
    refine x_isub hO dX12_isName_16 ?_
    refine x_bipush hO (v := 8) (by decide) dX12_isName_17 ?_
    refine x_icmp_gt hO (tg := 36) dX12_isName_19 (by decide) ?_ ?_
    · refine x_iconst hO (v := 0) (by decide) dX12_isName_36 ?_
      exact x_zretv hO rfl (by decide) dX12_isName_37 (hR _)
    · refine x_aload_n hO 0 rfl rfl dX12_isName_22 ?_
      refine x_ldcS hO sr_RX12_216 dX12_isName_23 ?_
      refine y_PI (x_callV hO lv_RX12_218 hx0 vc_12 (by decide) (As := [sf Γ 14]) rfl (Nat.le_of_ble_eq_true rfl) (ok_X12_inWords (cG Γ) h x0 14 hx0 ((by decide))) dX12_isName_25 rfl (Nat.le_of_ble_eq_true rfl)) (fun r1 => ?_)
      refine x_iconst hO (v := -1) (by decide) dX12_isName_28 ?_
      refine x_icmp_ne hO (tg := 36) dX12_isName_29 (by decide) ?_ ?_
      · refine x_iconst hO (v := 0) (by decide) dX12_isName_36 ?_
        exact x_zretv hO rfl (by decide) dX12_isName_37 (hR _)
      · refine x_iconst hO (v := 1) (by decide) dX12_isName_32 ?_
        refine x_goto hO (tg := 37) dX12_isName_33 (by decide) ?_
        exact x_zretv hO rfl (by decide) dX12_isName_37 (hR _)
theorem ok_X12_isName (G : Gl) (h : Hp) (x0 : Nat) (hx0 : Is x0 12) : CN G mX12_isName [.ref (gb G + x0)] h ((F_X12_isName h x0).map (emPI h)) := CN.fn pn_RX12 (Nat.le_of_ble_eq_true rfl) (fun Γ hG hO => by subst hG; exact go_X12_isName hO h x0 hx0 (fun _ q => q))
noncomputable def J_X12_step_444 (h : Hp) (x0 : Nat) (x4 : Int32) : Option (Hp × Int32) :=
  if x4 = 0 then some ((h, (0 : Int32))) else (F_X12_closes h x0).bind (fun r1 => if r1.2 = 0 then some ((r1.1, (0 : Int32))) else some ((r1.1, (1 : Int32))))
set_option maxHeartbeats 4000000 in
set_option maxRecDepth 100000 in
theorem go_X12_step_J444 {Γ : Cx} (hO : Ok Γ mX12_step) (h : Hp) (x0 : Nat) (x4 : Int32) (hx0 : Is x0 12) {K : Hp × Int32 → Prop} (hR : ∀ r, K r → emHI r = tgt Γ) : EG Γ mX12_step 444 [(0, rf Γ x0), (4, .int x4)] [] h (J_X12_step_444 h x0 x4) K := by
  unfold J_X12_step_444
  refine x_iload hO 1 rfl dX12_step_444 ?_
  refine x_if_eq hO (tg := 460) dX12_step_446 (by decide) ?_ ?_
  · refine x_iconst hO (v := 0) (by decide) dX12_step_460 ?_
    exact x_zretv hO rfl (by decide) dX12_step_461 (hR _)
  · refine x_aload_n hO 0 rfl rfl dX12_step_449 ?_
    refine y_HI (x_callV hO lv_RX12_251 hx0 vc_12 (by decide) (As := []) rfl (Nat.le_of_ble_eq_true rfl) (ok_X12_closes (cG Γ) h x0 hx0) dX12_step_450 rfl (Nat.le_of_ble_eq_true rfl)) (fun r1 => ?_)
    refine x_if_eq hO (tg := 460) dX12_step_453 (by decide) ?_ ?_
    · refine x_iconst hO (v := 0) (by decide) dX12_step_460 ?_
      exact x_zretv hO rfl (by decide) dX12_step_461 (hR _)
    · refine x_iconst hO (v := 1) (by decide) dX12_step_456 ?_
      refine x_goto hO (tg := 461) dX12_step_457 (by decide) ?_
      exact x_zretv hO rfl (by decide) dX12_step_461 (hR _)
noncomputable def J_X12_step_388 (h : Hp) (x0 : Nat) (x1 : Int32) (x2 : Int32) (x3 : Int32) (x4 : Int32) : Option (Hp × Int32) :=
  if x1 = ((7 : Int32)) then gd (ib (hI (uI h x0 22 ((hI h x0 22) - ((1 : Int32)))) x0 22) (LEN (GR x0 20))) (gd (ib (x3 + ((3 : Int32))) (LEN (GR x0 0))) (bnd (uI (uI h x0 22 ((hI h x0 22) - ((1 : Int32)))) (GR x0 0) (nx (x3 + ((3 : Int32)))) (hI (uI h x0 22 ((hI h x0 22) - ((1 : Int32)))) (GR x0 20) (nx (hI (uI h x0 22 ((hI h x0 22) - ((1 : Int32)))) x0 22)))) (fun h1 => gd (ib (hI h1 x0 22) (LEN (GR x0 20))) (gd (ib ((((3636 : Int32)) + (((4 : Int32)) * (hI h1 (GR x0 20) (nx (hI h1 x0 22))))) + ((3 : Int32))) (LEN (GR x0 0))) (J_X12_step_444 (uI h1 (GR x0 0) (nx ((((3636 : Int32)) + (((4 : Int32)) * (hI h1 (GR x0 20) (nx (hI h1 x0 22))))) + ((3 : Int32)))) x2) x0 x4))))) else J_X12_step_444 h x0 x4
set_option maxHeartbeats 4000000 in
set_option maxRecDepth 100000 in
theorem go_X12_step_J388 {Γ : Cx} (hO : Ok Γ mX12_step) (h : Hp) (x0 : Nat) (x1 : Int32) (x2 : Int32) (x3 : Int32) (x4 : Int32) (hx0 : Is x0 12) {K : Hp × Int32 → Prop} (hR : ∀ r, K r → emHI r = tgt Γ) : EG Γ mX12_step 388 [(0, rf Γ x0), (1, .int x1), (2, .int x2), (3, .int x3), (4, .int x4)] [] h (J_X12_step_388 h x0 x1 x2 x3 x4) K := by
  unfold J_X12_step_388
  refine x_iload_n hO 1 rfl rfl dX12_step_388 ?_
  refine x_bipush hO (v := 7) (by decide) dX12_step_389 ?_
  refine x_icmp_ne hO (tg := 444) dX12_step_391 (by decide) ?_ ?_
  · exact x_sub [0, 4] rfl (go_X12_step_J444 hO h x0 x4 hx0 hR)
  · refine x_aload_n hO 0 rfl rfl dX12_step_394 ?_
    refine x_dup_r hO dX12_step_395 ?_
    refine x_getI hO fl_RX12_262 hx0 dX12_step_396 ?_
    refine x_iconst hO (v := 1) (by decide) dX12_step_399 ?_
    refine x_isub hO dX12_step_400 ?_
    refine x_putI hO fl_RX12_262 hx0 dX12_step_401 ?_
    refine x_aload_n hO 0 rfl rfl dX12_step_404 ?_
    refine x_getR hO fl_RX12_7 hx0 dX12_step_405 ?_
    refine x_iload_n hO 3 rfl rfl dX12_step_408 ?_
    refine x_iconst hO (v := 3) (by decide) dX12_step_409 ?_
    refine x_iadd hO dX12_step_410 ?_
    refine x_aload_n hO 0 rfl rfl dX12_step_411 ?_
    refine x_getR hO fl_RX12_47 hx0 dX12_step_412 ?_
    refine x_aload_n hO 0 rfl rfl dX12_step_415 ?_
    refine x_getI hO fl_RX12_262 hx0 dX12_step_416 ?_
    refine x_iald hO (gr_12_20 hx0) dX12_step_419 ?_
    refine x_iast hO (gr_12_0 hx0) dX12_step_420 ?_
    refine x_bnd ?_
    generalize uI (uI h x0 22 ((hI h x0 22) - ((1 : Int32)))) (GR x0 0) (nx (x3 + ((3 : Int32)))) (hI (uI h x0 22 ((hI h x0 22) - ((1 : Int32)))) (GR x0 20) (nx (hI (uI h x0 22 ((hI h x0 22) - ((1 : Int32)))) x0 22))) = h1
    refine x_aload_n hO 0 rfl rfl dX12_step_421 ?_
    refine x_getR hO fl_RX12_7 hx0 dX12_step_422 ?_
    refine x_sipush hO (v := 3636) (by decide) dX12_step_425 ?_
    refine x_iconst hO (v := 4) (by decide) dX12_step_428 ?_
    refine x_aload_n hO 0 rfl rfl dX12_step_429 ?_
    refine x_getR hO fl_RX12_47 hx0 dX12_step_430 ?_
    refine x_aload_n hO 0 rfl rfl dX12_step_433 ?_
    refine x_getI hO fl_RX12_262 hx0 dX12_step_434 ?_
    refine x_iald hO (gr_12_20 hx0) dX12_step_437 ?_
    refine x_imul hO dX12_step_438 ?_
    refine x_iadd hO dX12_step_439 ?_
    refine x_iconst hO (v := 3) (by decide) dX12_step_440 ?_
    refine x_iadd hO dX12_step_441 ?_
    refine x_iload_n hO 2 rfl rfl dX12_step_442 ?_
    refine x_iast hO (gr_12_0 hx0) dX12_step_443 ?_
    exact x_sub [0, 4] rfl (go_X12_step_J444 hO (uI h1 (GR x0 0) (nx ((((3636 : Int32)) + (((4 : Int32)) * (hI h1 (GR x0 20) (nx (hI h1 x0 22))))) + ((3 : Int32)))) x2) x0 x4 hx0 hR)
noncomputable def J_X12_step_368 (h : Hp) (x0 : Nat) (x1 : Int32) (x2 : Int32) (x3 : Int32) (x4 : Int32) : Option (Hp × Int32) :=
  gd (ib (hI h x0 22) (LEN (GR x0 20))) (J_X12_step_388 (uI (uI h (GR x0 20) (nx (hI h x0 22)) x2) x0 22 ((hI (uI h (GR x0 20) (nx (hI h x0 22)) x2) x0 22) + ((1 : Int32)))) x0 x1 x2 x3 x4)
set_option maxHeartbeats 4000000 in
set_option maxRecDepth 100000 in
theorem go_X12_step_J368 {Γ : Cx} (hO : Ok Γ mX12_step) (h : Hp) (x0 : Nat) (x1 : Int32) (x2 : Int32) (x3 : Int32) (x4 : Int32) (hx0 : Is x0 12) {K : Hp × Int32 → Prop} (hR : ∀ r, K r → emHI r = tgt Γ) : EG Γ mX12_step 368 [(0, rf Γ x0), (1, .int x1), (2, .int x2), (3, .int x3), (4, .int x4)] [] h (J_X12_step_368 h x0 x1 x2 x3 x4) K := by
  unfold J_X12_step_368
  refine x_aload_n hO 0 rfl rfl dX12_step_368 ?_
  refine x_getR hO fl_RX12_47 hx0 dX12_step_369 ?_
  refine x_aload_n hO 0 rfl rfl dX12_step_372 ?_
  refine x_getI hO fl_RX12_262 hx0 dX12_step_373 ?_
  refine x_iload_n hO 2 rfl rfl dX12_step_376 ?_
  refine x_iast hO (gr_12_20 hx0) dX12_step_377 ?_
  refine x_aload_n hO 0 rfl rfl dX12_step_378 ?_
  refine x_dup_r hO dX12_step_379 ?_
  refine x_getI hO fl_RX12_262 hx0 dX12_step_380 ?_
  refine x_iconst hO (v := 1) (by decide) dX12_step_383 ?_
  refine x_iadd hO dX12_step_384 ?_
  refine x_putI hO fl_RX12_262 hx0 dX12_step_385 ?_
  exact x_sub [0, 1, 2, 3, 4] rfl (go_X12_step_J388 hO (uI (uI h (GR x0 20) (nx (hI h x0 22)) x2) x0 22 ((hI (uI h (GR x0 20) (nx (hI h x0 22)) x2) x0 22) + ((1 : Int32)))) x0 x1 x2 x3 x4 hx0 hR)
noncomputable def J_X12_step_357 (h : Hp) (x0 : Nat) (x1 : Int32) (x2 : Int32) (x3 : Int32) (x4 : Int32) : Option (Hp × Int32) :=
  if x1 = ((5 : Int32)) then J_X12_step_368 h x0 x1 x2 x3 x4 else if x1 = ((6 : Int32)) then J_X12_step_368 h x0 x1 x2 x3 x4 else J_X12_step_388 h x0 x1 x2 x3 x4
set_option maxHeartbeats 4000000 in
set_option maxRecDepth 100000 in
theorem go_X12_step_J357 {Γ : Cx} (hO : Ok Γ mX12_step) (h : Hp) (x0 : Nat) (x1 : Int32) (x2 : Int32) (x3 : Int32) (x4 : Int32) (hx0 : Is x0 12) {K : Hp × Int32 → Prop} (hR : ∀ r, K r → emHI r = tgt Γ) : EG Γ mX12_step 357 [(0, rf Γ x0), (1, .int x1), (2, .int x2), (3, .int x3), (4, .int x4)] [] h (J_X12_step_357 h x0 x1 x2 x3 x4) K := by
  unfold J_X12_step_357
  refine x_iload_n hO 1 rfl rfl dX12_step_357 ?_
  refine x_iconst hO (v := 5) (by decide) dX12_step_358 ?_
  refine x_icmp_eq hO (tg := 368) dX12_step_359 (by decide) ?_ ?_
  · exact x_sub [0, 1, 2, 3, 4] rfl (go_X12_step_J368 hO h x0 x1 x2 x3 x4 hx0 hR)
  · refine x_iload_n hO 1 rfl rfl dX12_step_362 ?_
    refine x_bipush hO (v := 6) (by decide) dX12_step_363 ?_
    refine x_icmp_ne hO (tg := 388) dX12_step_365 (by decide) ?_ ?_
    · exact x_sub [0, 1, 2, 3, 4] rfl (go_X12_step_J388 hO h x0 x1 x2 x3 x4 hx0 hR)
    · exact x_sub [0, 1, 2, 3, 4] rfl (go_X12_step_J368 hO h x0 x1 x2 x3 x4 hx0 hR)
noncomputable def J_X12_step_355 (h : Hp) (x0 : Nat) (x1 : Int32) (x2 : Int32) (x3 : Int32) (s0 : Int32) : Option (Hp × Int32) :=
  J_X12_step_357 h x0 x1 x2 x3 s0
set_option maxHeartbeats 4000000 in
set_option maxRecDepth 100000 in
theorem go_X12_step_J355 {Γ : Cx} (hO : Ok Γ mX12_step) (h : Hp) (x0 : Nat) (x1 : Int32) (x2 : Int32) (x3 : Int32) (s0 : Int32) (hx0 : Is x0 12) {K : Hp × Int32 → Prop} (hR : ∀ r, K r → emHI r = tgt Γ) : EG Γ mX12_step 355 [(0, rf Γ x0), (1, .int x1), (2, .int x2), (3, .int x3)] [.int s0] h (J_X12_step_355 h x0 x1 x2 x3 s0) K := by
  unfold J_X12_step_355
  refine x_istore hO [(4, .int s0), (0, rf Γ x0), (1, .int x1), (2, .int x2), (3, .int x3)] dX12_step_355 (by decide) rfl ?_
  exact x_sub [1, 2, 3, 4, 0] rfl (go_X12_step_J357 hO h x0 x1 x2 x3 s0 hx0 hR)
noncomputable def J_X12_step_354 (h : Hp) (x0 : Nat) (x1 : Int32) (x2 : Int32) (x3 : Int32) : Option (Hp × Int32) :=
  J_X12_step_355 h x0 x1 x2 x3 ((0 : Int32))
set_option maxHeartbeats 4000000 in
set_option maxRecDepth 100000 in
theorem go_X12_step_J354 {Γ : Cx} (hO : Ok Γ mX12_step) (h : Hp) (x0 : Nat) (x1 : Int32) (x2 : Int32) (x3 : Int32) (hx0 : Is x0 12) {K : Hp × Int32 → Prop} (hR : ∀ r, K r → emHI r = tgt Γ) : EG Γ mX12_step 354 [(0, rf Γ x0), (1, .int x1), (2, .int x2), (3, .int x3)] [] h (J_X12_step_354 h x0 x1 x2 x3) K := by
  unfold J_X12_step_354
  refine x_iconst hO (v := 0) (by decide) dX12_step_354 ?_
  exact x_sub [0, 1, 2, 3] rfl (go_X12_step_J355 hO h x0 x1 x2 x3 ((0 : Int32)) hx0 hR)
noncomputable def J_X12_step_299 (h : Hp) (x0 : Nat) (x1 : Int32) (x2 : Int32) (x3 : Int32) (x4 : Int32) : Option (Hp × Int32) :=
  if x1 = ((4 : Int32)) then (F_X12_number h x0 (x3 + ((1 : Int32))) ((0 : Int32)) ((7 : Int32))).bind (fun r1 => if r1.2 = 0 then J_X12_step_354 r1.1 x0 x1 x2 x3 else gd (ib (x3 + ((1 : Int32))) (LEN (GR x0 0))) (gd (ib (x3 + ((1 : Int32))) (LEN (GR x0 0))) ((F_X12_number r1.1 x0 (x3 + ((2 : Int32))) (hI r1.1 (GR x0 0) (nx (x3 + ((1 : Int32))))) (if ((hI r1.1 (GR x0 0) (nx (x3 + ((1 : Int32))))) + ((5 : Int32))) < ((7 : Int32)) then ((hI r1.1 (GR x0 0) (nx (x3 + ((1 : Int32))))) + ((5 : Int32))) else ((7 : Int32)))).bind (fun r2 => if r2.2 = 0 then J_X12_step_354 r2.1 x0 x1 x2 x3 else J_X12_step_355 r2.1 x0 x1 x2 x3 ((1 : Int32)))))) else J_X12_step_357 h x0 x1 x2 x3 x4
set_option maxHeartbeats 4000000 in
set_option maxRecDepth 100000 in
theorem go_X12_step_J299 {Γ : Cx} (hO : Ok Γ mX12_step) (h : Hp) (x0 : Nat) (x1 : Int32) (x2 : Int32) (x3 : Int32) (x4 : Int32) (hx0 : Is x0 12) {K : Hp × Int32 → Prop} (hR : ∀ r, K r → emHI r = tgt Γ) : EG Γ mX12_step 299 [(0, rf Γ x0), (1, .int x1), (2, .int x2), (3, .int x3), (4, .int x4)] [] h (J_X12_step_299 h x0 x1 x2 x3 x4) K := by
  unfold J_X12_step_299
  refine x_iload_n hO 1 rfl rfl dX12_step_299 ?_
  refine x_iconst hO (v := 4) (by decide) dX12_step_300 ?_
  refine x_icmp_ne hO (tg := 357) dX12_step_301 (by decide) ?_ ?_
  · exact x_sub [0, 1, 2, 3, 4] rfl (go_X12_step_J357 hO h x0 x1 x2 x3 x4 hx0 hR)
  · refine x_aload_n hO 0 rfl rfl dX12_step_304 ?_
    refine x_iload_n hO 3 rfl rfl dX12_step_305 ?_
    refine x_iconst hO (v := 1) (by decide) dX12_step_306 ?_
    refine x_iadd hO dX12_step_307 ?_
    refine x_iconst hO (v := 0) (by decide) dX12_step_308 ?_
    refine x_bipush hO (v := 7) (by decide) dX12_step_309 ?_
    refine y_HI (x_callV hO lv_RX12_234 hx0 vc_12 (by decide) (As := [.int (x3 + ((1 : Int32))), .int ((0 : Int32)), .int ((7 : Int32))]) rfl (Nat.le_of_ble_eq_true rfl) (ok_X12_number (cG Γ) h x0 (x3 + ((1 : Int32))) ((0 : Int32)) ((7 : Int32)) hx0) dX12_step_311 rfl (Nat.le_of_ble_eq_true rfl)) (fun r1 => ?_)
    refine x_if_eq hO (tg := 354) dX12_step_314 (by decide) ?_ ?_
    · exact x_sub [0, 1, 2, 3] rfl (go_X12_step_J354 hO r1.1 x0 x1 x2 x3 hx0 hR)
    · refine x_aload_n hO 0 rfl rfl dX12_step_317 ?_
      refine x_iload_n hO 3 rfl rfl dX12_step_318 ?_
      refine x_iconst hO (v := 2) (by decide) dX12_step_319 ?_
      refine x_iadd hO dX12_step_320 ?_
      refine x_aload_n hO 0 rfl rfl dX12_step_321 ?_
      refine x_getR hO fl_RX12_7 hx0 dX12_step_322 ?_
      refine x_iload_n hO 3 rfl rfl dX12_step_325 ?_
      refine x_iconst hO (v := 1) (by decide) dX12_step_326 ?_
      refine x_iadd hO dX12_step_327 ?_
      refine x_iald hO (gr_12_0 hx0) dX12_step_328 ?_
      refine x_bipush hO (v := 7) (by decide) dX12_step_329 ?_
      refine x_aload_n hO 0 rfl rfl dX12_step_331 ?_
      refine x_getR hO fl_RX12_7 hx0 dX12_step_332 ?_
      refine x_iload_n hO 3 rfl rfl dX12_step_335 ?_
      refine x_iconst hO (v := 1) (by decide) dX12_step_336 ?_
      refine x_iadd hO dX12_step_337 ?_
      refine x_iald hO (gr_12_0 hx0) dX12_step_338 ?_
      refine x_iconst hO (v := 5) (by decide) dX12_step_339 ?_
      refine x_iadd hO dX12_step_340 ?_
      refine x_mmin hO lm_RX12_192 (Nat.le_of_ble_eq_true rfl) (Nat.le_of_ble_eq_true rfl) dX12_step_341 ?_
      refine y_HI (x_callV hO lv_RX12_234 hx0 vc_12 (by decide) (As := [.int (x3 + ((2 : Int32))), .int (hI r1.1 (GR x0 0) (nx (x3 + ((1 : Int32))))), .int (if ((hI r1.1 (GR x0 0) (nx (x3 + ((1 : Int32))))) + ((5 : Int32))) < ((7 : Int32)) then ((hI r1.1 (GR x0 0) (nx (x3 + ((1 : Int32))))) + ((5 : Int32))) else ((7 : Int32)))]) rfl (Nat.le_of_ble_eq_true rfl) (ok_X12_number (cG Γ) r1.1 x0 (x3 + ((2 : Int32))) (hI r1.1 (GR x0 0) (nx (x3 + ((1 : Int32))))) (if ((hI r1.1 (GR x0 0) (nx (x3 + ((1 : Int32))))) + ((5 : Int32))) < ((7 : Int32)) then ((hI r1.1 (GR x0 0) (nx (x3 + ((1 : Int32))))) + ((5 : Int32))) else ((7 : Int32))) hx0) dX12_step_344 rfl (Nat.le_of_ble_eq_true rfl)) (fun r2 => ?_)
      refine x_if_eq hO (tg := 354) dX12_step_347 (by decide) ?_ ?_
      · exact x_sub [0, 1, 2, 3] rfl (go_X12_step_J354 hO r2.1 x0 x1 x2 x3 hx0 hR)
      · refine x_iconst hO (v := 1) (by decide) dX12_step_350 ?_
        refine x_goto hO (tg := 355) dX12_step_351 (by decide) ?_
        exact x_sub [0, 1, 2, 3] rfl (go_X12_step_J355 hO r2.1 x0 x1 x2 x3 ((1 : Int32)) hx0 hR)
noncomputable def J_X12_step_282 (h : Hp) (x0 : Nat) (x1 : Int32) (x2 : Int32) (x3 : Int32) (x4 : Int32) : Option (Hp × Int32) :=
  if x1 = ((5 : Int32)) then (F_X12_number h x0 (x3 + ((1 : Int32))) ((1 : Int32)) ((9 : Int32))).bind (fun r1 => J_X12_step_299 r1.1 x0 x1 x2 x3 r1.2) else J_X12_step_299 h x0 x1 x2 x3 x4
set_option maxHeartbeats 4000000 in
set_option maxRecDepth 100000 in
theorem go_X12_step_J282 {Γ : Cx} (hO : Ok Γ mX12_step) (h : Hp) (x0 : Nat) (x1 : Int32) (x2 : Int32) (x3 : Int32) (x4 : Int32) (hx0 : Is x0 12) {K : Hp × Int32 → Prop} (hR : ∀ r, K r → emHI r = tgt Γ) : EG Γ mX12_step 282 [(0, rf Γ x0), (1, .int x1), (2, .int x2), (3, .int x3), (4, .int x4)] [] h (J_X12_step_282 h x0 x1 x2 x3 x4) K := by
  unfold J_X12_step_282
  refine x_iload_n hO 1 rfl rfl dX12_step_282 ?_
  refine x_iconst hO (v := 5) (by decide) dX12_step_283 ?_
  refine x_icmp_ne hO (tg := 299) dX12_step_284 (by decide) ?_ ?_
  · exact x_sub [0, 1, 2, 3, 4] rfl (go_X12_step_J299 hO h x0 x1 x2 x3 x4 hx0 hR)
  · refine x_aload_n hO 0 rfl rfl dX12_step_287 ?_
    refine x_iload_n hO 3 rfl rfl dX12_step_288 ?_
    refine x_iconst hO (v := 1) (by decide) dX12_step_289 ?_
    refine x_iadd hO dX12_step_290 ?_
    refine x_iconst hO (v := 1) (by decide) dX12_step_291 ?_
    refine x_bipush hO (v := 9) (by decide) dX12_step_292 ?_
    refine y_HI (x_callV hO lv_RX12_234 hx0 vc_12 (by decide) (As := [.int (x3 + ((1 : Int32))), .int ((1 : Int32)), .int ((9 : Int32))]) rfl (Nat.le_of_ble_eq_true rfl) (ok_X12_number (cG Γ) h x0 (x3 + ((1 : Int32))) ((1 : Int32)) ((9 : Int32)) hx0) dX12_step_294 rfl (Nat.le_of_ble_eq_true rfl)) (fun r1 => ?_)
    refine x_istore hO [(4, .int r1.2), (0, rf Γ x0), (1, .int x1), (2, .int x2), (3, .int x3)] dX12_step_297 (by decide) rfl ?_
    exact x_sub [1, 2, 3, 4, 0] rfl (go_X12_step_J299 hO r1.1 x0 x1 x2 x3 r1.2 hx0 hR)
noncomputable def J_X12_step_265 (h : Hp) (x0 : Nat) (x1 : Int32) (x2 : Int32) (x3 : Int32) (x4 : Int32) : Option (Hp × Int32) :=
  if x1 = ((2 : Int32)) then (F_X12_number h x0 (x3 + ((1 : Int32))) ((0 : Int32)) ((99 : Int32))).bind (fun r1 => J_X12_step_282 r1.1 x0 x1 x2 x3 r1.2) else J_X12_step_282 h x0 x1 x2 x3 x4
set_option maxHeartbeats 4000000 in
set_option maxRecDepth 100000 in
theorem go_X12_step_J265 {Γ : Cx} (hO : Ok Γ mX12_step) (h : Hp) (x0 : Nat) (x1 : Int32) (x2 : Int32) (x3 : Int32) (x4 : Int32) (hx0 : Is x0 12) {K : Hp × Int32 → Prop} (hR : ∀ r, K r → emHI r = tgt Γ) : EG Γ mX12_step 265 [(0, rf Γ x0), (1, .int x1), (2, .int x2), (3, .int x3), (4, .int x4)] [] h (J_X12_step_265 h x0 x1 x2 x3 x4) K := by
  unfold J_X12_step_265
  refine x_iload_n hO 1 rfl rfl dX12_step_265 ?_
  refine x_iconst hO (v := 2) (by decide) dX12_step_266 ?_
  refine x_icmp_ne hO (tg := 282) dX12_step_267 (by decide) ?_ ?_
  · exact x_sub [0, 1, 2, 3, 4] rfl (go_X12_step_J282 hO h x0 x1 x2 x3 x4 hx0 hR)
  · refine x_aload_n hO 0 rfl rfl dX12_step_270 ?_
    refine x_iload_n hO 3 rfl rfl dX12_step_271 ?_
    refine x_iconst hO (v := 1) (by decide) dX12_step_272 ?_
    refine x_iadd hO dX12_step_273 ?_
    refine x_iconst hO (v := 0) (by decide) dX12_step_274 ?_
    refine x_bipush hO (v := 99) (by decide) dX12_step_275 ?_
    refine y_HI (x_callV hO lv_RX12_234 hx0 vc_12 (by decide) (As := [.int (x3 + ((1 : Int32))), .int ((0 : Int32)), .int ((99 : Int32))]) rfl (Nat.le_of_ble_eq_true rfl) (ok_X12_number (cG Γ) h x0 (x3 + ((1 : Int32))) ((0 : Int32)) ((99 : Int32)) hx0) dX12_step_277 rfl (Nat.le_of_ble_eq_true rfl)) (fun r1 => ?_)
    refine x_istore hO [(4, .int r1.2), (0, rf Γ x0), (1, .int x1), (2, .int x2), (3, .int x3)] dX12_step_280 (by decide) rfl ?_
    exact x_sub [1, 2, 3, 4, 0] rfl (go_X12_step_J282 hO r1.1 x0 x1 x2 x3 r1.2 hx0 hR)
noncomputable def J_X12_step_263 (h : Hp) (x0 : Nat) (x1 : Int32) (x2 : Int32) (x3 : Int32) (s0 : Int32) : Option (Hp × Int32) :=
  J_X12_step_265 h x0 x1 x2 x3 s0
set_option maxHeartbeats 4000000 in
set_option maxRecDepth 100000 in
theorem go_X12_step_J263 {Γ : Cx} (hO : Ok Γ mX12_step) (h : Hp) (x0 : Nat) (x1 : Int32) (x2 : Int32) (x3 : Int32) (s0 : Int32) (hx0 : Is x0 12) {K : Hp × Int32 → Prop} (hR : ∀ r, K r → emHI r = tgt Γ) : EG Γ mX12_step 263 [(0, rf Γ x0), (1, .int x1), (2, .int x2), (3, .int x3)] [.int s0] h (J_X12_step_263 h x0 x1 x2 x3 s0) K := by
  unfold J_X12_step_263
  refine x_istore hO [(4, .int s0), (0, rf Γ x0), (1, .int x1), (2, .int x2), (3, .int x3)] dX12_step_263 (by decide) rfl ?_
  exact x_sub [1, 2, 3, 4, 0] rfl (go_X12_step_J265 hO h x0 x1 x2 x3 s0 hx0 hR)
noncomputable def J_X12_step_262 (h : Hp) (x0 : Nat) (x1 : Int32) (x2 : Int32) (x3 : Int32) : Option (Hp × Int32) :=
  J_X12_step_263 h x0 x1 x2 x3 ((0 : Int32))
set_option maxHeartbeats 4000000 in
set_option maxRecDepth 100000 in
theorem go_X12_step_J262 {Γ : Cx} (hO : Ok Γ mX12_step) (h : Hp) (x0 : Nat) (x1 : Int32) (x2 : Int32) (x3 : Int32) (hx0 : Is x0 12) {K : Hp × Int32 → Prop} (hR : ∀ r, K r → emHI r = tgt Γ) : EG Γ mX12_step 262 [(0, rf Γ x0), (1, .int x1), (2, .int x2), (3, .int x3)] [] h (J_X12_step_262 h x0 x1 x2 x3) K := by
  unfold J_X12_step_262
  refine x_iconst hO (v := 0) (by decide) dX12_step_262 ?_
  exact x_sub [0, 1, 2, 3] rfl (go_X12_step_J263 hO h x0 x1 x2 x3 ((0 : Int32)) hx0 hR)
noncomputable def J_X12_step_232 (h : Hp) (x0 : Nat) (x1 : Int32) (x2 : Int32) (x3 : Int32) : Option (Hp × Int32) :=
  (F_X12_number h x0 (x3 + ((1 : Int32))) ((0 : Int32)) ((7 : Int32))).bind (fun r1 => if r1.2 = 0 then J_X12_step_262 r1.1 x0 x1 x2 x3 else (F_X12_number r1.1 x0 (x3 + ((2 : Int32))) ((0 : Int32)) ((11 : Int32))).bind (fun r2 => if r2.2 = 0 then J_X12_step_262 r2.1 x0 x1 x2 x3 else J_X12_step_263 r2.1 x0 x1 x2 x3 ((1 : Int32))))
set_option maxHeartbeats 4000000 in
set_option maxRecDepth 100000 in
theorem go_X12_step_J232 {Γ : Cx} (hO : Ok Γ mX12_step) (h : Hp) (x0 : Nat) (x1 : Int32) (x2 : Int32) (x3 : Int32) (hx0 : Is x0 12) {K : Hp × Int32 → Prop} (hR : ∀ r, K r → emHI r = tgt Γ) : EG Γ mX12_step 232 [(0, rf Γ x0), (1, .int x1), (2, .int x2), (3, .int x3)] [] h (J_X12_step_232 h x0 x1 x2 x3) K := by
  unfold J_X12_step_232
  refine x_aload_n hO 0 rfl rfl dX12_step_232 ?_
  refine x_iload_n hO 3 rfl rfl dX12_step_233 ?_
  refine x_iconst hO (v := 1) (by decide) dX12_step_234 ?_
  refine x_iadd hO dX12_step_235 ?_
  refine x_iconst hO (v := 0) (by decide) dX12_step_236 ?_
  refine x_bipush hO (v := 7) (by decide) dX12_step_237 ?_
  refine y_HI (x_callV hO lv_RX12_234 hx0 vc_12 (by decide) (As := [.int (x3 + ((1 : Int32))), .int ((0 : Int32)), .int ((7 : Int32))]) rfl (Nat.le_of_ble_eq_true rfl) (ok_X12_number (cG Γ) h x0 (x3 + ((1 : Int32))) ((0 : Int32)) ((7 : Int32)) hx0) dX12_step_239 rfl (Nat.le_of_ble_eq_true rfl)) (fun r1 => ?_)
  refine x_if_eq hO (tg := 262) dX12_step_242 (by decide) ?_ ?_
  · exact x_sub [0, 1, 2, 3] rfl (go_X12_step_J262 hO r1.1 x0 x1 x2 x3 hx0 hR)
  · refine x_aload_n hO 0 rfl rfl dX12_step_245 ?_
    refine x_iload_n hO 3 rfl rfl dX12_step_246 ?_
    refine x_iconst hO (v := 2) (by decide) dX12_step_247 ?_
    refine x_iadd hO dX12_step_248 ?_
    refine x_iconst hO (v := 0) (by decide) dX12_step_249 ?_
    refine x_bipush hO (v := 11) (by decide) dX12_step_250 ?_
    refine y_HI (x_callV hO lv_RX12_234 hx0 vc_12 (by decide) (As := [.int (x3 + ((2 : Int32))), .int ((0 : Int32)), .int ((11 : Int32))]) rfl (Nat.le_of_ble_eq_true rfl) (ok_X12_number (cG Γ) r1.1 x0 (x3 + ((2 : Int32))) ((0 : Int32)) ((11 : Int32)) hx0) dX12_step_252 rfl (Nat.le_of_ble_eq_true rfl)) (fun r2 => ?_)
    refine x_if_eq hO (tg := 262) dX12_step_255 (by decide) ?_ ?_
    · exact x_sub [0, 1, 2, 3] rfl (go_X12_step_J262 hO r2.1 x0 x1 x2 x3 hx0 hR)
    · refine x_iconst hO (v := 1) (by decide) dX12_step_258 ?_
      refine x_goto hO (tg := 263) dX12_step_259 (by decide) ?_
      exact x_sub [0, 1, 2, 3] rfl (go_X12_step_J263 hO r2.1 x0 x1 x2 x3 ((1 : Int32)) hx0 hR)
noncomputable def J_X12_step_221 (h : Hp) (x0 : Nat) (x1 : Int32) (x2 : Int32) (x3 : Int32) (x4 : Int32) : Option (Hp × Int32) :=
  if x1 = ((1 : Int32)) then J_X12_step_232 h x0 x1 x2 x3 else if x1 = ((6 : Int32)) then J_X12_step_232 h x0 x1 x2 x3 else J_X12_step_265 h x0 x1 x2 x3 x4
set_option maxHeartbeats 4000000 in
set_option maxRecDepth 100000 in
theorem go_X12_step_J221 {Γ : Cx} (hO : Ok Γ mX12_step) (h : Hp) (x0 : Nat) (x1 : Int32) (x2 : Int32) (x3 : Int32) (x4 : Int32) (hx0 : Is x0 12) {K : Hp × Int32 → Prop} (hR : ∀ r, K r → emHI r = tgt Γ) : EG Γ mX12_step 221 [(0, rf Γ x0), (1, .int x1), (2, .int x2), (3, .int x3), (4, .int x4)] [] h (J_X12_step_221 h x0 x1 x2 x3 x4) K := by
  unfold J_X12_step_221
  refine x_iload_n hO 1 rfl rfl dX12_step_221 ?_
  refine x_iconst hO (v := 1) (by decide) dX12_step_222 ?_
  refine x_icmp_eq hO (tg := 232) dX12_step_223 (by decide) ?_ ?_
  · exact x_sub [0, 1, 2, 3] rfl (go_X12_step_J232 hO h x0 x1 x2 x3 hx0 hR)
  · refine x_iload_n hO 1 rfl rfl dX12_step_226 ?_
    refine x_bipush hO (v := 6) (by decide) dX12_step_227 ?_
    refine x_icmp_ne hO (tg := 265) dX12_step_229 (by decide) ?_ ?_
    · exact x_sub [0, 1, 2, 3, 4] rfl (go_X12_step_J265 hO h x0 x1 x2 x3 x4 hx0 hR)
    · exact x_sub [0, 1, 2, 3] rfl (go_X12_step_J232 hO h x0 x1 x2 x3 hx0 hR)
noncomputable def J_X12_step_118 (h : Hp) (x0 : Nat) (x1 : Int32) (x2 : Int32) (x3 : Int32) (s0 : Nat) (s1 : Int32) (s2 : Int32) : Option (Hp × Int32) :=
  gd (ib x3 (LEN (GR x0 0))) (gd (ib (x3 + ((1 : Int32))) (LEN (GR x0 0))) (gd (ib (x3 + ((2 : Int32))) (LEN (GR x0 0))) (bnd (uI (uI (uI (uI h s0 23 (s1 + s2)) (GR x0 0) (nx x3) x1) (GR x0 0) (nx (x3 + ((1 : Int32)))) ((0 : Int32))) (GR x0 0) (nx (x3 + ((2 : Int32)))) ((0 : Int32))) (fun h1 => gd (ib (x3 + ((3 : Int32))) (LEN (GR x0 0))) (gd (ib ((3205 : Int32)) (LEN (GR x0 0))) (gd (ib ((3205 : Int32)) (LEN (GR x0 0))) (bnd (uI (uI h1 (GR x0 0) (nx (x3 + ((3 : Int32)))) ((0 : Int32))) (GR x0 0) (nx ((3205 : Int32))) ((hI (uI h1 (GR x0 0) (nx (x3 + ((3 : Int32)))) ((0 : Int32))) (GR x0 0) (nx ((3205 : Int32)))) + ((1 : Int32)))) (fun h2 => (F_X12_ahead h2 x0).bind (fun r3 => if x1 = 0 then (F_X12_number r3 x0 (x3 + ((1 : Int32))) ((0 : Int32)) ((7 : Int32))).bind (fun r4 => if r4.2 = 0 then J_X12_step_221 r4.1 x0 x1 x2 x3 r4.2 else (F_X12_inWords r4.1 x0 15).bind (fun r5 => if r5 = ((8 : Int32)) then gd (ib (x3 + ((2 : Int32))) (LEN (GR x0 0))) ((F_X12_ahead (uI r4.1 (GR x0 0) (nx (x3 + ((2 : Int32)))) ((1 : Int32))) x0).bind (fun r6 => J_X12_step_221 r6 x0 x1 x2 x3 r4.2)) else J_X12_step_221 r4.1 x0 x1 x2 x3 r4.2)) else J_X12_step_221 r3 x0 x1 x2 x3 ((1 : Int32)))))))))))
set_option maxHeartbeats 4000000 in
set_option maxRecDepth 100000 in
theorem go_X12_step_J118 {Γ : Cx} (hO : Ok Γ mX12_step) (h : Hp) (x0 : Nat) (x1 : Int32) (x2 : Int32) (x3 : Int32) (s0 : Nat) (s1 : Int32) (s2 : Int32) (hx0 : Is x0 12) (hs0 : Is s0 12) {K : Hp × Int32 → Prop} (hR : ∀ r, K r → emHI r = tgt Γ) : EG Γ mX12_step 118 [(0, rf Γ x0), (1, .int x1), (2, .int x2), (3, .int x3)] [.int s2, .int s1, rf Γ s0] h (J_X12_step_118 h x0 x1 x2 x3 s0 s1 s2) K := by
  unfold J_X12_step_118
  refine x_iadd hO dX12_step_118 ?_
  refine x_putI hO fl_RX12_265 hs0 dX12_step_119 ?_
  refine x_aload_n hO 0 rfl rfl dX12_step_122 ?_
  refine x_getR hO fl_RX12_7 hx0 dX12_step_123 ?_
  refine x_iload_n hO 3 rfl rfl dX12_step_126 ?_
  refine x_iload_n hO 1 rfl rfl dX12_step_127 ?_
  refine x_iast hO (gr_12_0 hx0) dX12_step_128 ?_
  refine x_aload_n hO 0 rfl rfl dX12_step_129 ?_
  refine x_getR hO fl_RX12_7 hx0 dX12_step_130 ?_
  refine x_iload_n hO 3 rfl rfl dX12_step_133 ?_
  refine x_iconst hO (v := 1) (by decide) dX12_step_134 ?_
  refine x_iadd hO dX12_step_135 ?_
  refine x_iconst hO (v := 0) (by decide) dX12_step_136 ?_
  refine x_iast hO (gr_12_0 hx0) dX12_step_137 ?_
  refine x_aload_n hO 0 rfl rfl dX12_step_138 ?_
  refine x_getR hO fl_RX12_7 hx0 dX12_step_139 ?_
  refine x_iload_n hO 3 rfl rfl dX12_step_142 ?_
  refine x_iconst hO (v := 2) (by decide) dX12_step_143 ?_
  refine x_iadd hO dX12_step_144 ?_
  refine x_iconst hO (v := 0) (by decide) dX12_step_145 ?_
  refine x_iast hO (gr_12_0 hx0) dX12_step_146 ?_
  refine x_bnd ?_
  generalize uI (uI (uI (uI h s0 23 (s1 + s2)) (GR x0 0) (nx x3) x1) (GR x0 0) (nx (x3 + ((1 : Int32)))) ((0 : Int32))) (GR x0 0) (nx (x3 + ((2 : Int32)))) ((0 : Int32)) = h1
  refine x_aload_n hO 0 rfl rfl dX12_step_147 ?_
  refine x_getR hO fl_RX12_7 hx0 dX12_step_148 ?_
  refine x_iload_n hO 3 rfl rfl dX12_step_151 ?_
  refine x_iconst hO (v := 3) (by decide) dX12_step_152 ?_
  refine x_iadd hO dX12_step_153 ?_
  refine x_iconst hO (v := 0) (by decide) dX12_step_154 ?_
  refine x_iast hO (gr_12_0 hx0) dX12_step_155 ?_
  refine x_aload_n hO 0 rfl rfl dX12_step_156 ?_
  refine x_getR hO fl_RX12_7 hx0 dX12_step_157 ?_
  refine x_sipush hO (v := 3205) (by decide) dX12_step_160 ?_
  refine x_dup2_ri hO dX12_step_163 ?_
  refine x_iald hO (gr_12_0 hx0) dX12_step_164 ?_
  refine x_iconst hO (v := 1) (by decide) dX12_step_165 ?_
  refine x_iadd hO dX12_step_166 ?_
  refine x_iast hO (gr_12_0 hx0) dX12_step_167 ?_
  refine x_bnd ?_
  generalize uI (uI h1 (GR x0 0) (nx (x3 + ((3 : Int32)))) ((0 : Int32))) (GR x0 0) (nx ((3205 : Int32))) ((hI (uI h1 (GR x0 0) (nx (x3 + ((3 : Int32)))) ((0 : Int32))) (GR x0 0) (nx ((3205 : Int32)))) + ((1 : Int32))) = h2
  refine x_aload_n hO 0 rfl rfl dX12_step_168 ?_
  refine y_HV (x_callV hO lv_RX12_210 hx0 vc_12 (by decide) (As := []) rfl (Nat.le_of_ble_eq_true rfl) (ok_X12_ahead (cG Γ) h2 x0 hx0) dX12_step_169 rfl (Nat.le_of_ble_eq_true rfl)) (fun r3 => ?_)
  refine x_iconst hO (v := 1) (by decide) dX12_step_172 ?_
  refine x_istore hO [(4, .int ((1 : Int32))), (0, rf Γ x0), (1, .int x1), (2, .int x2), (3, .int x3)] dX12_step_173 (by decide) rfl ?_
  refine x_iload_n hO 2 rfl rfl dX12_step_175 ?_
  refine x_if_ne hO (tg := 221) dX12_step_176 (by decide) ?_ ?_
  · exact x_sub [1, 2, 3, 4, 0] rfl (go_X12_step_J221 hO r3 x0 x1 x2 x3 ((1 : Int32)) hx0 hR)
  · refine x_aload_n hO 1 rfl rfl dX12_step_179 ?_
    refine x_iload_n hO 4 rfl rfl dX12_step_180 ?_
    refine x_iconst hO (v := 1) (by decide) dX12_step_181 ?_
    refine x_iadd hO dX12_step_182 ?_
    refine x_iconst hO (v := 0) (by decide) dX12_step_183 ?_
    refine x_bipush hO (v := 7) (by decide) dX12_step_184 ?_
    refine y_HI (x_callV hO lv_RX12_234 hx0 vc_12 (by decide) (As := [.int (x3 + ((1 : Int32))), .int ((0 : Int32)), .int ((7 : Int32))]) rfl (Nat.le_of_ble_eq_true rfl) (ok_X12_number (cG Γ) r3 x0 (x3 + ((1 : Int32))) ((0 : Int32)) ((7 : Int32)) hx0) dX12_step_186 rfl (Nat.le_of_ble_eq_true rfl)) (fun r4 => ?_)
    refine x_istore hO [(4, .int r4.2), (0, rf Γ x0), (1, .int x1), (2, .int x2), (3, .int x3)] dX12_step_189 (by decide) rfl ?_
    refine x_iload hO 0 rfl dX12_step_191 ?_
    refine x_if_eq hO (tg := 221) dX12_step_193 (by decide) ?_ ?_
    · exact x_sub [1, 2, 3, 4, 0] rfl (go_X12_step_J221 hO r4.1 x0 x1 x2 x3 r4.2 hx0 hR)
    · refine x_aload_n hO 1 rfl rfl dX12_step_196 ?_
      refine x_ldcwS hO sr_RX12_260 dX12_step_197 ?_
      refine y_PI (x_callV hO lv_RX12_218 hx0 vc_12 (by decide) (As := [sf Γ 15]) rfl (Nat.le_of_ble_eq_true rfl) (ok_X12_inWords (cG Γ) r4.1 x0 15 hx0 ((by decide))) dX12_step_200 rfl (Nat.le_of_ble_eq_true rfl)) (fun r5 => ?_)
      refine x_bipush hO (v := 8) (by decide) dX12_step_203 ?_
      refine x_icmp_ne hO (tg := 221) dX12_step_205 (by decide) ?_ ?_
      · exact x_sub [1, 2, 3, 4, 0] rfl (go_X12_step_J221 hO r4.1 x0 x1 x2 x3 r4.2 hx0 hR)
      · refine x_aload_n hO 1 rfl rfl dX12_step_208 ?_
        refine x_getR hO fl_RX12_7 hx0 dX12_step_209 ?_
        refine x_iload_n hO 4 rfl rfl dX12_step_212 ?_
        refine x_iconst hO (v := 2) (by decide) dX12_step_213 ?_
        refine x_iadd hO dX12_step_214 ?_
        refine x_iconst hO (v := 1) (by decide) dX12_step_215 ?_
        refine x_iast hO (gr_12_0 hx0) dX12_step_216 ?_
        refine x_aload_n hO 1 rfl rfl dX12_step_217 ?_
        refine y_HV (x_callV hO lv_RX12_210 hx0 vc_12 (by decide) (As := []) rfl (Nat.le_of_ble_eq_true rfl) (ok_X12_ahead (cG Γ) (uI r4.1 (GR x0 0) (nx (x3 + ((2 : Int32)))) ((1 : Int32))) x0 hx0) dX12_step_218 rfl (Nat.le_of_ble_eq_true rfl)) (fun r6 => ?_)
        exact x_sub [1, 2, 3, 4, 0] rfl (go_X12_step_J221 hO r6 x0 x1 x2 x3 r4.2 hx0 hR)
noncomputable def J_X12_step_102 (h : Hp) (x0 : Nat) (x1 : Int32) (x2 : Int32) (x3 : Int32) : Option (Hp × Int32) :=
  if x1 = ((7 : Int32)) then J_X12_step_118 h x0 x1 x2 x3 x0 (hI h x0 23) ((0 : Int32)) else J_X12_step_118 h x0 x1 x2 x3 x0 (hI h x0 23) ((1 : Int32))
set_option maxHeartbeats 4000000 in
set_option maxRecDepth 100000 in
theorem go_X12_step_J102 {Γ : Cx} (hO : Ok Γ mX12_step) (h : Hp) (x0 : Nat) (x1 : Int32) (x2 : Int32) (x3 : Int32) (hx0 : Is x0 12) {K : Hp × Int32 → Prop} (hR : ∀ r, K r → emHI r = tgt Γ) : EG Γ mX12_step 102 [(0, rf Γ x0), (1, .int x1), (2, .int x2), (3, .int x3)] [] h (J_X12_step_102 h x0 x1 x2 x3) K := by
  unfold J_X12_step_102
  refine x_aload_n hO 0 rfl rfl dX12_step_102 ?_
  refine x_dup_r hO dX12_step_103 ?_
  refine x_getI hO fl_RX12_265 hx0 dX12_step_104 ?_
  refine x_iload_n hO 1 rfl rfl dX12_step_107 ?_
  refine x_bipush hO (v := 7) (by decide) dX12_step_108 ?_
  refine x_icmp_eq hO (tg := 117) dX12_step_110 (by decide) ?_ ?_
  · refine x_iconst hO (v := 0) (by decide) dX12_step_117 ?_
    exact x_sub [0, 1, 2, 3] rfl (go_X12_step_J118 hO h x0 x1 x2 x3 x0 (hI h x0 23) ((0 : Int32)) hx0 hx0 hR)
  · refine x_iconst hO (v := 1) (by decide) dX12_step_113 ?_
    refine x_goto hO (tg := 118) dX12_step_114 (by decide) ?_
    exact x_sub [0, 1, 2, 3] rfl (go_X12_step_J118 hO h x0 x1 x2 x3 x0 (hI h x0 23) ((1 : Int32)) hx0 hx0 hR)
noncomputable def J_X12_step_80 (h : Hp) (x0 : Nat) (x1 : Int32) (x2 : Int32) (x3 : Int32) : Option (Hp × Int32) :=
  if x1 = ((7 : Int32)) then J_X12_step_102 h x0 x1 x2 x3 else if (hI h x0 23) = ((40 : Int32)) then (F_X12_fails h x0 ((6 : Int32))).bind (fun r1 => some ((r1.1, r1.2 &&& 1))) else J_X12_step_102 h x0 x1 x2 x3
set_option maxHeartbeats 4000000 in
set_option maxRecDepth 100000 in
theorem go_X12_step_J80 {Γ : Cx} (hO : Ok Γ mX12_step) (h : Hp) (x0 : Nat) (x1 : Int32) (x2 : Int32) (x3 : Int32) (hx0 : Is x0 12) {K : Hp × Int32 → Prop} (hR : ∀ r, K r → emHI r = tgt Γ) : EG Γ mX12_step 80 [(0, rf Γ x0), (1, .int x1), (2, .int x2), (3, .int x3)] [] h (J_X12_step_80 h x0 x1 x2 x3) K := by
  unfold J_X12_step_80
  refine x_iload_n hO 1 rfl rfl dX12_step_80 ?_
  refine x_bipush hO (v := 7) (by decide) dX12_step_81 ?_
  refine x_icmp_eq hO (tg := 102) dX12_step_83 (by decide) ?_ ?_
  · exact x_sub [0, 1, 2, 3] rfl (go_X12_step_J102 hO h x0 x1 x2 x3 hx0 hR)
  · refine x_aload_n hO 0 rfl rfl dX12_step_86 ?_
    refine x_getI hO fl_RX12_265 hx0 dX12_step_87 ?_
    refine x_bipush hO (v := 40) (by decide) dX12_step_90 ?_
    refine x_icmp_ne hO (tg := 102) dX12_step_92 (by decide) ?_ ?_
    · exact x_sub [0, 1, 2, 3] rfl (go_X12_step_J102 hO h x0 x1 x2 x3 hx0 hR)
    · refine x_aload_n hO 0 rfl rfl dX12_step_95 ?_
      refine x_bipush hO (v := 6) (by decide) dX12_step_96 ?_
      refine y_HI (x_callV hO lv_RX12_213 hx0 vc_12 (by decide) (As := [.int ((6 : Int32))]) rfl (Nat.le_of_ble_eq_true rfl) (ok_X12_fails (cG Γ) h x0 ((6 : Int32)) hx0) dX12_step_98 rfl (Nat.le_of_ble_eq_true rfl)) (fun r1 => ?_)
      exact x_zret hO rfl dX12_step_101 (hR _)
noncomputable def J_X12_step_66 (h : Hp) (x0 : Nat) (x1 : Int32) (x2 : Int32) (x3 : Int32) : Option (Hp × Int32) :=
  if (hI h x0 22) = ((3 : Int32)) then (F_X12_fails h x0 ((5 : Int32))).bind (fun r1 => some ((r1.1, r1.2 &&& 1))) else J_X12_step_80 h x0 x1 x2 x3
set_option maxHeartbeats 4000000 in
set_option maxRecDepth 100000 in
theorem go_X12_step_J66 {Γ : Cx} (hO : Ok Γ mX12_step) (h : Hp) (x0 : Nat) (x1 : Int32) (x2 : Int32) (x3 : Int32) (hx0 : Is x0 12) {K : Hp × Int32 → Prop} (hR : ∀ r, K r → emHI r = tgt Γ) : EG Γ mX12_step 66 [(0, rf Γ x0), (1, .int x1), (2, .int x2), (3, .int x3)] [] h (J_X12_step_66 h x0 x1 x2 x3) K := by
  unfold J_X12_step_66
  refine x_aload_n hO 0 rfl rfl dX12_step_66 ?_
  refine x_getI hO fl_RX12_262 hx0 dX12_step_67 ?_
  refine x_iconst hO (v := 3) (by decide) dX12_step_70 ?_
  refine x_icmp_ne hO (tg := 80) dX12_step_71 (by decide) ?_ ?_
  · exact x_sub [0, 1, 2, 3] rfl (go_X12_step_J80 hO h x0 x1 x2 x3 hx0 hR)
  · refine x_aload_n hO 0 rfl rfl dX12_step_74 ?_
    refine x_iconst hO (v := 5) (by decide) dX12_step_75 ?_
    refine y_HI (x_callV hO lv_RX12_213 hx0 vc_12 (by decide) (As := [.int ((5 : Int32))]) rfl (Nat.le_of_ble_eq_true rfl) (ok_X12_fails (cG Γ) h x0 ((5 : Int32)) hx0) dX12_step_76 rfl (Nat.le_of_ble_eq_true rfl)) (fun r1 => ?_)
    exact x_zret hO rfl dX12_step_79 (hR _)
noncomputable def J_X12_step_55 (h : Hp) (x0 : Nat) (x1 : Int32) (x2 : Int32) (x3 : Int32) : Option (Hp × Int32) :=
  if x1 = ((5 : Int32)) then J_X12_step_66 h x0 x1 x2 x3 else if x1 = ((6 : Int32)) then J_X12_step_66 h x0 x1 x2 x3 else J_X12_step_80 h x0 x1 x2 x3
set_option maxHeartbeats 4000000 in
set_option maxRecDepth 100000 in
theorem go_X12_step_J55 {Γ : Cx} (hO : Ok Γ mX12_step) (h : Hp) (x0 : Nat) (x1 : Int32) (x2 : Int32) (x3 : Int32) (hx0 : Is x0 12) {K : Hp × Int32 → Prop} (hR : ∀ r, K r → emHI r = tgt Γ) : EG Γ mX12_step 55 [(0, rf Γ x0), (1, .int x1), (2, .int x2), (3, .int x3)] [] h (J_X12_step_55 h x0 x1 x2 x3) K := by
  unfold J_X12_step_55
  refine x_iload_n hO 1 rfl rfl dX12_step_55 ?_
  refine x_iconst hO (v := 5) (by decide) dX12_step_56 ?_
  refine x_icmp_eq hO (tg := 66) dX12_step_57 (by decide) ?_ ?_
  · exact x_sub [0, 1, 2, 3] rfl (go_X12_step_J66 hO h x0 x1 x2 x3 hx0 hR)
  · refine x_iload_n hO 1 rfl rfl dX12_step_60 ?_
    refine x_bipush hO (v := 6) (by decide) dX12_step_61 ?_
    refine x_icmp_ne hO (tg := 80) dX12_step_63 (by decide) ?_ ?_
    · exact x_sub [0, 1, 2, 3] rfl (go_X12_step_J80 hO h x0 x1 x2 x3 hx0 hR)
    · exact x_sub [0, 1, 2, 3] rfl (go_X12_step_J66 hO h x0 x1 x2 x3 hx0 hR)
noncomputable def F_X12_step (h : Hp) (x0 : Nat) : Option (Hp × Int32) :=
  (F_X12_inWords h x0 15).bind (fun r1 => gd (ib ((3205 : Int32)) (LEN (GR x0 0))) (bnd (((3636 : Int32)) + (((4 : Int32)) * (hI h (GR x0 0) (nx ((3205 : Int32)))))) (fun v2 => if r1 = ((-1 : Int32)) then (F_X12_fails h x0 ((2 : Int32))).bind (fun r3 => some ((r3.1, r3.2 &&& 1))) else if r1 = ((8 : Int32)) then (F_X12_fails h x0 ((2 : Int32))).bind (fun r4 => some ((r4.1, r4.2 &&& 1))) else if r1 = ((7 : Int32)) then if (hI h x0 22) = 0 then (F_X12_fails h x0 ((2 : Int32))).bind (fun r5 => some ((r5.1, r5.2 &&& 1))) else J_X12_step_55 h x0 r1 (hI h (GR x0 0) (nx ((3205 : Int32)))) v2 else J_X12_step_55 h x0 r1 (hI h (GR x0 0) (nx ((3205 : Int32)))) v2)))
set_option maxHeartbeats 4000000 in
set_option maxRecDepth 100000 in
theorem go_X12_step {Γ : Cx} (hO : Ok Γ mX12_step) (h : Hp) (x0 : Nat) (hx0 : Is x0 12) {K : Hp × Int32 → Prop} (hR : ∀ r, K r → emHI r = tgt Γ) : EG Γ mX12_step 0 [(0, rf Γ x0)] [] h (F_X12_step h x0) K := by
  unfold F_X12_step
  refine x_aload_n hO 0 rfl rfl dX12_step_0 ?_
  refine x_ldcwS hO sr_RX12_260 dX12_step_1 ?_
  refine y_PI (x_callV hO lv_RX12_218 hx0 vc_12 (by decide) (As := [sf Γ 15]) rfl (Nat.le_of_ble_eq_true rfl) (ok_X12_inWords (cG Γ) h x0 15 hx0 ((by decide))) dX12_step_4 rfl (Nat.le_of_ble_eq_true rfl)) (fun r1 => ?_)
  refine x_istore_n hO rfl [(1, .int r1), (0, rf Γ x0)] dX12_step_7 (by decide) rfl ?_
  refine x_aload_n hO 1 rfl rfl dX12_step_8 ?_
  refine x_getR hO fl_RX12_7 hx0 dX12_step_9 ?_
  refine x_sipush hO (v := 3205) (by decide) dX12_step_12 ?_
  refine x_iald hO (gr_12_0 hx0) dX12_step_15 ?_
  refine x_istore_n hO rfl [(2, .int (hI h (GR x0 0) (nx ((3205 : Int32))))), (1, .int r1), (0, rf Γ x0)] dX12_step_16 (by decide) rfl ?_
  refine x_sipush hO (v := 3636) (by decide) dX12_step_17 ?_
  refine x_iconst hO (v := 4) (by decide) dX12_step_20 ?_
  refine x_iload_n hO 0 rfl rfl dX12_step_21 ?_
  refine x_imul hO dX12_step_22 ?_
  refine x_iadd hO dX12_step_23 ?_
  refine x_bnd ?_
  generalize ((3636 : Int32)) + (((4 : Int32)) * (hI h (GR x0 0) (nx ((3205 : Int32))))) = v2
  refine x_istore_n hO rfl [(3, .int v2), (2, .int (hI h (GR x0 0) (nx ((3205 : Int32))))), (1, .int r1), (0, rf Γ x0)] dX12_step_24 (by decide) rfl ?_
  refine x_iload_n hO 2 rfl rfl dX12_step_25 ?_
  refine x_iconst hO (v := -1) (by decide) dX12_step_26 ?_
  refine x_icmp_eq hO (tg := 49) dX12_step_27 (by decide) ?_ ?_
  · refine x_aload_n hO 3 rfl rfl dX12_step_49 ?_
    refine x_iconst hO (v := 2) (by decide) dX12_step_50 ?_
    refine y_HI (x_callV hO lv_RX12_213 hx0 vc_12 (by decide) (As := [.int ((2 : Int32))]) rfl (Nat.le_of_ble_eq_true rfl) (ok_X12_fails (cG Γ) h x0 ((2 : Int32)) hx0) dX12_step_51 rfl (Nat.le_of_ble_eq_true rfl)) (fun r3 => ?_)
    exact x_zret hO rfl dX12_step_54 (hR _)
  · refine x_iload_n hO 2 rfl rfl dX12_step_30 ?_
    refine x_bipush hO (v := 8) (by decide) dX12_step_31 ?_
    refine x_icmp_eq hO (tg := 49) dX12_step_33 (by decide) ?_ ?_
    · refine x_aload_n hO 3 rfl rfl dX12_step_49 ?_
      refine x_iconst hO (v := 2) (by decide) dX12_step_50 ?_
      refine y_HI (x_callV hO lv_RX12_213 hx0 vc_12 (by decide) (As := [.int ((2 : Int32))]) rfl (Nat.le_of_ble_eq_true rfl) (ok_X12_fails (cG Γ) h x0 ((2 : Int32)) hx0) dX12_step_51 rfl (Nat.le_of_ble_eq_true rfl)) (fun r4 => ?_)
      exact x_zret hO rfl dX12_step_54 (hR _)
    · refine x_iload_n hO 2 rfl rfl dX12_step_36 ?_
      refine x_bipush hO (v := 7) (by decide) dX12_step_37 ?_
      refine x_icmp_ne hO (tg := 55) dX12_step_39 (by decide) ?_ ?_
      · exact x_sub [3, 2, 1, 0] rfl (go_X12_step_J55 hO h x0 r1 (hI h (GR x0 0) (nx ((3205 : Int32)))) v2 hx0 hR)
      · refine x_aload_n hO 3 rfl rfl dX12_step_42 ?_
        refine x_getI hO fl_RX12_262 hx0 dX12_step_43 ?_
        refine x_if_ne hO (tg := 55) dX12_step_46 (by decide) ?_ ?_
        · exact x_sub [3, 2, 1, 0] rfl (go_X12_step_J55 hO h x0 r1 (hI h (GR x0 0) (nx ((3205 : Int32)))) v2 hx0 hR)
        · refine x_aload_n hO 3 rfl rfl dX12_step_49 ?_
          refine x_iconst hO (v := 2) (by decide) dX12_step_50 ?_
          refine y_HI (x_callV hO lv_RX12_213 hx0 vc_12 (by decide) (As := [.int ((2 : Int32))]) rfl (Nat.le_of_ble_eq_true rfl) (ok_X12_fails (cG Γ) h x0 ((2 : Int32)) hx0) dX12_step_51 rfl (Nat.le_of_ble_eq_true rfl)) (fun r5 => ?_)
          exact x_zret hO rfl dX12_step_54 (hR _)
theorem ok_X12_step (G : Gl) (h : Hp) (x0 : Nat) (hx0 : Is x0 12) : CN G mX12_step [.ref (gb G + x0)] h ((F_X12_step h x0).map (emHI)) := CN.fn pn_RX12 (Nat.le_of_ble_eq_true rfl) (fun Γ hG hO => by subst hG; exact go_X12_step hO h x0 hx0 (fun _ q => q))
noncomputable def J_X7_nameStands_82 (h : Hp) (x0 : Nat) (s0 : Int32) : Option (Hp × Int32) :=
  if s0 = 0 then (F_X7_misplaced h x0).bind (fun r1 => (F_X7_tell h x0 r1).bind (fun r2 => if r2.2 = 0 then some ((r2.1, (0 : Int32))) else some ((r2.1, (1 : Int32))))) else some ((h, (1 : Int32)))
set_option maxHeartbeats 4000000 in
set_option maxRecDepth 100000 in
theorem go_X7_nameStands_J82 {Γ : Cx} (hO : Ok Γ mX7_nameStands) (h : Hp) (x0 : Nat) (s0 : Int32) (hx0 : Is x0 7) {K : Hp × Int32 → Prop} (hR : ∀ r, K r → emHI r = tgt Γ) : EG Γ mX7_nameStands 82 [(0, rf Γ x0)] [.int s0] h (J_X7_nameStands_82 h x0 s0) K := by
  unfold J_X7_nameStands_82
  refine x_istore_n hO rfl [(2, .int s0), (0, rf Γ x0)] dX7_nameStands_82 (by decide) rfl ?_
  refine x_iload_n hO 0 rfl rfl dX7_nameStands_83 ?_
  refine x_if_ne hO (tg := 98) dX7_nameStands_84 (by decide) ?_ ?_
  · refine x_iconst hO (v := 1) (by decide) dX7_nameStands_98 ?_
    refine x_goto hO (tg := 103) dX7_nameStands_99 (by decide) ?_
    exact x_zretv hO rfl (by decide) dX7_nameStands_103 (hR _)
  · refine x_aload_n hO 1 rfl rfl dX7_nameStands_87 ?_
    refine x_aload_n hO 1 rfl rfl dX7_nameStands_88 ?_
    refine y_PI (x_callV hO lv_RX7_75 hx0 vc_7 (by decide) (As := []) rfl (Nat.le_of_ble_eq_true rfl) (ok_X7_misplaced (cG Γ) h x0 hx0) dX7_nameStands_89 rfl (Nat.le_of_ble_eq_true rfl)) (fun r1 => ?_)
    refine y_HI (x_callV hO lv_RX7_78 hx0 vc_7 (by decide) (As := [.int r1]) rfl (Nat.le_of_ble_eq_true rfl) (ok_X7_tell (cG Γ) h x0 r1 hx0) dX7_nameStands_92 rfl (Nat.le_of_ble_eq_true rfl)) (fun r2 => ?_)
    refine x_if_eq hO (tg := 102) dX7_nameStands_95 (by decide) ?_ ?_
    · refine x_iconst hO (v := 0) (by decide) dX7_nameStands_102 ?_
      exact x_zretv hO rfl (by decide) dX7_nameStands_103 (hR _)
    · refine x_iconst hO (v := 1) (by decide) dX7_nameStands_98 ?_
      refine x_goto hO (tg := 103) dX7_nameStands_99 (by decide) ?_
      exact x_zretv hO rfl (by decide) dX7_nameStands_103 (hR _)
noncomputable def J_X7_nameStands_81 (h : Hp) (x0 : Nat) : Option (Hp × Int32) :=
  J_X7_nameStands_82 h x0 ((0 : Int32))
set_option maxHeartbeats 4000000 in
set_option maxRecDepth 100000 in
theorem go_X7_nameStands_J81 {Γ : Cx} (hO : Ok Γ mX7_nameStands) (h : Hp) (x0 : Nat) (hx0 : Is x0 7) {K : Hp × Int32 → Prop} (hR : ∀ r, K r → emHI r = tgt Γ) : EG Γ mX7_nameStands 81 [(0, rf Γ x0)] [] h (J_X7_nameStands_81 h x0) K := by
  unfold J_X7_nameStands_81
  refine x_iconst hO (v := 0) (by decide) dX7_nameStands_81 ?_
  exact x_sub [0] rfl (go_X7_nameStands_J82 hO h x0 ((0 : Int32)) hx0 hR)
noncomputable def J_X7_nameStands_50 (h : Hp) (x0 : Nat) (s0 : Int32) : Option (Hp × Int32) :=
  if (hI h x0 4) = ((1 : Int32)) then if ((8 : Int32)) < ((hI h x0 3) - (hI h x0 2)) then J_X7_nameStands_81 h x0 else if s0 = 0 then J_X7_nameStands_82 h x0 ((1 : Int32)) else J_X7_nameStands_81 h x0 else J_X7_nameStands_81 h x0
set_option maxHeartbeats 4000000 in
set_option maxRecDepth 100000 in
theorem go_X7_nameStands_J50 {Γ : Cx} (hO : Ok Γ mX7_nameStands) (h : Hp) (x0 : Nat) (s0 : Int32) (hx0 : Is x0 7) {K : Hp × Int32 → Prop} (hR : ∀ r, K r → emHI r = tgt Γ) : EG Γ mX7_nameStands 50 [(0, rf Γ x0)] [.int s0] h (J_X7_nameStands_50 h x0 s0) K := by
  unfold J_X7_nameStands_50
  refine x_istore_n hO rfl [(1, .int s0), (0, rf Γ x0)] dX7_nameStands_50 (by decide) rfl ?_
  refine x_aload_n hO 1 rfl rfl dX7_nameStands_51 ?_
  refine x_getI hO fl_RX7_25 hx0 dX7_nameStands_52 ?_
  refine x_iconst hO (v := 1) (by decide) dX7_nameStands_55 ?_
  refine x_icmp_ne hO (tg := 81) dX7_nameStands_56 (by decide) ?_ ?_
  · exact x_sub [1] rfl (go_X7_nameStands_J81 hO h x0 hx0 hR)
  · refine x_aload_n hO 1 rfl rfl dX7_nameStands_59 ?_
    refine x_getI hO fl_RX7_22 hx0 dX7_nameStands_60 ?_
    refine x_aload_n hO 1 rfl rfl dX7_nameStands_63 ?_
    refine x_getI hO fl_RX7_19 hx0 dX7_nameStands_64 ?_
    refine x_isub hO dX7_nameStands_67 ?_
    refine x_bipush hO (v := 8) (by decide) dX7_nameStands_68 ?_
    refine x_icmp_gt hO (tg := 81) dX7_nameStands_70 (by decide) ?_ ?_
    · exact x_sub [1] rfl (go_X7_nameStands_J81 hO h x0 hx0 hR)
    · refine x_iload_n hO 0 rfl rfl dX7_nameStands_73 ?_
      refine x_if_ne hO (tg := 81) dX7_nameStands_74 (by decide) ?_ ?_
      · exact x_sub [1] rfl (go_X7_nameStands_J81 hO h x0 hx0 hR)
      · refine x_iconst hO (v := 1) (by decide) dX7_nameStands_77 ?_
        refine x_goto hO (tg := 82) dX7_nameStands_78 (by decide) ?_
        exact x_sub [1] rfl (go_X7_nameStands_J82 hO h x0 ((1 : Int32)) hx0 hR)
noncomputable def J_X7_nameStands_45 (h : Hp) (x0 : Nat) : Option (Hp × Int32) :=
  J_X7_nameStands_50 h x0 ((1 : Int32))
set_option maxHeartbeats 4000000 in
set_option maxRecDepth 100000 in
theorem go_X7_nameStands_J45 {Γ : Cx} (hO : Ok Γ mX7_nameStands) (h : Hp) (x0 : Nat) (hx0 : Is x0 7) {K : Hp × Int32 → Prop} (hR : ∀ r, K r → emHI r = tgt Γ) : EG Γ mX7_nameStands 45 [(0, rf Γ x0)] [] h (J_X7_nameStands_45 h x0) K := by
  unfold J_X7_nameStands_45
  refine x_iconst hO (v := 1) (by decide) dX7_nameStands_45 ?_
  refine x_goto hO (tg := 50) dX7_nameStands_46 (by decide) ?_
  exact x_sub [0] rfl (go_X7_nameStands_J50 hO h x0 ((1 : Int32)) hx0 hR)
noncomputable def F_X7_nameStands (h : Hp) (x0 : Nat) : Option (Hp × Int32) :=
  (F_X7_isWord h x0 0).bind (fun r1 => if r1 = 0 then (F_X7_isWord h x0 1).bind (fun r2 => if r2 = 0 then (F_X7_isWord h x0 2).bind (fun r3 => if r3 = 0 then (F_X7_isWord h x0 3).bind (fun r4 => if r4 = 0 then (F_X7_isWord h x0 4).bind (fun r5 => if r5 = 0 then J_X7_nameStands_50 h x0 ((0 : Int32)) else J_X7_nameStands_45 h x0) else J_X7_nameStands_45 h x0) else J_X7_nameStands_45 h x0) else J_X7_nameStands_45 h x0) else J_X7_nameStands_45 h x0)
set_option maxHeartbeats 4000000 in
set_option maxRecDepth 100000 in
theorem go_X7_nameStands {Γ : Cx} (hO : Ok Γ mX7_nameStands) (h : Hp) (x0 : Nat) (hx0 : Is x0 7) {K : Hp × Int32 → Prop} (hR : ∀ r, K r → emHI r = tgt Γ) : EG Γ mX7_nameStands 0 [(0, rf Γ x0)] [] h (F_X7_nameStands h x0) K := by
  unfold F_X7_nameStands
  refine x_aload_n hO 0 rfl rfl dX7_nameStands_0 ?_
  refine x_ldcS hO sr_RX7_61 dX7_nameStands_1 ?_
  refine y_PI (x_callV hO lv_RX7_63 hx0 vc_7 (by decide) (As := [sf Γ 0]) rfl (Nat.le_of_ble_eq_true rfl) (ok_X7_isWord (cG Γ) h x0 0 hx0 ((by decide))) dX7_nameStands_3 rfl (Nat.le_of_ble_eq_true rfl)) (fun r1 => ?_)
  refine x_if_ne hO (tg := 45) dX7_nameStands_6 (by decide) ?_ ?_
  · exact x_sub [0] rfl (go_X7_nameStands_J45 hO h x0 hx0 hR)
  · refine x_aload_n hO 0 rfl rfl dX7_nameStands_9 ?_
    refine x_ldcS hO sr_RX7_67 dX7_nameStands_10 ?_
    refine y_PI (x_callV hO lv_RX7_63 hx0 vc_7 (by decide) (As := [sf Γ 1]) rfl (Nat.le_of_ble_eq_true rfl) (ok_X7_isWord (cG Γ) h x0 1 hx0 ((by decide))) dX7_nameStands_12 rfl (Nat.le_of_ble_eq_true rfl)) (fun r2 => ?_)
    refine x_if_ne hO (tg := 45) dX7_nameStands_15 (by decide) ?_ ?_
    · exact x_sub [0] rfl (go_X7_nameStands_J45 hO h x0 hx0 hR)
    · refine x_aload_n hO 0 rfl rfl dX7_nameStands_18 ?_
      refine x_ldcS hO sr_RX7_69 dX7_nameStands_19 ?_
      refine y_PI (x_callV hO lv_RX7_63 hx0 vc_7 (by decide) (As := [sf Γ 2]) rfl (Nat.le_of_ble_eq_true rfl) (ok_X7_isWord (cG Γ) h x0 2 hx0 ((by decide))) dX7_nameStands_21 rfl (Nat.le_of_ble_eq_true rfl)) (fun r3 => ?_)
      refine x_if_ne hO (tg := 45) dX7_nameStands_24 (by decide) ?_ ?_
      · exact x_sub [0] rfl (go_X7_nameStands_J45 hO h x0 hx0 hR)
      · refine x_aload_n hO 0 rfl rfl dX7_nameStands_27 ?_
        refine x_ldcS hO sr_RX7_71 dX7_nameStands_28 ?_
        refine y_PI (x_callV hO lv_RX7_63 hx0 vc_7 (by decide) (As := [sf Γ 3]) rfl (Nat.le_of_ble_eq_true rfl) (ok_X7_isWord (cG Γ) h x0 3 hx0 ((by decide))) dX7_nameStands_30 rfl (Nat.le_of_ble_eq_true rfl)) (fun r4 => ?_)
        refine x_if_ne hO (tg := 45) dX7_nameStands_33 (by decide) ?_ ?_
        · exact x_sub [0] rfl (go_X7_nameStands_J45 hO h x0 hx0 hR)
        · refine x_aload_n hO 0 rfl rfl dX7_nameStands_36 ?_
          refine x_ldcS hO sr_RX7_73 dX7_nameStands_37 ?_
          refine y_PI (x_callV hO lv_RX7_63 hx0 vc_7 (by decide) (As := [sf Γ 4]) rfl (Nat.le_of_ble_eq_true rfl) (ok_X7_isWord (cG Γ) h x0 4 hx0 ((by decide))) dX7_nameStands_39 rfl (Nat.le_of_ble_eq_true rfl)) (fun r5 => ?_)
          refine x_if_eq hO (tg := 49) dX7_nameStands_42 (by decide) ?_ ?_
          · refine x_iconst hO (v := 0) (by decide) dX7_nameStands_49 ?_
            exact x_sub [0] rfl (go_X7_nameStands_J50 hO h x0 ((0 : Int32)) hx0 hR)
          · exact x_sub [0] rfl (go_X7_nameStands_J45 hO h x0 hx0 hR)
theorem ok_X7_nameStands (G : Gl) (h : Hp) (x0 : Nat) (hx0 : Is x0 7) : CN G mX7_nameStands [.ref (gb G + x0)] h ((F_X7_nameStands h x0).map (emHI)) := CN.fn pn_RX7 (Nat.le_of_ble_eq_true rfl) (fun Γ hG hO => by subst hG; exact go_X7_nameStands hO h x0 hx0 (fun _ q => q))
noncomputable def F_X7_takeWord (h : Hp) (x0 : Nat) (x1 : Nat) : Option (Hp × Int32) :=
  (F_X7_isWord h x0 x1).bind (fun r1 => if r1 = 0 then (F_X7_misplaced h x0).bind (fun r3 => (F_X7_tell h x0 r3).bind (fun r4 => some ((r4.1, r4.2 &&& 1)))) else (F_X7_advance h x0).bind (fun r2 => some ((r2, (1 : Int32)))))
set_option maxHeartbeats 4000000 in
set_option maxRecDepth 100000 in
theorem go_X7_takeWord {Γ : Cx} (hO : Ok Γ mX7_takeWord) (h : Hp) (x0 : Nat) (x1 : Nat) (hx0 : Is x0 7) (hx1 : x1 < NS) {K : Hp × Int32 → Prop} (hR : ∀ r, K r → emHI r = tgt Γ) : EG Γ mX7_takeWord 0 [(0, rf Γ x0), (1, sf Γ x1)] [] h (F_X7_takeWord h x0 x1) K := by
  unfold F_X7_takeWord
  refine x_aload_n hO 0 rfl rfl dX7_takeWord_0 ?_
  refine x_aload_n hO 1 rfl rfl dX7_takeWord_1 ?_
  refine y_PI (x_callV hO lv_RX7_63 hx0 vc_7 (by decide) (As := [sf Γ x1]) rfl (Nat.le_of_ble_eq_true rfl) (ok_X7_isWord (cG Γ) h x0 x1 hx0 hx1) dX7_takeWord_2 rfl (Nat.le_of_ble_eq_true rfl)) (fun r1 => ?_)
  refine x_if_ne hO (tg := 17) dX7_takeWord_5 (by decide) ?_ ?_
  · refine x_aload_n hO 0 rfl rfl dX7_takeWord_17 ?_
    refine y_HV (x_callV hO lv_RX7_40 hx0 vc_7 (by decide) (As := []) rfl (Nat.le_of_ble_eq_true rfl) (ok_X7_advance (cG Γ) h x0 hx0) dX7_takeWord_18 rfl (Nat.le_of_ble_eq_true rfl)) (fun r2 => ?_)
    refine x_iconst hO (v := 1) (by decide) dX7_takeWord_21 ?_
    exact x_zretv hO rfl (by decide) dX7_takeWord_22 (hR _)
  · refine x_aload_n hO 0 rfl rfl dX7_takeWord_8 ?_
    refine x_aload_n hO 0 rfl rfl dX7_takeWord_9 ?_
    refine y_PI (x_callV hO lv_RX7_75 hx0 vc_7 (by decide) (As := []) rfl (Nat.le_of_ble_eq_true rfl) (ok_X7_misplaced (cG Γ) h x0 hx0) dX7_takeWord_10 rfl (Nat.le_of_ble_eq_true rfl)) (fun r3 => ?_)
    refine y_HI (x_callV hO lv_RX7_78 hx0 vc_7 (by decide) (As := [.int r3]) rfl (Nat.le_of_ble_eq_true rfl) (ok_X7_tell (cG Γ) h x0 r3 hx0) dX7_takeWord_13 rfl (Nat.le_of_ble_eq_true rfl)) (fun r4 => ?_)
    exact x_zret hO rfl dX7_takeWord_16 (hR _)
theorem ok_X7_takeWord (G : Gl) (h : Hp) (x0 : Nat) (x1 : Nat) (hx0 : Is x0 7) (hx1 : x1 < NS) : CN G mX7_takeWord [.ref (gb G + x0), .ref (gk G x1)] h ((F_X7_takeWord h x0 x1).map (emHI)) := CN.fn pn_RX7 (Nat.le_of_ble_eq_true rfl) (fun Γ hG hO => by subst hG; exact go_X7_takeWord hO h x0 x1 hx0 hx1 (fun _ q => q))
noncomputable def F_X8_kindHere (h : Hp) (x0 : Nat) : Option (Int32) :=
  (F_X7_isWord h (GR x0 0) 6).bind (fun r1 => if r1 = 0 then (F_X7_isWord h (GR x0 0) 7).bind (fun r2 => if r2 = 0 then (F_X7_isWord h (GR x0 0) 8).bind (fun r3 => if r3 = 0 then (F_X7_isWord h (GR x0 0) 9).bind (fun r4 => if r4 = 0 then (F_X7_isWord h (GR x0 0) 10).bind (fun r5 => if r5 = 0 then (F_X7_isWord h (GR x0 0) 11).bind (fun r6 => if r6 = 0 then (F_X7_isWord h (GR x0 0) 12).bind (fun r7 => if r7 = 0 then some ((-1 : Int32)) else some ((6 : Int32))) else some ((5 : Int32))) else some ((4 : Int32))) else some ((3 : Int32))) else some ((2 : Int32))) else some ((1 : Int32))) else some ((0 : Int32)))
set_option maxHeartbeats 4000000 in
set_option maxRecDepth 100000 in
theorem go_X8_kindHere {Γ : Cx} (hO : Ok Γ mX8_kindHere) (h : Hp) (x0 : Nat) (hx0 : Is x0 8) {K : Int32 → Prop} (hR : ∀ r, K r → emPI h r = tgt Γ) : EG Γ mX8_kindHere 0 [(0, rf Γ x0)] [] h (F_X8_kindHere h x0) K := by
  unfold F_X8_kindHere
  refine x_aload_n hO 0 rfl rfl dX8_kindHere_0 ?_
  refine x_getR hO fl_RX8_12 hx0 dX8_kindHere_1 ?_
  refine x_ldcS hO sr_RX8_99 dX8_kindHere_4 ?_
  refine y_PI (x_callV hO lv_RX8_52 (gr_8_0 hx0) vc_7 (by decide) (As := [sf Γ 6]) rfl (Nat.le_of_ble_eq_true rfl) (ok_X7_isWord (cG Γ) h (GR x0 0) 6 (gr_8_0 hx0) ((by decide))) dX8_kindHere_6 rfl (Nat.le_of_ble_eq_true rfl)) (fun r1 => ?_)
  refine x_if_eq hO (tg := 14) dX8_kindHere_9 (by decide) ?_ ?_
  · refine x_aload_n hO 0 rfl rfl dX8_kindHere_14 ?_
    refine x_getR hO fl_RX8_12 hx0 dX8_kindHere_15 ?_
    refine x_ldcS hO sr_RX8_101 dX8_kindHere_18 ?_
    refine y_PI (x_callV hO lv_RX8_52 (gr_8_0 hx0) vc_7 (by decide) (As := [sf Γ 7]) rfl (Nat.le_of_ble_eq_true rfl) (ok_X7_isWord (cG Γ) h (GR x0 0) 7 (gr_8_0 hx0) ((by decide))) dX8_kindHere_20 rfl (Nat.le_of_ble_eq_true rfl)) (fun r2 => ?_)
    refine x_if_eq hO (tg := 28) dX8_kindHere_23 (by decide) ?_ ?_
    · refine x_aload_n hO 0 rfl rfl dX8_kindHere_28 ?_
      refine x_getR hO fl_RX8_12 hx0 dX8_kindHere_29 ?_
      refine x_ldcS hO sr_RX8_103 dX8_kindHere_32 ?_
      refine y_PI (x_callV hO lv_RX8_52 (gr_8_0 hx0) vc_7 (by decide) (As := [sf Γ 8]) rfl (Nat.le_of_ble_eq_true rfl) (ok_X7_isWord (cG Γ) h (GR x0 0) 8 (gr_8_0 hx0) ((by decide))) dX8_kindHere_34 rfl (Nat.le_of_ble_eq_true rfl)) (fun r3 => ?_)
      refine x_if_eq hO (tg := 42) dX8_kindHere_37 (by decide) ?_ ?_
      · refine x_aload_n hO 0 rfl rfl dX8_kindHere_42 ?_
        refine x_getR hO fl_RX8_12 hx0 dX8_kindHere_43 ?_
        refine x_ldcS hO sr_RX8_105 dX8_kindHere_46 ?_
        refine y_PI (x_callV hO lv_RX8_52 (gr_8_0 hx0) vc_7 (by decide) (As := [sf Γ 9]) rfl (Nat.le_of_ble_eq_true rfl) (ok_X7_isWord (cG Γ) h (GR x0 0) 9 (gr_8_0 hx0) ((by decide))) dX8_kindHere_48 rfl (Nat.le_of_ble_eq_true rfl)) (fun r4 => ?_)
        refine x_if_eq hO (tg := 56) dX8_kindHere_51 (by decide) ?_ ?_
        · refine x_aload_n hO 0 rfl rfl dX8_kindHere_56 ?_
          refine x_getR hO fl_RX8_12 hx0 dX8_kindHere_57 ?_
          refine x_ldcS hO sr_RX8_107 dX8_kindHere_60 ?_
          refine y_PI (x_callV hO lv_RX8_52 (gr_8_0 hx0) vc_7 (by decide) (As := [sf Γ 10]) rfl (Nat.le_of_ble_eq_true rfl) (ok_X7_isWord (cG Γ) h (GR x0 0) 10 (gr_8_0 hx0) ((by decide))) dX8_kindHere_62 rfl (Nat.le_of_ble_eq_true rfl)) (fun r5 => ?_)
          refine x_if_eq hO (tg := 70) dX8_kindHere_65 (by decide) ?_ ?_
          · refine x_aload_n hO 0 rfl rfl dX8_kindHere_70 ?_
            refine x_getR hO fl_RX8_12 hx0 dX8_kindHere_71 ?_
            refine x_ldcS hO sr_RX8_109 dX8_kindHere_74 ?_
            refine y_PI (x_callV hO lv_RX8_52 (gr_8_0 hx0) vc_7 (by decide) (As := [sf Γ 11]) rfl (Nat.le_of_ble_eq_true rfl) (ok_X7_isWord (cG Γ) h (GR x0 0) 11 (gr_8_0 hx0) ((by decide))) dX8_kindHere_76 rfl (Nat.le_of_ble_eq_true rfl)) (fun r6 => ?_)
            refine x_if_eq hO (tg := 84) dX8_kindHere_79 (by decide) ?_ ?_
            · refine x_aload_n hO 0 rfl rfl dX8_kindHere_84 ?_
              refine x_getR hO fl_RX8_12 hx0 dX8_kindHere_85 ?_
              refine x_ldcS hO sr_RX8_111 dX8_kindHere_88 ?_
              refine y_PI (x_callV hO lv_RX8_52 (gr_8_0 hx0) vc_7 (by decide) (As := [sf Γ 12]) rfl (Nat.le_of_ble_eq_true rfl) (ok_X7_isWord (cG Γ) h (GR x0 0) 12 (gr_8_0 hx0) ((by decide))) dX8_kindHere_90 rfl (Nat.le_of_ble_eq_true rfl)) (fun r7 => ?_)
              refine x_if_eq hO (tg := 101) dX8_kindHere_93 (by decide) ?_ ?_
              · refine x_iconst hO (v := -1) (by decide) dX8_kindHere_101 ?_
                exact x_iret hO rfl dX8_kindHere_102 (hR _)
              · refine x_bipush hO (v := 6) (by decide) dX8_kindHere_96 ?_
                refine x_goto hO (tg := 102) dX8_kindHere_98 (by decide) ?_
                exact x_iret hO rfl dX8_kindHere_102 (hR _)
            · refine x_iconst hO (v := 5) (by decide) dX8_kindHere_82 ?_
              exact x_iret hO rfl dX8_kindHere_83 (hR _)
          · refine x_iconst hO (v := 4) (by decide) dX8_kindHere_68 ?_
            exact x_iret hO rfl dX8_kindHere_69 (hR _)
        · refine x_iconst hO (v := 3) (by decide) dX8_kindHere_54 ?_
          exact x_iret hO rfl dX8_kindHere_55 (hR _)
      · refine x_iconst hO (v := 2) (by decide) dX8_kindHere_40 ?_
        exact x_iret hO rfl dX8_kindHere_41 (hR _)
    · refine x_iconst hO (v := 1) (by decide) dX8_kindHere_26 ?_
      exact x_iret hO rfl dX8_kindHere_27 (hR _)
  · refine x_iconst hO (v := 0) (by decide) dX8_kindHere_12 ?_
    exact x_iret hO rfl dX8_kindHere_13 (hR _)
theorem ok_X8_kindHere (G : Gl) (h : Hp) (x0 : Nat) (hx0 : Is x0 8) : CN G mX8_kindHere [.ref (gb G + x0)] h ((F_X8_kindHere h x0).map (emPI h)) := CN.fn pn_RX8 (Nat.le_of_ble_eq_true rfl) (fun Γ hG hO => by subst hG; exact go_X8_kindHere hO h x0 hx0 (fun _ q => q))
noncomputable def F_X8_readStops (h : Hp) (x0 : Nat) : Option (Hp × Int32) :=
  (F_X7_isWord h (GR x0 0) 13).bind (fun r1 => if r1 = 0 then some ((h, (1 : Int32))) else (F_X7_advance (uI h x0 5 ((1 : Int32))) (GR x0 0)).bind (fun r2 => some ((r2, (1 : Int32)))))
set_option maxHeartbeats 4000000 in
set_option maxRecDepth 100000 in
theorem go_X8_readStops {Γ : Cx} (hO : Ok Γ mX8_readStops) (h : Hp) (x0 : Nat) (hx0 : Is x0 8) {K : Hp × Int32 → Prop} (hR : ∀ r, K r → emHI r = tgt Γ) : EG Γ mX8_readStops 0 [(0, rf Γ x0)] [] h (F_X8_readStops h x0) K := by
  unfold F_X8_readStops
  refine x_aload_n hO 0 rfl rfl dX8_readStops_0 ?_
  refine x_getR hO fl_RX8_12 hx0 dX8_readStops_1 ?_
  refine x_ldcS hO sr_RX8_135 dX8_readStops_4 ?_
  refine y_PI (x_callV hO lv_RX8_52 (gr_8_0 hx0) vc_7 (by decide) (As := [sf Γ 13]) rfl (Nat.le_of_ble_eq_true rfl) (ok_X7_isWord (cG Γ) h (GR x0 0) 13 (gr_8_0 hx0) ((by decide))) dX8_readStops_6 rfl (Nat.le_of_ble_eq_true rfl)) (fun r1 => ?_)
  refine x_if_eq hO (tg := 24) dX8_readStops_9 (by decide) ?_ ?_
  · refine x_iconst hO (v := 1) (by decide) dX8_readStops_24 ?_
    exact x_zretv hO rfl (by decide) dX8_readStops_25 (hR _)
  · refine x_aload_n hO 0 rfl rfl dX8_readStops_12 ?_
    refine x_iconst hO (v := 1) (by decide) dX8_readStops_13 ?_
    refine x_putI hO fl_RX8_36 hx0 dX8_readStops_14 ?_
    refine x_aload_n hO 0 rfl rfl dX8_readStops_17 ?_
    refine x_getR hO fl_RX8_12 hx0 dX8_readStops_18 ?_
    refine y_HV (x_callV hO lv_RX8_73 (gr_8_0 hx0) vc_7 (by decide) (As := []) rfl (Nat.le_of_ble_eq_true rfl) (ok_X7_advance (cG Γ) (uI h x0 5 ((1 : Int32))) (GR x0 0) (gr_8_0 hx0)) dX8_readStops_21 rfl (Nat.le_of_ble_eq_true rfl)) (fun r2 => ?_)
    refine x_iconst hO (v := 1) (by decide) dX8_readStops_24 ?_
    exact x_zretv hO rfl (by decide) dX8_readStops_25 (hR _)
theorem ok_X8_readStops (G : Gl) (h : Hp) (x0 : Nat) (hx0 : Is x0 8) : CN G mX8_readStops [.ref (gb G + x0)] h ((F_X8_readStops h x0).map (emHI)) := CN.fn pn_RX8 (Nat.le_of_ble_eq_true rfl) (fun Γ hG hO => by subst hG; exact go_X8_readStops hO h x0 hx0 (fun _ q => q))
noncomputable def F_X12_aCode (h : Hp) (x0 : Nat) : Option (Hp × Int32) :=
  gd (ib ((3202 : Int32)) (LEN (GR x0 0))) (if (hI h (GR x0 0) (nx ((3202 : Int32)))) = ((4 : Int32)) then (F_X12_fails h x0 ((6 : Int32))).bind (fun r13 => some ((r13.1, r13.2 &&& 1))) else (F_X12_ahead h x0).bind (fun r1 => (F_X12_isName r1 x0).bind (fun r2 => if r2 = 0 then (F_X12_fails r1 x0 ((2 : Int32))).bind (fun r12 => some ((r12.1, r12.2 &&& 1))) else (F_X12_nameHere r1 x0).bind (fun r3 => (F_X12_find r1 (GR x0 18) (hI h (GR x0 0) (nx ((3202 : Int32)))) r3).bind (fun r4 => if r4 = ((-1 : Int32)) then (F_X12_nameHere r1 x0).bind (fun r5 => gd (ib (hI h (GR x0 0) (nx ((3202 : Int32)))) (LEN (GR x0 18))) ((F_X12_ahead (uL r1 (GR x0 18) (nx (hI h (GR x0 0) (nx ((3202 : Int32))))) r5) x0).bind (fun r6 => (F_X12_inWords r6 x0 14).bind (fun r7 => if r7 = ((3 : Int32)) then (F_X12_ahead r6 x0).bind (fun r8 => gd (ib ((3202 : Int32)) (LEN (GR x0 0))) (gd (ib ((3202 : Int32)) (LEN (GR x0 0))) ((F_X12_number (uI r8 (GR x0 0) (nx ((3202 : Int32))) ((hI r8 (GR x0 0) (nx ((3202 : Int32)))) + ((1 : Int32)))) x0 (((3568 : Int32)) + (hI h (GR x0 0) (nx ((3202 : Int32))))) ((0 : Int32)) ((99 : Int32))).bind (fun r9 => some ((r9.1, r9.2 &&& 1)))))) else (F_X12_fails r6 x0 ((2 : Int32))).bind (fun r10 => some ((r10.1, r10.2 &&& 1))))))) else (F_X12_fails r1 x0 ((3 : Int32))).bind (fun r11 => some ((r11.1, r11.2 &&& 1))))))))
set_option maxHeartbeats 4000000 in
set_option maxRecDepth 100000 in
theorem go_X12_aCode {Γ : Cx} (hO : Ok Γ mX12_aCode) (h : Hp) (x0 : Nat) (hx0 : Is x0 12) {K : Hp × Int32 → Prop} (hR : ∀ r, K r → emHI r = tgt Γ) : EG Γ mX12_aCode 0 [(0, rf Γ x0)] [] h (F_X12_aCode h x0) K := by
  unfold F_X12_aCode
  refine x_aload_n hO 0 rfl rfl dX12_aCode_0 ?_
  refine x_getR hO fl_RX12_7 hx0 dX12_aCode_1 ?_
  refine x_sipush hO (v := 3202) (by decide) dX12_aCode_4 ?_
  refine x_iald hO (gr_12_0 hx0) dX12_aCode_7 ?_
  refine x_istore_n hO rfl [(1, .int (hI h (GR x0 0) (nx ((3202 : Int32))))), (0, rf Γ x0)] dX12_aCode_8 (by decide) rfl ?_
  refine x_iload_n hO 0 rfl rfl dX12_aCode_9 ?_
  refine x_iconst hO (v := 4) (by decide) dX12_aCode_10 ?_
  refine x_icmp_ne hO (tg := 21) dX12_aCode_11 (by decide) ?_ ?_
  · refine x_aload_n hO 1 rfl rfl dX12_aCode_21 ?_
    refine y_HV (x_callV hO lv_RX12_210 hx0 vc_12 (by decide) (As := []) rfl (Nat.le_of_ble_eq_true rfl) (ok_X12_ahead (cG Γ) h x0 hx0) dX12_aCode_22 rfl (Nat.le_of_ble_eq_true rfl)) (fun r1 => ?_)
    refine x_aload_n hO 1 rfl rfl dX12_aCode_25 ?_
    refine y_PI (x_callV hO lv_RX12_222 hx0 vc_12 (by decide) (As := []) rfl (Nat.le_of_ble_eq_true rfl) (ok_X12_isName (cG Γ) r1 x0 hx0) dX12_aCode_26 rfl (Nat.le_of_ble_eq_true rfl)) (fun r2 => ?_)
    refine x_if_ne hO (tg := 38) dX12_aCode_29 (by decide) ?_ ?_
    · refine x_aload_n hO 1 rfl rfl dX12_aCode_38 ?_
      refine x_getR hO fl_RX12_41 hx0 dX12_aCode_39 ?_
      refine x_iload_n hO 0 rfl rfl dX12_aCode_42 ?_
      refine x_aload_n hO 1 rfl rfl dX12_aCode_43 ?_
      refine y_PL (x_callV hO lv_RX12_226 hx0 vc_12 (by decide) (As := []) rfl (Nat.le_of_ble_eq_true rfl) (ok_X12_nameHere (cG Γ) r1 x0 hx0) dX12_aCode_44 rfl (Nat.le_of_ble_eq_true rfl)) (fun r3 => ?_)
      refine y_PI (x_callS hO lt_RX12_230 (As := [rf Γ (GR x0 18), .int (hI h (GR x0 0) (nx ((3202 : Int32)))), .long r3]) rfl (Nat.le_of_ble_eq_true rfl) (ok_X12_find (cG Γ) r1 (GR x0 18) (hI h (GR x0 0) (nx ((3202 : Int32)))) r3 (gr_12_18 hx0)) dX12_aCode_47 rfl (Nat.le_of_ble_eq_true rfl)) (fun r4 => ?_)
      refine x_iconst hO (v := -1) (by decide) dX12_aCode_50 ?_
      refine x_icmp_eq hO (tg := 60) dX12_aCode_51 (by decide) ?_ ?_
      · refine x_aload_n hO 1 rfl rfl dX12_aCode_60 ?_
        refine x_getR hO fl_RX12_41 hx0 dX12_aCode_61 ?_
        refine x_iload_n hO 0 rfl rfl dX12_aCode_64 ?_
        refine x_aload_n hO 1 rfl rfl dX12_aCode_65 ?_
        refine y_PL (x_callV hO lv_RX12_226 hx0 vc_12 (by decide) (As := []) rfl (Nat.le_of_ble_eq_true rfl) (ok_X12_nameHere (cG Γ) r1 x0 hx0) dX12_aCode_66 rfl (Nat.le_of_ble_eq_true rfl)) (fun r5 => ?_)
        refine x_last hO (gr_12_18 hx0) dX12_aCode_69 ?_
        refine x_aload_n hO 1 rfl rfl dX12_aCode_70 ?_
        refine y_HV (x_callV hO lv_RX12_210 hx0 vc_12 (by decide) (As := []) rfl (Nat.le_of_ble_eq_true rfl) (ok_X12_ahead (cG Γ) (uL r1 (GR x0 18) (nx (hI h (GR x0 0) (nx ((3202 : Int32))))) r5) x0 hx0) dX12_aCode_71 rfl (Nat.le_of_ble_eq_true rfl)) (fun r6 => ?_)
        refine x_aload_n hO 1 rfl rfl dX12_aCode_74 ?_
        refine x_ldcS hO sr_RX12_216 dX12_aCode_75 ?_
        refine y_PI (x_callV hO lv_RX12_218 hx0 vc_12 (by decide) (As := [sf Γ 14]) rfl (Nat.le_of_ble_eq_true rfl) (ok_X12_inWords (cG Γ) r6 x0 14 hx0 ((by decide))) dX12_aCode_77 rfl (Nat.le_of_ble_eq_true rfl)) (fun r7 => ?_)
        refine x_iconst hO (v := 3) (by decide) dX12_aCode_80 ?_
        refine x_icmp_eq hO (tg := 90) dX12_aCode_81 (by decide) ?_ ?_
        · refine x_aload_n hO 1 rfl rfl dX12_aCode_90 ?_
          refine y_HV (x_callV hO lv_RX12_210 hx0 vc_12 (by decide) (As := []) rfl (Nat.le_of_ble_eq_true rfl) (ok_X12_ahead (cG Γ) r6 x0 hx0) dX12_aCode_91 rfl (Nat.le_of_ble_eq_true rfl)) (fun r8 => ?_)
          refine x_aload_n hO 1 rfl rfl dX12_aCode_94 ?_
          refine x_getR hO fl_RX12_7 hx0 dX12_aCode_95 ?_
          refine x_sipush hO (v := 3202) (by decide) dX12_aCode_98 ?_
          refine x_dup2_ri hO dX12_aCode_101 ?_
          refine x_iald hO (gr_12_0 hx0) dX12_aCode_102 ?_
          refine x_iconst hO (v := 1) (by decide) dX12_aCode_103 ?_
          refine x_iadd hO dX12_aCode_104 ?_
          refine x_iast hO (gr_12_0 hx0) dX12_aCode_105 ?_
          refine x_aload_n hO 1 rfl rfl dX12_aCode_106 ?_
          refine x_sipush hO (v := 3568) (by decide) dX12_aCode_107 ?_
          refine x_iload_n hO 0 rfl rfl dX12_aCode_110 ?_
          refine x_iadd hO dX12_aCode_111 ?_
          refine x_iconst hO (v := 0) (by decide) dX12_aCode_112 ?_
          refine x_bipush hO (v := 99) (by decide) dX12_aCode_113 ?_
          refine y_HI (x_callV hO lv_RX12_234 hx0 vc_12 (by decide) (As := [.int (((3568 : Int32)) + (hI h (GR x0 0) (nx ((3202 : Int32))))), .int ((0 : Int32)), .int ((99 : Int32))]) rfl (Nat.le_of_ble_eq_true rfl) (ok_X12_number (cG Γ) (uI r8 (GR x0 0) (nx ((3202 : Int32))) ((hI r8 (GR x0 0) (nx ((3202 : Int32)))) + ((1 : Int32)))) x0 (((3568 : Int32)) + (hI h (GR x0 0) (nx ((3202 : Int32))))) ((0 : Int32)) ((99 : Int32)) hx0) dX12_aCode_115 rfl (Nat.le_of_ble_eq_true rfl)) (fun r9 => ?_)
          exact x_zret hO rfl dX12_aCode_118 (hR _)
        · refine x_aload_n hO 1 rfl rfl dX12_aCode_84 ?_
          refine x_iconst hO (v := 2) (by decide) dX12_aCode_85 ?_
          refine y_HI (x_callV hO lv_RX12_213 hx0 vc_12 (by decide) (As := [.int ((2 : Int32))]) rfl (Nat.le_of_ble_eq_true rfl) (ok_X12_fails (cG Γ) r6 x0 ((2 : Int32)) hx0) dX12_aCode_86 rfl (Nat.le_of_ble_eq_true rfl)) (fun r10 => ?_)
          exact x_zret hO rfl dX12_aCode_89 (hR _)
      · refine x_aload_n hO 1 rfl rfl dX12_aCode_54 ?_
        refine x_iconst hO (v := 3) (by decide) dX12_aCode_55 ?_
        refine y_HI (x_callV hO lv_RX12_213 hx0 vc_12 (by decide) (As := [.int ((3 : Int32))]) rfl (Nat.le_of_ble_eq_true rfl) (ok_X12_fails (cG Γ) r1 x0 ((3 : Int32)) hx0) dX12_aCode_56 rfl (Nat.le_of_ble_eq_true rfl)) (fun r11 => ?_)
        exact x_zret hO rfl dX12_aCode_59 (hR _)
    · refine x_aload_n hO 1 rfl rfl dX12_aCode_32 ?_
      refine x_iconst hO (v := 2) (by decide) dX12_aCode_33 ?_
      refine y_HI (x_callV hO lv_RX12_213 hx0 vc_12 (by decide) (As := [.int ((2 : Int32))]) rfl (Nat.le_of_ble_eq_true rfl) (ok_X12_fails (cG Γ) r1 x0 ((2 : Int32)) hx0) dX12_aCode_34 rfl (Nat.le_of_ble_eq_true rfl)) (fun r12 => ?_)
      exact x_zret hO rfl dX12_aCode_37 (hR _)
  · refine x_aload_n hO 1 rfl rfl dX12_aCode_14 ?_
    refine x_bipush hO (v := 6) (by decide) dX12_aCode_15 ?_
    refine y_HI (x_callV hO lv_RX12_213 hx0 vc_12 (by decide) (As := [.int ((6 : Int32))]) rfl (Nat.le_of_ble_eq_true rfl) (ok_X12_fails (cG Γ) h x0 ((6 : Int32)) hx0) dX12_aCode_17 rfl (Nat.le_of_ble_eq_true rfl)) (fun r13 => ?_)
    exact x_zret hO rfl dX12_aCode_20 (hR _)
theorem ok_X12_aCode (G : Gl) (h : Hp) (x0 : Nat) (hx0 : Is x0 12) : CN G mX12_aCode [.ref (gb G + x0)] h ((F_X12_aCode h x0).map (emHI)) := CN.fn pn_RX12 (Nat.le_of_ble_eq_true rfl) (fun Γ hG hO => by subst hG; exact go_X12_aCode hO h x0 hx0 (fun _ q => q))
noncomputable def B_X12_aJoin_30 (h : Hp) (x0 : Nat) (x1 : Int32) (x2 : Int32) (x3 : Int32) : Option ((Hp × Int32 × Int32) ⊕ (Hp × Int32)) :=
  if ((2 : Int32)) ≤ x3 then gd (ib ((3204 : Int32)) (LEN (GR x0 0))) (gd (ib ((3204 : Int32)) (LEN (GR x0 0))) (some (.inr ((uI h (GR x0 0) (nx ((3204 : Int32))) ((hI h (GR x0 0) (nx ((3204 : Int32)))) + ((1 : Int32))), (1 : Int32)))))) else (F_X12_isName h x0).bind (fun r1 => if r1 = 0 then (F_X12_fails h x0 ((2 : Int32))).bind (fun r10 => some (.inr ((r10.1, r10.2 &&& 1)))) else gd (ib ((3203 : Int32)) (LEN (GR x0 0))) ((F_X12_nameHere h x0).bind (fun r2 => (F_X12_find h (GR x0 19) (hI h (GR x0 0) (nx ((3203 : Int32)))) r2).bind (fun r3 => if r3 = ((-1 : Int32)) then (F_X12_fails h x0 ((3 : Int32))).bind (fun r9 => some (.inr ((r9.1, r9.2 &&& 1)))) else gd (ib ((((3612 : Int32)) + (((2 : Int32)) * x1)) + x3) (LEN (GR x0 0))) (if x3 = ((1 : Int32)) then gd (ib (((3572 : Int32)) + (((2 : Int32)) * r3)) (LEN (GR x0 0))) (gd (ib (((3572 : Int32)) + (((2 : Int32)) * x2)) (LEN (GR x0 0))) (if (hI (uI h (GR x0 0) (nx ((((3612 : Int32)) + (((2 : Int32)) * x1)) + x3)) r3) (GR x0 0) (nx (((3572 : Int32)) + (((2 : Int32)) * r3)))) = (hI (uI h (GR x0 0) (nx ((((3612 : Int32)) + (((2 : Int32)) * x1)) + x3)) r3) (GR x0 0) (nx (((3572 : Int32)) + (((2 : Int32)) * x2)))) then (F_X12_fails (uI h (GR x0 0) (nx ((((3612 : Int32)) + (((2 : Int32)) * x1)) + x3)) r3) x0 ((5 : Int32))).bind (fun r5 => some (.inr ((r5.1, r5.2 &&& 1)))) else gd (ib (((3572 : Int32)) + (((2 : Int32)) * r3)) (LEN (GR x0 0))) ((F_X12_joinedIn (uI h (GR x0 0) (nx ((((3612 : Int32)) + (((2 : Int32)) * x1)) + x3)) r3) x0 ((3200 : Int32)) x2 (hI (uI h (GR x0 0) (nx ((((3612 : Int32)) + (((2 : Int32)) * x1)) + x3)) r3) (GR x0 0) (nx (((3572 : Int32)) + (((2 : Int32)) * r3))))).bind (fun r6 => if r6 = ((-1 : Int32)) then (F_X12_ahead (uI h (GR x0 0) (nx ((((3612 : Int32)) + (((2 : Int32)) * x1)) + x3)) r3) x0).bind (fun r7 => some (.inl (r7, r3, x3 + (1 : Int32)))) else (F_X12_fails (uI h (GR x0 0) (nx ((((3612 : Int32)) + (((2 : Int32)) * x1)) + x3)) r3) x0 ((5 : Int32))).bind (fun r8 => some (.inr ((r8.1, r8.2 &&& 1)))))))) else (F_X12_ahead (uI h (GR x0 0) (nx ((((3612 : Int32)) + (((2 : Int32)) * x1)) + x3)) r3) x0).bind (fun r4 => some (.inl (r4, r3, x3 + (1 : Int32)))))))))
noncomputable def L_X12_aJoin_30 (h : Hp) (x0 : Nat) (x1 : Int32) (x2 : Int32) (x3 : Int32) : Option (Hp × Int32) := iterW (fun s : Hp × Int32 × Int32 => B_X12_aJoin_30 s.1 x0 x1 s.2.1 s.2.2) (h, x2, x3)
set_option maxHeartbeats 4000000 in
set_option maxRecDepth 100000 in
theorem go_X12_aJoin_B30 {Γ : Cx} (hO : Ok Γ mX12_aJoin) (h : Hp) (x0 : Nat) (x1 : Int32) (x2 : Int32) (x3 : Int32) (hx0 : Is x0 12) {K : (Hp × Int32 × Int32) ⊕ (Hp × Int32) → Prop} (hC : ∀ (h : Hp) (x2 : Int32) (x3 : Int32), K (.inl (h, x2, x3)) → EW Γ mX12_aJoin 30 [(0, rf Γ x0), (1, .int x1), (2, .int x2), (3, .int x3)] [] h) (hR : ∀ r, K (.inr r) → emHI r = tgt Γ) : EG Γ mX12_aJoin 30 [(0, rf Γ x0), (1, .int x1), (2, .int x2), (3, .int x3)] [] h (B_X12_aJoin_30 h x0 x1 x2 x3) K := by
  unfold B_X12_aJoin_30
  refine x_iload_n hO 3 rfl rfl dX12_aJoin_30 ?_
  refine x_iconst hO (v := 2) (by decide) dX12_aJoin_31 ?_
  refine x_icmp_ge hO (tg := 174) dX12_aJoin_32 (by decide) ?_ ?_
  · refine x_aload_n hO 0 rfl rfl dX12_aJoin_174 ?_
    refine x_getR hO fl_RX12_7 hx0 dX12_aJoin_175 ?_
    refine x_sipush hO (v := 3204) (by decide) dX12_aJoin_178 ?_
    refine x_dup2_ri hO dX12_aJoin_181 ?_
    refine x_iald hO (gr_12_0 hx0) dX12_aJoin_182 ?_
    refine x_iconst hO (v := 1) (by decide) dX12_aJoin_183 ?_
    refine x_iadd hO dX12_aJoin_184 ?_
    refine x_iast hO (gr_12_0 hx0) dX12_aJoin_185 ?_
    refine x_iconst hO (v := 1) (by decide) dX12_aJoin_186 ?_
    exact x_zretv hO rfl (by decide) dX12_aJoin_187 (hR _)
  · refine x_aload_n hO 0 rfl rfl dX12_aJoin_35 ?_
    refine y_PI (x_callV hO lv_RX12_222 hx0 vc_12 (by decide) (As := []) rfl (Nat.le_of_ble_eq_true rfl) (ok_X12_isName (cG Γ) h x0 hx0) dX12_aJoin_36 rfl (Nat.le_of_ble_eq_true rfl)) (fun r1 => ?_)
    refine x_if_ne hO (tg := 48) dX12_aJoin_39 (by decide) ?_ ?_
    · refine x_aload_n hO 0 rfl rfl dX12_aJoin_48 ?_
      refine x_getR hO fl_RX12_44 hx0 dX12_aJoin_49 ?_
      refine x_aload_n hO 0 rfl rfl dX12_aJoin_52 ?_
      refine x_getR hO fl_RX12_7 hx0 dX12_aJoin_53 ?_
      refine x_sipush hO (v := 3203) (by decide) dX12_aJoin_56 ?_
      refine x_iald hO (gr_12_0 hx0) dX12_aJoin_59 ?_
      refine x_aload_n hO 0 rfl rfl dX12_aJoin_60 ?_
      refine y_PL (x_callV hO lv_RX12_226 hx0 vc_12 (by decide) (As := []) rfl (Nat.le_of_ble_eq_true rfl) (ok_X12_nameHere (cG Γ) h x0 hx0) dX12_aJoin_61 rfl (Nat.le_of_ble_eq_true rfl)) (fun r2 => ?_)
      refine y_PI (x_callS hO lt_RX12_230 (As := [rf Γ (GR x0 19), .int (hI h (GR x0 0) (nx ((3203 : Int32)))), .long r2]) rfl (Nat.le_of_ble_eq_true rfl) (ok_X12_find (cG Γ) h (GR x0 19) (hI h (GR x0 0) (nx ((3203 : Int32)))) r2 (gr_12_19 hx0)) dX12_aJoin_64 rfl (Nat.le_of_ble_eq_true rfl)) (fun r3 => ?_)
      refine x_istore hO [(4, .int r3), (0, rf Γ x0), (1, .int x1), (2, .int x2), (3, .int x3)] dX12_aJoin_67 (by decide) rfl ?_
      refine x_iload hO 0 rfl dX12_aJoin_69 ?_
      refine x_iconst hO (v := -1) (by decide) dX12_aJoin_71 ?_
      refine x_icmp_ne hO (tg := 81) dX12_aJoin_72 (by decide) ?_ ?_
      · refine x_aload_n hO 1 rfl rfl dX12_aJoin_81 ?_
        refine x_getR hO fl_RX12_7 hx0 dX12_aJoin_82 ?_
        refine x_sipush hO (v := 3612) (by decide) dX12_aJoin_85 ?_
        refine x_iconst hO (v := 2) (by decide) dX12_aJoin_88 ?_
        refine x_iload_n hO 2 rfl rfl dX12_aJoin_89 ?_
        refine x_imul hO dX12_aJoin_90 ?_
        refine x_iadd hO dX12_aJoin_91 ?_
        refine x_iload_n hO 4 rfl rfl dX12_aJoin_92 ?_
        refine x_iadd hO dX12_aJoin_93 ?_
        refine x_iload hO 0 rfl dX12_aJoin_94 ?_
        refine x_iast hO (gr_12_0 hx0) dX12_aJoin_96 ?_
        refine x_iload_n hO 4 rfl rfl dX12_aJoin_97 ?_
        refine x_iconst hO (v := 1) (by decide) dX12_aJoin_98 ?_
        refine x_icmp_ne hO (tg := 161) dX12_aJoin_99 (by decide) ?_ ?_
        · refine x_iload hO 0 rfl dX12_aJoin_161 ?_
          refine x_istore_n hO rfl [(2, .int r3), (4, .int r3), (0, rf Γ x0), (1, .int x1), (3, .int x3)] dX12_aJoin_163 (by decide) rfl ?_
          refine x_aload_n hO 2 rfl rfl dX12_aJoin_164 ?_
          refine y_HV (x_callV hO lv_RX12_210 hx0 vc_12 (by decide) (As := []) rfl (Nat.le_of_ble_eq_true rfl) (ok_X12_ahead (cG Γ) (uI h (GR x0 0) (nx ((((3612 : Int32)) + (((2 : Int32)) * x1)) + x3)) r3) x0 hx0) dX12_aJoin_165 rfl (Nat.le_of_ble_eq_true rfl)) (fun r4 => ?_)
          refine x_iinc hO 4 (v := 1) [(3, .int (x3 + (1 : Int32))), (2, .int r3), (4, .int r3), (0, rf Γ x0), (1, .int x1)] dX12_aJoin_168 rfl (by decide) (by decide) rfl ?_
          refine x_goto hO (tg := 30) dX12_aJoin_171 (by decide) ?_
          exact x_leafs [3, 4, 1, 0] rfl (hC r4 r3 (x3 + (1 : Int32)))
        · refine x_aload_n hO 1 rfl rfl dX12_aJoin_102 ?_
          refine x_getR hO fl_RX12_7 hx0 dX12_aJoin_103 ?_
          refine x_sipush hO (v := 3572) (by decide) dX12_aJoin_106 ?_
          refine x_iconst hO (v := 2) (by decide) dX12_aJoin_109 ?_
          refine x_iload hO 0 rfl dX12_aJoin_110 ?_
          refine x_imul hO dX12_aJoin_112 ?_
          refine x_iadd hO dX12_aJoin_113 ?_
          refine x_iald hO (gr_12_0 hx0) dX12_aJoin_114 ?_
          refine x_aload_n hO 1 rfl rfl dX12_aJoin_115 ?_
          refine x_getR hO fl_RX12_7 hx0 dX12_aJoin_116 ?_
          refine x_sipush hO (v := 3572) (by decide) dX12_aJoin_119 ?_
          refine x_iconst hO (v := 2) (by decide) dX12_aJoin_122 ?_
          refine x_iload_n hO 3 rfl rfl dX12_aJoin_123 ?_
          refine x_imul hO dX12_aJoin_124 ?_
          refine x_iadd hO dX12_aJoin_125 ?_
          refine x_iald hO (gr_12_0 hx0) dX12_aJoin_126 ?_
          refine x_icmp_eq hO (tg := 155) dX12_aJoin_127 (by decide) ?_ ?_
          · refine x_aload_n hO 1 rfl rfl dX12_aJoin_155 ?_
            refine x_iconst hO (v := 5) (by decide) dX12_aJoin_156 ?_
            refine y_HI (x_callV hO lv_RX12_213 hx0 vc_12 (by decide) (As := [.int ((5 : Int32))]) rfl (Nat.le_of_ble_eq_true rfl) (ok_X12_fails (cG Γ) (uI h (GR x0 0) (nx ((((3612 : Int32)) + (((2 : Int32)) * x1)) + x3)) r3) x0 ((5 : Int32)) hx0) dX12_aJoin_157 rfl (Nat.le_of_ble_eq_true rfl)) (fun r5 => ?_)
            exact x_zret hO rfl dX12_aJoin_160 (hR _)
          · refine x_aload_n hO 1 rfl rfl dX12_aJoin_130 ?_
            refine x_sipush hO (v := 3200) (by decide) dX12_aJoin_131 ?_
            refine x_iload_n hO 3 rfl rfl dX12_aJoin_134 ?_
            refine x_aload_n hO 1 rfl rfl dX12_aJoin_135 ?_
            refine x_getR hO fl_RX12_7 hx0 dX12_aJoin_136 ?_
            refine x_sipush hO (v := 3572) (by decide) dX12_aJoin_139 ?_
            refine x_iconst hO (v := 2) (by decide) dX12_aJoin_142 ?_
            refine x_iload hO 0 rfl dX12_aJoin_143 ?_
            refine x_imul hO dX12_aJoin_145 ?_
            refine x_iadd hO dX12_aJoin_146 ?_
            refine x_iald hO (gr_12_0 hx0) dX12_aJoin_147 ?_
            refine y_PI (x_callV hO lv_RX12_238 hx0 vc_12 (by decide) (As := [.int ((3200 : Int32)), .int x2, .int (hI (uI h (GR x0 0) (nx ((((3612 : Int32)) + (((2 : Int32)) * x1)) + x3)) r3) (GR x0 0) (nx (((3572 : Int32)) + (((2 : Int32)) * r3))))]) rfl (Nat.le_of_ble_eq_true rfl) (ok_X12_joinedIn (cG Γ) (uI h (GR x0 0) (nx ((((3612 : Int32)) + (((2 : Int32)) * x1)) + x3)) r3) x0 ((3200 : Int32)) x2 (hI (uI h (GR x0 0) (nx ((((3612 : Int32)) + (((2 : Int32)) * x1)) + x3)) r3) (GR x0 0) (nx (((3572 : Int32)) + (((2 : Int32)) * r3)))) hx0) dX12_aJoin_148 rfl (Nat.le_of_ble_eq_true rfl)) (fun r6 => ?_)
            refine x_iconst hO (v := -1) (by decide) dX12_aJoin_151 ?_
            refine x_icmp_eq hO (tg := 161) dX12_aJoin_152 (by decide) ?_ ?_
            · refine x_iload hO 0 rfl dX12_aJoin_161 ?_
              refine x_istore_n hO rfl [(2, .int r3), (4, .int r3), (0, rf Γ x0), (1, .int x1), (3, .int x3)] dX12_aJoin_163 (by decide) rfl ?_
              refine x_aload_n hO 2 rfl rfl dX12_aJoin_164 ?_
              refine y_HV (x_callV hO lv_RX12_210 hx0 vc_12 (by decide) (As := []) rfl (Nat.le_of_ble_eq_true rfl) (ok_X12_ahead (cG Γ) (uI h (GR x0 0) (nx ((((3612 : Int32)) + (((2 : Int32)) * x1)) + x3)) r3) x0 hx0) dX12_aJoin_165 rfl (Nat.le_of_ble_eq_true rfl)) (fun r7 => ?_)
              refine x_iinc hO 4 (v := 1) [(3, .int (x3 + (1 : Int32))), (2, .int r3), (4, .int r3), (0, rf Γ x0), (1, .int x1)] dX12_aJoin_168 rfl (by decide) (by decide) rfl ?_
              refine x_goto hO (tg := 30) dX12_aJoin_171 (by decide) ?_
              exact x_leafs [3, 4, 1, 0] rfl (hC r7 r3 (x3 + (1 : Int32)))
            · refine x_aload_n hO 1 rfl rfl dX12_aJoin_155 ?_
              refine x_iconst hO (v := 5) (by decide) dX12_aJoin_156 ?_
              refine y_HI (x_callV hO lv_RX12_213 hx0 vc_12 (by decide) (As := [.int ((5 : Int32))]) rfl (Nat.le_of_ble_eq_true rfl) (ok_X12_fails (cG Γ) (uI h (GR x0 0) (nx ((((3612 : Int32)) + (((2 : Int32)) * x1)) + x3)) r3) x0 ((5 : Int32)) hx0) dX12_aJoin_157 rfl (Nat.le_of_ble_eq_true rfl)) (fun r8 => ?_)
              exact x_zret hO rfl dX12_aJoin_160 (hR _)
      · refine x_aload_n hO 1 rfl rfl dX12_aJoin_75 ?_
        refine x_iconst hO (v := 3) (by decide) dX12_aJoin_76 ?_
        refine y_HI (x_callV hO lv_RX12_213 hx0 vc_12 (by decide) (As := [.int ((3 : Int32))]) rfl (Nat.le_of_ble_eq_true rfl) (ok_X12_fails (cG Γ) h x0 ((3 : Int32)) hx0) dX12_aJoin_77 rfl (Nat.le_of_ble_eq_true rfl)) (fun r9 => ?_)
        exact x_zret hO rfl dX12_aJoin_80 (hR _)
    · refine x_aload_n hO 0 rfl rfl dX12_aJoin_42 ?_
      refine x_iconst hO (v := 2) (by decide) dX12_aJoin_43 ?_
      refine y_HI (x_callV hO lv_RX12_213 hx0 vc_12 (by decide) (As := [.int ((2 : Int32))]) rfl (Nat.le_of_ble_eq_true rfl) (ok_X12_fails (cG Γ) h x0 ((2 : Int32)) hx0) dX12_aJoin_44 rfl (Nat.le_of_ble_eq_true rfl)) (fun r10 => ?_)
      exact x_zret hO rfl dX12_aJoin_47 (hR _)
set_option maxHeartbeats 4000000 in
set_option maxRecDepth 100000 in
theorem go_X12_aJoin_L30 {Γ : Cx} (hO : Ok Γ mX12_aJoin) (h : Hp) (x0 : Nat) (x1 : Int32) (x2 : Int32) (x3 : Int32) (hx0 : Is x0 12) {K : Hp × Int32 → Prop} (hR : ∀ r, K (r) → emHI r = tgt Γ) : EG Γ mX12_aJoin 30 [(0, rf Γ x0), (1, .int x1), (2, .int x2), (3, .int x3)] [] h (L_X12_aJoin_30 h x0 x1 x2 x3) K := by
  have q := x_loop (Γ := Γ) (M := mX12_aJoin) (pc := 30) (B := fun s : Hp × Int32 × Int32 => B_X12_aJoin_30 s.1 x0 x1 s.2.1 s.2.2) (lvf := fun s => [(0, rf Γ x0), (1, .int x1), (2, .int s.2.1), (3, .int s.2.2)]) (hf := fun s => s.1) (Ky := K) (fun s => go_X12_aJoin_B30 hO s.1 x0 x1 s.2.1 s.2.2 hx0 (fun _ _ _ => id) hR) (h, x2, x3)
  exact q
noncomputable def F_X12_aJoin (h : Hp) (x0 : Nat) : Option (Hp × Int32) :=
  gd (ib ((3204 : Int32)) (LEN (GR x0 0))) (if (hI h (GR x0 0) (nx ((3204 : Int32)))) = ((12 : Int32)) then (F_X12_fails h x0 ((6 : Int32))).bind (fun r2 => some ((r2.1, r2.2 &&& 1))) else (F_X12_ahead h x0).bind (fun r1 => L_X12_aJoin_30 r1 x0 (hI h (GR x0 0) (nx ((3204 : Int32)))) ((-1 : Int32)) ((0 : Int32))))
set_option maxHeartbeats 4000000 in
set_option maxRecDepth 100000 in
theorem go_X12_aJoin {Γ : Cx} (hO : Ok Γ mX12_aJoin) (h : Hp) (x0 : Nat) (hx0 : Is x0 12) {K : Hp × Int32 → Prop} (hR : ∀ r, K r → emHI r = tgt Γ) : EG Γ mX12_aJoin 0 [(0, rf Γ x0)] [] h (F_X12_aJoin h x0) K := by
  unfold F_X12_aJoin
  refine x_aload_n hO 0 rfl rfl dX12_aJoin_0 ?_
  refine x_getR hO fl_RX12_7 hx0 dX12_aJoin_1 ?_
  refine x_sipush hO (v := 3204) (by decide) dX12_aJoin_4 ?_
  refine x_iald hO (gr_12_0 hx0) dX12_aJoin_7 ?_
  refine x_istore_n hO rfl [(1, .int (hI h (GR x0 0) (nx ((3204 : Int32))))), (0, rf Γ x0)] dX12_aJoin_8 (by decide) rfl ?_
  refine x_iload_n hO 0 rfl rfl dX12_aJoin_9 ?_
  refine x_bipush hO (v := 12) (by decide) dX12_aJoin_10 ?_
  refine x_icmp_ne hO (tg := 22) dX12_aJoin_12 (by decide) ?_ ?_
  · refine x_aload_n hO 1 rfl rfl dX12_aJoin_22 ?_
    refine y_HV (x_callV hO lv_RX12_210 hx0 vc_12 (by decide) (As := []) rfl (Nat.le_of_ble_eq_true rfl) (ok_X12_ahead (cG Γ) h x0 hx0) dX12_aJoin_23 rfl (Nat.le_of_ble_eq_true rfl)) (fun r1 => ?_)
    refine x_iconst hO (v := -1) (by decide) dX12_aJoin_26 ?_
    refine x_istore_n hO rfl [(2, .int ((-1 : Int32))), (1, .int (hI h (GR x0 0) (nx ((3204 : Int32))))), (0, rf Γ x0)] dX12_aJoin_27 (by decide) rfl ?_
    refine x_iconst hO (v := 0) (by decide) dX12_aJoin_28 ?_
    refine x_istore_n hO rfl [(3, .int ((0 : Int32))), (2, .int ((-1 : Int32))), (1, .int (hI h (GR x0 0) (nx ((3204 : Int32))))), (0, rf Γ x0)] dX12_aJoin_29 (by decide) rfl ?_
    exact x_sub [3, 2, 1, 0] rfl (go_X12_aJoin_L30 hO r1 x0 (hI h (GR x0 0) (nx ((3204 : Int32)))) ((-1 : Int32)) ((0 : Int32)) hx0 hR)
  · refine x_aload_n hO 1 rfl rfl dX12_aJoin_15 ?_
    refine x_bipush hO (v := 6) (by decide) dX12_aJoin_16 ?_
    refine y_HI (x_callV hO lv_RX12_213 hx0 vc_12 (by decide) (As := [.int ((6 : Int32))]) rfl (Nat.le_of_ble_eq_true rfl) (ok_X12_fails (cG Γ) h x0 ((6 : Int32)) hx0) dX12_aJoin_18 rfl (Nat.le_of_ble_eq_true rfl)) (fun r2 => ?_)
    exact x_zret hO rfl dX12_aJoin_21 (hR _)
theorem ok_X12_aJoin (G : Gl) (h : Hp) (x0 : Nat) (hx0 : Is x0 12) : CN G mX12_aJoin [.ref (gb G + x0)] h ((F_X12_aJoin h x0).map (emHI)) := CN.fn pn_RX12 (Nat.le_of_ble_eq_true rfl) (fun Γ hG hO => by subst hG; exact go_X12_aJoin hO h x0 hx0 (fun _ q => q))
noncomputable def J_X12_aMean_193 (h : Hp) (x0 : Nat) (x1 : Int32) (x2 : Int32) (s0 : Int32) : Option ((Hp) ⊕ (Hp ⊕ (Hp × Int32))) :=
  if ((12 : Int32)) < (hI h x0 14) then (F_X12_fails h x0 ((4 : Int32))).bind (fun r1 => some (.inr (.inr ((r1.1, r1.2 &&& 1))))) else if (hI h x0 14) = ((10 : Int32)) then (F_X12_fails h x0 ((4 : Int32))).bind (fun r2 => some (.inr (.inr ((r2.1, r2.2 &&& 1))))) else gd (ib (x2 + ((1 : Int32))) (LEN (GR x0 0))) (if ((hI h (GR x0 0) (nx (x2 + ((1 : Int32))))) &&& s0) = 0 then gd (ib (x2 + ((1 : Int32))) (LEN (GR x0 0))) (gd (ib (x2 + ((1 : Int32))) (LEN (GR x0 0))) ((F_X12_ahead (uI h (GR x0 0) (nx (x2 + ((1 : Int32)))) ((hI h (GR x0 0) (nx (x2 + ((1 : Int32))))) ||| s0)) x0).bind (fun r3 => some (.inl r3)))) else (F_X12_fails h x0 ((4 : Int32))).bind (fun r4 => some (.inr (.inr ((r4.1, r4.2 &&& 1))))))
set_option maxHeartbeats 4000000 in
set_option maxRecDepth 100000 in
theorem go_X12_aMean_J193 {Γ : Cx} (hO : Ok Γ mX12_aMean) (h : Hp) (x0 : Nat) (x1 : Int32) (x2 : Int32) (s0 : Int32) (hx0 : Is x0 12) {K : (Hp) ⊕ (Hp ⊕ (Hp × Int32)) → Prop} (hC : ∀ (h : Hp), K (.inl h) → EW Γ mX12_aMean 159 [(0, rf Γ x0), (1, .int x1), (2, .int x2)] [] h) (hE250 : ∀ (h : Hp), K (.inr (.inl h)) → EW Γ mX12_aMean 250 [(0, rf Γ x0), (1, .int x1), (2, .int x2)] [] h) (hR : ∀ r, K (.inr (.inr r)) → emHI r = tgt Γ) : EG Γ mX12_aMean 193 [(0, rf Γ x0), (1, .int x1), (2, .int x2)] [.int s0] h (J_X12_aMean_193 h x0 x1 x2 s0) K := by
  unfold J_X12_aMean_193
  refine x_istore_n hO rfl [(3, .int s0), (0, rf Γ x0), (1, .int x1), (2, .int x2)] dX12_aMean_193 (by decide) rfl ?_
  refine x_aload_n hO 1 rfl rfl dX12_aMean_194 ?_
  refine x_getI hO fl_RX12_180 hx0 dX12_aMean_195 ?_
  refine x_bipush hO (v := 12) (by decide) dX12_aMean_198 ?_
  refine x_icmp_gt hO (tg := 225) dX12_aMean_200 (by decide) ?_ ?_
  · refine x_aload_n hO 1 rfl rfl dX12_aMean_225 ?_
    refine x_iconst hO (v := 4) (by decide) dX12_aMean_226 ?_
    refine y_HI (x_callV hO lv_RX12_213 hx0 vc_12 (by decide) (As := [.int ((4 : Int32))]) rfl (Nat.le_of_ble_eq_true rfl) (ok_X12_fails (cG Γ) h x0 ((4 : Int32)) hx0) dX12_aMean_227 rfl (Nat.le_of_ble_eq_true rfl)) (fun r1 => ?_)
    exact x_zret hO rfl dX12_aMean_230 (hR _)
  · refine x_aload_n hO 1 rfl rfl dX12_aMean_203 ?_
    refine x_getI hO fl_RX12_180 hx0 dX12_aMean_204 ?_
    refine x_bipush hO (v := 10) (by decide) dX12_aMean_207 ?_
    refine x_icmp_eq hO (tg := 225) dX12_aMean_209 (by decide) ?_ ?_
    · refine x_aload_n hO 1 rfl rfl dX12_aMean_225 ?_
      refine x_iconst hO (v := 4) (by decide) dX12_aMean_226 ?_
      refine y_HI (x_callV hO lv_RX12_213 hx0 vc_12 (by decide) (As := [.int ((4 : Int32))]) rfl (Nat.le_of_ble_eq_true rfl) (ok_X12_fails (cG Γ) h x0 ((4 : Int32)) hx0) dX12_aMean_227 rfl (Nat.le_of_ble_eq_true rfl)) (fun r2 => ?_)
      exact x_zret hO rfl dX12_aMean_230 (hR _)
    · refine x_aload_n hO 1 rfl rfl dX12_aMean_212 ?_
      refine x_getR hO fl_RX12_7 hx0 dX12_aMean_213 ?_
      refine x_iload_n hO 3 rfl rfl dX12_aMean_216 ?_
      refine x_iconst hO (v := 1) (by decide) dX12_aMean_217 ?_
      refine x_iadd hO dX12_aMean_218 ?_
      refine x_iald hO (gr_12_0 hx0) dX12_aMean_219 ?_
      refine x_iload_n hO 0 rfl rfl dX12_aMean_220 ?_
      refine x_iand hO dX12_aMean_221 ?_
      refine x_if_eq hO (tg := 231) dX12_aMean_222 (by decide) ?_ ?_
      · refine x_aload_n hO 1 rfl rfl dX12_aMean_231 ?_
        refine x_getR hO fl_RX12_7 hx0 dX12_aMean_232 ?_
        refine x_iload_n hO 3 rfl rfl dX12_aMean_235 ?_
        refine x_iconst hO (v := 1) (by decide) dX12_aMean_236 ?_
        refine x_iadd hO dX12_aMean_237 ?_
        refine x_dup2_ri hO dX12_aMean_238 ?_
        refine x_iald hO (gr_12_0 hx0) dX12_aMean_239 ?_
        refine x_iload_n hO 0 rfl rfl dX12_aMean_240 ?_
        refine x_ior hO dX12_aMean_241 ?_
        refine x_iast hO (gr_12_0 hx0) dX12_aMean_242 ?_
        refine x_aload_n hO 1 rfl rfl dX12_aMean_243 ?_
        refine y_HV (x_callV hO lv_RX12_210 hx0 vc_12 (by decide) (As := []) rfl (Nat.le_of_ble_eq_true rfl) (ok_X12_ahead (cG Γ) (uI h (GR x0 0) (nx (x2 + ((1 : Int32)))) ((hI h (GR x0 0) (nx (x2 + ((1 : Int32))))) ||| s0)) x0 hx0) dX12_aMean_244 rfl (Nat.le_of_ble_eq_true rfl)) (fun r3 => ?_)
        refine x_goto hO (tg := 159) dX12_aMean_247 (by decide) ?_
        exact x_leafs [1, 2, 3] rfl (hC r3)
      · refine x_aload_n hO 1 rfl rfl dX12_aMean_225 ?_
        refine x_iconst hO (v := 4) (by decide) dX12_aMean_226 ?_
        refine y_HI (x_callV hO lv_RX12_213 hx0 vc_12 (by decide) (As := [.int ((4 : Int32))]) rfl (Nat.le_of_ble_eq_true rfl) (ok_X12_fails (cG Γ) h x0 ((4 : Int32)) hx0) dX12_aMean_227 rfl (Nat.le_of_ble_eq_true rfl)) (fun r4 => ?_)
        exact x_zret hO rfl dX12_aMean_230 (hR _)
noncomputable def B_X12_aMean_159 (h : Hp) (x0 : Nat) (x1 : Int32) (x2 : Int32) : Option ((Hp) ⊕ (Hp ⊕ (Hp × Int32))) :=
  if (hI h x0 11) = ((3 : Int32)) then if ((10 : Int32)) ≤ (hI h x0 14) then J_X12_aMean_193 h x0 x1 x2 (((1 : Int32)) <<< (((hI h x0 14) - ((1 : Int32))) &&& 31)) else J_X12_aMean_193 h x0 x1 x2 (((1 : Int32)) <<< ((hI h x0 14) &&& 31)) else some (.inr (.inl h))
noncomputable def L_X12_aMean_159 (h : Hp) (x0 : Nat) (x1 : Int32) (x2 : Int32) : Option (Hp ⊕ (Hp × Int32)) := iterW (fun s : Hp => B_X12_aMean_159 s x0 x1 x2) h
set_option maxHeartbeats 4000000 in
set_option maxRecDepth 100000 in
theorem go_X12_aMean_B159 {Γ : Cx} (hO : Ok Γ mX12_aMean) (h : Hp) (x0 : Nat) (x1 : Int32) (x2 : Int32) (hx0 : Is x0 12) {K : (Hp) ⊕ (Hp ⊕ (Hp × Int32)) → Prop} (hC : ∀ (h : Hp), K (.inl h) → EW Γ mX12_aMean 159 [(0, rf Γ x0), (1, .int x1), (2, .int x2)] [] h) (hE250 : ∀ (h : Hp), K (.inr (.inl h)) → EW Γ mX12_aMean 250 [(0, rf Γ x0), (1, .int x1), (2, .int x2)] [] h) (hR : ∀ r, K (.inr (.inr r)) → emHI r = tgt Γ) : EG Γ mX12_aMean 159 [(0, rf Γ x0), (1, .int x1), (2, .int x2)] [] h (B_X12_aMean_159 h x0 x1 x2) K := by
  unfold B_X12_aMean_159
  refine x_aload_n hO 0 rfl rfl dX12_aMean_159 ?_
  refine x_getI hO fl_RX12_183 hx0 dX12_aMean_160 ?_
  refine x_iconst hO (v := 3) (by decide) dX12_aMean_163 ?_
  refine x_icmp_ne hO (tg := 250) dX12_aMean_164 (by decide) ?_ ?_
  · exact x_leafs [0, 1, 2] rfl (hE250 h)
  · refine x_aload_n hO 0 rfl rfl dX12_aMean_167 ?_
    refine x_getI hO fl_RX12_180 hx0 dX12_aMean_168 ?_
    refine x_bipush hO (v := 10) (by decide) dX12_aMean_171 ?_
    refine x_icmp_ge hO (tg := 185) dX12_aMean_173 (by decide) ?_ ?_
    · refine x_iconst hO (v := 1) (by decide) dX12_aMean_185 ?_
      refine x_aload_n hO 0 rfl rfl dX12_aMean_186 ?_
      refine x_getI hO fl_RX12_180 hx0 dX12_aMean_187 ?_
      refine x_iconst hO (v := 1) (by decide) dX12_aMean_190 ?_
      refine x_isub hO dX12_aMean_191 ?_
      refine x_ishl hO dX12_aMean_192 ?_
      exact x_sub [0, 1, 2] rfl (go_X12_aMean_J193 hO h x0 x1 x2 (((1 : Int32)) <<< (((hI h x0 14) - ((1 : Int32))) &&& 31)) hx0 hC hE250 hR)
    · refine x_iconst hO (v := 1) (by decide) dX12_aMean_176 ?_
      refine x_aload_n hO 0 rfl rfl dX12_aMean_177 ?_
      refine x_getI hO fl_RX12_180 hx0 dX12_aMean_178 ?_
      refine x_ishl hO dX12_aMean_181 ?_
      refine x_goto hO (tg := 193) dX12_aMean_182 (by decide) ?_
      exact x_sub [0, 1, 2] rfl (go_X12_aMean_J193 hO h x0 x1 x2 (((1 : Int32)) <<< ((hI h x0 14) &&& 31)) hx0 hC hE250 hR)
set_option maxHeartbeats 4000000 in
set_option maxRecDepth 100000 in
theorem go_X12_aMean_L159 {Γ : Cx} (hO : Ok Γ mX12_aMean) (h : Hp) (x0 : Nat) (x1 : Int32) (x2 : Int32) (hx0 : Is x0 12) {K : Hp ⊕ (Hp × Int32) → Prop} (hE250 : ∀ (h : Hp), K (.inl h) → EW Γ mX12_aMean 250 [(0, rf Γ x0), (1, .int x1), (2, .int x2)] [] h) (hR : ∀ r, K (.inr r) → emHI r = tgt Γ) : EG Γ mX12_aMean 159 [(0, rf Γ x0), (1, .int x1), (2, .int x2)] [] h (L_X12_aMean_159 h x0 x1 x2) K := by
  have q := x_loop (Γ := Γ) (M := mX12_aMean) (pc := 159) (B := fun s : Hp => B_X12_aMean_159 s x0 x1 x2) (lvf := fun s => [(0, rf Γ x0), (1, .int x1), (2, .int x2)]) (hf := fun s => s) (Ky := K) (fun s => go_X12_aMean_B159 hO s x0 x1 x2 hx0 (fun _ => id) hE250 hR) h
  exact q
noncomputable def B_X12_aMean_252 (h : Hp) (x0 : Nat) (x1 : Int32) (x2 : Int32) (x3 : Int32) : Option ((Int32) ⊕ (Hp × Int32)) :=
  if x1 ≤ x3 then gd (ib ((3203 : Int32)) (LEN (GR x0 0))) (gd (ib ((3203 : Int32)) (LEN (GR x0 0))) (some (.inr ((uI h (GR x0 0) (nx ((3203 : Int32))) ((hI h (GR x0 0) (nx ((3203 : Int32)))) + ((1 : Int32))), (1 : Int32)))))) else if (hI h x0 11) = ((4 : Int32)) then gd (ib (((3572 : Int32)) + (((2 : Int32)) * x3)) (LEN (GR x0 0))) (gd (ib x2 (LEN (GR x0 0))) (if (hI h (GR x0 0) (nx (((3572 : Int32)) + (((2 : Int32)) * x3)))) = (hI h (GR x0 0) (nx x2)) then gd (ib ((((3572 : Int32)) + (((2 : Int32)) * x3)) + ((1 : Int32))) (LEN (GR x0 0))) (gd (ib (x2 + ((1 : Int32))) (LEN (GR x0 0))) (if (hI h (GR x0 0) (nx ((((3572 : Int32)) + (((2 : Int32)) * x3)) + ((1 : Int32))))) = (hI h (GR x0 0) (nx (x2 + ((1 : Int32))))) then (F_X12_fails h x0 ((7 : Int32))).bind (fun r1 => some (.inr ((r1.1, r1.2 &&& 1)))) else some (.inl (x3 + (1 : Int32))))) else some (.inl (x3 + (1 : Int32))))) else gd (ib ((3203 : Int32)) (LEN (GR x0 0))) (gd (ib ((3203 : Int32)) (LEN (GR x0 0))) (some (.inr ((uI h (GR x0 0) (nx ((3203 : Int32))) ((hI h (GR x0 0) (nx ((3203 : Int32)))) + ((1 : Int32))), (1 : Int32))))))
noncomputable def L_X12_aMean_252 (h : Hp) (x0 : Nat) (x1 : Int32) (x2 : Int32) (x3 : Int32) : Option (Hp × Int32) := iterW (fun s : Int32 => B_X12_aMean_252 h x0 x1 x2 s) x3
set_option maxHeartbeats 4000000 in
set_option maxRecDepth 100000 in
theorem go_X12_aMean_B252 {Γ : Cx} (hO : Ok Γ mX12_aMean) (h : Hp) (x0 : Nat) (x1 : Int32) (x2 : Int32) (x3 : Int32) (hx0 : Is x0 12) {K : (Int32) ⊕ (Hp × Int32) → Prop} (hC : ∀ (x3 : Int32), K (.inl x3) → EW Γ mX12_aMean 252 [(0, rf Γ x0), (1, .int x1), (2, .int x2), (3, .int x3)] [] h) (hR : ∀ r, K (.inr r) → emHI r = tgt Γ) : EG Γ mX12_aMean 252 [(0, rf Γ x0), (1, .int x1), (2, .int x2), (3, .int x3)] [] h (B_X12_aMean_252 h x0 x1 x2 x3) K := by
  unfold B_X12_aMean_252
  refine x_iload_n hO 3 rfl rfl dX12_aMean_252 ?_
  refine x_iload_n hO 1 rfl rfl dX12_aMean_253 ?_
  refine x_icmp_ge hO (tg := 324) dX12_aMean_254 (by decide) ?_ ?_
  · refine x_aload_n hO 0 rfl rfl dX12_aMean_324 ?_
    refine x_getR hO fl_RX12_7 hx0 dX12_aMean_325 ?_
    refine x_sipush hO (v := 3203) (by decide) dX12_aMean_328 ?_
    refine x_dup2_ri hO dX12_aMean_331 ?_
    refine x_iald hO (gr_12_0 hx0) dX12_aMean_332 ?_
    refine x_iconst hO (v := 1) (by decide) dX12_aMean_333 ?_
    refine x_iadd hO dX12_aMean_334 ?_
    refine x_iast hO (gr_12_0 hx0) dX12_aMean_335 ?_
    refine x_iconst hO (v := 1) (by decide) dX12_aMean_336 ?_
    exact x_zretv hO rfl (by decide) dX12_aMean_337 (hR _)
  · refine x_aload_n hO 0 rfl rfl dX12_aMean_257 ?_
    refine x_getI hO fl_RX12_183 hx0 dX12_aMean_258 ?_
    refine x_iconst hO (v := 4) (by decide) dX12_aMean_261 ?_
    refine x_icmp_ne hO (tg := 324) dX12_aMean_262 (by decide) ?_ ?_
    · refine x_aload_n hO 0 rfl rfl dX12_aMean_324 ?_
      refine x_getR hO fl_RX12_7 hx0 dX12_aMean_325 ?_
      refine x_sipush hO (v := 3203) (by decide) dX12_aMean_328 ?_
      refine x_dup2_ri hO dX12_aMean_331 ?_
      refine x_iald hO (gr_12_0 hx0) dX12_aMean_332 ?_
      refine x_iconst hO (v := 1) (by decide) dX12_aMean_333 ?_
      refine x_iadd hO dX12_aMean_334 ?_
      refine x_iast hO (gr_12_0 hx0) dX12_aMean_335 ?_
      refine x_iconst hO (v := 1) (by decide) dX12_aMean_336 ?_
      exact x_zretv hO rfl (by decide) dX12_aMean_337 (hR _)
    · refine x_aload_n hO 0 rfl rfl dX12_aMean_265 ?_
      refine x_getR hO fl_RX12_7 hx0 dX12_aMean_266 ?_
      refine x_sipush hO (v := 3572) (by decide) dX12_aMean_269 ?_
      refine x_iconst hO (v := 2) (by decide) dX12_aMean_272 ?_
      refine x_iload_n hO 3 rfl rfl dX12_aMean_273 ?_
      refine x_imul hO dX12_aMean_274 ?_
      refine x_iadd hO dX12_aMean_275 ?_
      refine x_iald hO (gr_12_0 hx0) dX12_aMean_276 ?_
      refine x_aload_n hO 0 rfl rfl dX12_aMean_277 ?_
      refine x_getR hO fl_RX12_7 hx0 dX12_aMean_278 ?_
      refine x_iload_n hO 2 rfl rfl dX12_aMean_281 ?_
      refine x_iald hO (gr_12_0 hx0) dX12_aMean_282 ?_
      refine x_icmp_ne hO (tg := 318) dX12_aMean_283 (by decide) ?_ ?_
      · refine x_iinc hO 3 (v := 1) [(3, .int (x3 + (1 : Int32))), (0, rf Γ x0), (1, .int x1), (2, .int x2)] dX12_aMean_318 rfl (by decide) (by decide) rfl ?_
        refine x_goto hO (tg := 252) dX12_aMean_321 (by decide) ?_
        exact x_leafs [1, 2, 3, 0] rfl (hC (x3 + (1 : Int32)))
      · refine x_aload_n hO 0 rfl rfl dX12_aMean_286 ?_
        refine x_getR hO fl_RX12_7 hx0 dX12_aMean_287 ?_
        refine x_sipush hO (v := 3572) (by decide) dX12_aMean_290 ?_
        refine x_iconst hO (v := 2) (by decide) dX12_aMean_293 ?_
        refine x_iload_n hO 3 rfl rfl dX12_aMean_294 ?_
        refine x_imul hO dX12_aMean_295 ?_
        refine x_iadd hO dX12_aMean_296 ?_
        refine x_iconst hO (v := 1) (by decide) dX12_aMean_297 ?_
        refine x_iadd hO dX12_aMean_298 ?_
        refine x_iald hO (gr_12_0 hx0) dX12_aMean_299 ?_
        refine x_aload_n hO 0 rfl rfl dX12_aMean_300 ?_
        refine x_getR hO fl_RX12_7 hx0 dX12_aMean_301 ?_
        refine x_iload_n hO 2 rfl rfl dX12_aMean_304 ?_
        refine x_iconst hO (v := 1) (by decide) dX12_aMean_305 ?_
        refine x_iadd hO dX12_aMean_306 ?_
        refine x_iald hO (gr_12_0 hx0) dX12_aMean_307 ?_
        refine x_icmp_ne hO (tg := 318) dX12_aMean_308 (by decide) ?_ ?_
        · refine x_iinc hO 3 (v := 1) [(3, .int (x3 + (1 : Int32))), (0, rf Γ x0), (1, .int x1), (2, .int x2)] dX12_aMean_318 rfl (by decide) (by decide) rfl ?_
          refine x_goto hO (tg := 252) dX12_aMean_321 (by decide) ?_
          exact x_leafs [1, 2, 3, 0] rfl (hC (x3 + (1 : Int32)))
        · refine x_aload_n hO 0 rfl rfl dX12_aMean_311 ?_
          refine x_bipush hO (v := 7) (by decide) dX12_aMean_312 ?_
          refine y_HI (x_callV hO lv_RX12_213 hx0 vc_12 (by decide) (As := [.int ((7 : Int32))]) rfl (Nat.le_of_ble_eq_true rfl) (ok_X12_fails (cG Γ) h x0 ((7 : Int32)) hx0) dX12_aMean_314 rfl (Nat.le_of_ble_eq_true rfl)) (fun r1 => ?_)
          exact x_zret hO rfl dX12_aMean_317 (hR _)
set_option maxHeartbeats 4000000 in
set_option maxRecDepth 100000 in
theorem go_X12_aMean_L252 {Γ : Cx} (hO : Ok Γ mX12_aMean) (h : Hp) (x0 : Nat) (x1 : Int32) (x2 : Int32) (x3 : Int32) (hx0 : Is x0 12) {K : Hp × Int32 → Prop} (hR : ∀ r, K (r) → emHI r = tgt Γ) : EG Γ mX12_aMean 252 [(0, rf Γ x0), (1, .int x1), (2, .int x2), (3, .int x3)] [] h (L_X12_aMean_252 h x0 x1 x2 x3) K := by
  have q := x_loop (Γ := Γ) (M := mX12_aMean) (pc := 252) (B := fun s : Int32 => B_X12_aMean_252 h x0 x1 x2 s) (lvf := fun s => [(0, rf Γ x0), (1, .int x1), (2, .int x2), (3, .int s)]) (hf := fun s => h) (Ky := K) (fun s => go_X12_aMean_B252 hO h x0 x1 x2 s hx0 (fun _ => id) hR) x3
  exact q
noncomputable def F_X12_aMean (h : Hp) (x0 : Nat) : Option (Hp × Int32) :=
  gd (ib ((3203 : Int32)) (LEN (GR x0 0))) (bnd (((3572 : Int32)) + (((2 : Int32)) * (hI h (GR x0 0) (nx ((3203 : Int32)))))) (fun v1 => gd (ib ((3202 : Int32)) (LEN (GR x0 0))) (if (hI h (GR x0 0) (nx ((3202 : Int32)))) = 0 then (F_X12_fails h x0 ((5 : Int32))).bind (fun r17 => some ((r17.1, r17.2 &&& 1))) else if (hI h (GR x0 0) (nx ((3203 : Int32)))) = ((20 : Int32)) then (F_X12_fails h x0 ((6 : Int32))).bind (fun r16 => some ((r16.1, r16.2 &&& 1))) else (F_X12_ahead h x0).bind (fun r2 => (F_X12_isName r2 x0).bind (fun r3 => if r3 = 0 then (F_X12_fails r2 x0 ((2 : Int32))).bind (fun r15 => some ((r15.1, r15.2 &&& 1))) else (F_X12_nameHere r2 x0).bind (fun r4 => (F_X12_find r2 (GR x0 19) (hI h (GR x0 0) (nx ((3203 : Int32)))) r4).bind (fun r5 => if r5 = ((-1 : Int32)) then (F_X12_nameHere r2 x0).bind (fun r6 => gd (ib (hI h (GR x0 0) (nx ((3203 : Int32)))) (LEN (GR x0 19))) ((F_X12_ahead (uL r2 (GR x0 19) (nx (hI h (GR x0 0) (nx ((3203 : Int32))))) r6) x0).bind (fun r7 => (F_X12_inWords r7 x0 14).bind (fun r8 => if r8 = ((4 : Int32)) then (F_X12_ahead r7 x0).bind (fun r9 => gd (ib ((3202 : Int32)) (LEN (GR x0 0))) (gd (ib v1 (LEN (GR x0 0))) (gd (ib (v1 + ((1 : Int32))) (LEN (GR x0 0))) (if (hI (uI (uI r9 (GR x0 0) (nx v1) ((hI r9 (GR x0 0) (nx ((3202 : Int32)))) - ((1 : Int32)))) (GR x0 0) (nx (v1 + ((1 : Int32)))) ((0 : Int32))) x0 11) = ((3 : Int32)) then (L_X12_aMean_159 (uI (uI r9 (GR x0 0) (nx v1) ((hI r9 (GR x0 0) (nx ((3202 : Int32)))) - ((1 : Int32)))) (GR x0 0) (nx (v1 + ((1 : Int32)))) ((0 : Int32))) x0 (hI h (GR x0 0) (nx ((3203 : Int32)))) v1).bind (Sum.elim (fun e10 => L_X12_aMean_252 e10 x0 (hI h (GR x0 0) (nx ((3203 : Int32)))) v1 ((0 : Int32))) (fun r11 => some r11)) else (F_X12_fails (uI (uI r9 (GR x0 0) (nx v1) ((hI r9 (GR x0 0) (nx ((3202 : Int32)))) - ((1 : Int32)))) (GR x0 0) (nx (v1 + ((1 : Int32)))) ((0 : Int32))) x0 ((2 : Int32))).bind (fun r12 => some ((r12.1, r12.2 &&& 1))))))) else (F_X12_fails r7 x0 ((2 : Int32))).bind (fun r13 => some ((r13.1, r13.2 &&& 1))))))) else (F_X12_fails r2 x0 ((3 : Int32))).bind (fun r14 => some ((r14.1, r14.2 &&& 1))))))))))
set_option maxHeartbeats 4000000 in
set_option maxRecDepth 100000 in
theorem go_X12_aMean {Γ : Cx} (hO : Ok Γ mX12_aMean) (h : Hp) (x0 : Nat) (hx0 : Is x0 12) {K : Hp × Int32 → Prop} (hR : ∀ r, K r → emHI r = tgt Γ) : EG Γ mX12_aMean 0 [(0, rf Γ x0)] [] h (F_X12_aMean h x0) K := by
  unfold F_X12_aMean
  refine x_aload_n hO 0 rfl rfl dX12_aMean_0 ?_
  refine x_getR hO fl_RX12_7 hx0 dX12_aMean_1 ?_
  refine x_sipush hO (v := 3203) (by decide) dX12_aMean_4 ?_
  refine x_iald hO (gr_12_0 hx0) dX12_aMean_7 ?_
  refine x_istore_n hO rfl [(1, .int (hI h (GR x0 0) (nx ((3203 : Int32))))), (0, rf Γ x0)] dX12_aMean_8 (by decide) rfl ?_
  refine x_sipush hO (v := 3572) (by decide) dX12_aMean_9 ?_
  refine x_iconst hO (v := 2) (by decide) dX12_aMean_12 ?_
  refine x_iload_n hO 0 rfl rfl dX12_aMean_13 ?_
  refine x_imul hO dX12_aMean_14 ?_
  refine x_iadd hO dX12_aMean_15 ?_
  refine x_bnd ?_
  generalize ((3572 : Int32)) + (((2 : Int32)) * (hI h (GR x0 0) (nx ((3203 : Int32))))) = v1
  refine x_istore_n hO rfl [(2, .int v1), (1, .int (hI h (GR x0 0) (nx ((3203 : Int32))))), (0, rf Γ x0)] dX12_aMean_16 (by decide) rfl ?_
  refine x_aload_n hO 2 rfl rfl dX12_aMean_17 ?_
  refine x_getR hO fl_RX12_7 hx0 dX12_aMean_18 ?_
  refine x_sipush hO (v := 3202) (by decide) dX12_aMean_21 ?_
  refine x_iald hO (gr_12_0 hx0) dX12_aMean_24 ?_
  refine x_if_ne hO (tg := 34) dX12_aMean_25 (by decide) ?_ ?_
  · refine x_iload_n hO 1 rfl rfl dX12_aMean_34 ?_
    refine x_bipush hO (v := 20) (by decide) dX12_aMean_35 ?_
    refine x_icmp_ne hO (tg := 47) dX12_aMean_37 (by decide) ?_ ?_
    · refine x_aload_n hO 2 rfl rfl dX12_aMean_47 ?_
      refine y_HV (x_callV hO lv_RX12_210 hx0 vc_12 (by decide) (As := []) rfl (Nat.le_of_ble_eq_true rfl) (ok_X12_ahead (cG Γ) h x0 hx0) dX12_aMean_48 rfl (Nat.le_of_ble_eq_true rfl)) (fun r2 => ?_)
      refine x_aload_n hO 2 rfl rfl dX12_aMean_51 ?_
      refine y_PI (x_callV hO lv_RX12_222 hx0 vc_12 (by decide) (As := []) rfl (Nat.le_of_ble_eq_true rfl) (ok_X12_isName (cG Γ) r2 x0 hx0) dX12_aMean_52 rfl (Nat.le_of_ble_eq_true rfl)) (fun r3 => ?_)
      refine x_if_ne hO (tg := 64) dX12_aMean_55 (by decide) ?_ ?_
      · refine x_aload_n hO 2 rfl rfl dX12_aMean_64 ?_
        refine x_getR hO fl_RX12_44 hx0 dX12_aMean_65 ?_
        refine x_iload_n hO 1 rfl rfl dX12_aMean_68 ?_
        refine x_aload_n hO 2 rfl rfl dX12_aMean_69 ?_
        refine y_PL (x_callV hO lv_RX12_226 hx0 vc_12 (by decide) (As := []) rfl (Nat.le_of_ble_eq_true rfl) (ok_X12_nameHere (cG Γ) r2 x0 hx0) dX12_aMean_70 rfl (Nat.le_of_ble_eq_true rfl)) (fun r4 => ?_)
        refine y_PI (x_callS hO lt_RX12_230 (As := [rf Γ (GR x0 19), .int (hI h (GR x0 0) (nx ((3203 : Int32)))), .long r4]) rfl (Nat.le_of_ble_eq_true rfl) (ok_X12_find (cG Γ) r2 (GR x0 19) (hI h (GR x0 0) (nx ((3203 : Int32)))) r4 (gr_12_19 hx0)) dX12_aMean_73 rfl (Nat.le_of_ble_eq_true rfl)) (fun r5 => ?_)
        refine x_iconst hO (v := -1) (by decide) dX12_aMean_76 ?_
        refine x_icmp_eq hO (tg := 86) dX12_aMean_77 (by decide) ?_ ?_
        · refine x_aload_n hO 2 rfl rfl dX12_aMean_86 ?_
          refine x_getR hO fl_RX12_44 hx0 dX12_aMean_87 ?_
          refine x_iload_n hO 1 rfl rfl dX12_aMean_90 ?_
          refine x_aload_n hO 2 rfl rfl dX12_aMean_91 ?_
          refine y_PL (x_callV hO lv_RX12_226 hx0 vc_12 (by decide) (As := []) rfl (Nat.le_of_ble_eq_true rfl) (ok_X12_nameHere (cG Γ) r2 x0 hx0) dX12_aMean_92 rfl (Nat.le_of_ble_eq_true rfl)) (fun r6 => ?_)
          refine x_last hO (gr_12_19 hx0) dX12_aMean_95 ?_
          refine x_aload_n hO 2 rfl rfl dX12_aMean_96 ?_
          refine y_HV (x_callV hO lv_RX12_210 hx0 vc_12 (by decide) (As := []) rfl (Nat.le_of_ble_eq_true rfl) (ok_X12_ahead (cG Γ) (uL r2 (GR x0 19) (nx (hI h (GR x0 0) (nx ((3203 : Int32))))) r6) x0 hx0) dX12_aMean_97 rfl (Nat.le_of_ble_eq_true rfl)) (fun r7 => ?_)
          refine x_aload_n hO 2 rfl rfl dX12_aMean_100 ?_
          refine x_ldcS hO sr_RX12_216 dX12_aMean_101 ?_
          refine y_PI (x_callV hO lv_RX12_218 hx0 vc_12 (by decide) (As := [sf Γ 14]) rfl (Nat.le_of_ble_eq_true rfl) (ok_X12_inWords (cG Γ) r7 x0 14 hx0 ((by decide))) dX12_aMean_103 rfl (Nat.le_of_ble_eq_true rfl)) (fun r8 => ?_)
          refine x_iconst hO (v := 4) (by decide) dX12_aMean_106 ?_
          refine x_icmp_eq hO (tg := 116) dX12_aMean_107 (by decide) ?_ ?_
          · refine x_aload_n hO 2 rfl rfl dX12_aMean_116 ?_
            refine y_HV (x_callV hO lv_RX12_210 hx0 vc_12 (by decide) (As := []) rfl (Nat.le_of_ble_eq_true rfl) (ok_X12_ahead (cG Γ) r7 x0 hx0) dX12_aMean_117 rfl (Nat.le_of_ble_eq_true rfl)) (fun r9 => ?_)
            refine x_aload_n hO 2 rfl rfl dX12_aMean_120 ?_
            refine x_getR hO fl_RX12_7 hx0 dX12_aMean_121 ?_
            refine x_iload_n hO 0 rfl rfl dX12_aMean_124 ?_
            refine x_aload_n hO 2 rfl rfl dX12_aMean_125 ?_
            refine x_getR hO fl_RX12_7 hx0 dX12_aMean_126 ?_
            refine x_sipush hO (v := 3202) (by decide) dX12_aMean_129 ?_
            refine x_iald hO (gr_12_0 hx0) dX12_aMean_132 ?_
            refine x_iconst hO (v := 1) (by decide) dX12_aMean_133 ?_
            refine x_isub hO dX12_aMean_134 ?_
            refine x_iast hO (gr_12_0 hx0) dX12_aMean_135 ?_
            refine x_aload_n hO 2 rfl rfl dX12_aMean_136 ?_
            refine x_getR hO fl_RX12_7 hx0 dX12_aMean_137 ?_
            refine x_iload_n hO 0 rfl rfl dX12_aMean_140 ?_
            refine x_iconst hO (v := 1) (by decide) dX12_aMean_141 ?_
            refine x_iadd hO dX12_aMean_142 ?_
            refine x_iconst hO (v := 0) (by decide) dX12_aMean_143 ?_
            refine x_iast hO (gr_12_0 hx0) dX12_aMean_144 ?_
            refine x_aload_n hO 2 rfl rfl dX12_aMean_145 ?_
            refine x_getI hO fl_RX12_183 hx0 dX12_aMean_146 ?_
            refine x_iconst hO (v := 3) (by decide) dX12_aMean_149 ?_
            refine x_icmp_eq hO (tg := 159) dX12_aMean_150 (by decide) ?_ ?_
            · refine x_bind (x_sub [2, 1, 0] rfl (go_X12_aMean_L159 hO (uI (uI r9 (GR x0 0) (nx v1) ((hI r9 (GR x0 0) (nx ((3202 : Int32)))) - ((1 : Int32)))) (GR x0 0) (nx (v1 + ((1 : Int32)))) ((0 : Int32))) x0 (hI h (GR x0 0) (nx ((3203 : Int32)))) v1 hx0 (fun y10_0 hx => ?_) (fun r hr => by obtain ⟨z, q, k⟩ := hr; cases q; exact hR _ k)))
              refine x_run (t := (L_X12_aMean_252 y10_0 x0 (hI h (GR x0 0) (nx ((3203 : Int32)))) v1 ((0 : Int32)) : Option (Hp × Int32))) hx ?_
              refine x_iconst hO (v := 0) (by decide) dX12_aMean_250 ?_
              refine x_istore_n hO rfl [(3, .int ((0 : Int32))), (0, rf Γ x0), (1, .int (hI h (GR x0 0) (nx ((3203 : Int32))))), (2, .int v1)] dX12_aMean_251 (by decide) rfl ?_
              exact x_sub [1, 2, 3, 0] rfl (go_X12_aMean_L252 hO y10_0 x0 (hI h (GR x0 0) (nx ((3203 : Int32)))) v1 ((0 : Int32)) hx0 hR)
            · refine x_aload_n hO 2 rfl rfl dX12_aMean_153 ?_
              refine x_iconst hO (v := 2) (by decide) dX12_aMean_154 ?_
              refine y_HI (x_callV hO lv_RX12_213 hx0 vc_12 (by decide) (As := [.int ((2 : Int32))]) rfl (Nat.le_of_ble_eq_true rfl) (ok_X12_fails (cG Γ) (uI (uI r9 (GR x0 0) (nx v1) ((hI r9 (GR x0 0) (nx ((3202 : Int32)))) - ((1 : Int32)))) (GR x0 0) (nx (v1 + ((1 : Int32)))) ((0 : Int32))) x0 ((2 : Int32)) hx0) dX12_aMean_155 rfl (Nat.le_of_ble_eq_true rfl)) (fun r12 => ?_)
              exact x_zret hO rfl dX12_aMean_158 (hR _)
          · refine x_aload_n hO 2 rfl rfl dX12_aMean_110 ?_
            refine x_iconst hO (v := 2) (by decide) dX12_aMean_111 ?_
            refine y_HI (x_callV hO lv_RX12_213 hx0 vc_12 (by decide) (As := [.int ((2 : Int32))]) rfl (Nat.le_of_ble_eq_true rfl) (ok_X12_fails (cG Γ) r7 x0 ((2 : Int32)) hx0) dX12_aMean_112 rfl (Nat.le_of_ble_eq_true rfl)) (fun r13 => ?_)
            exact x_zret hO rfl dX12_aMean_115 (hR _)
        · refine x_aload_n hO 2 rfl rfl dX12_aMean_80 ?_
          refine x_iconst hO (v := 3) (by decide) dX12_aMean_81 ?_
          refine y_HI (x_callV hO lv_RX12_213 hx0 vc_12 (by decide) (As := [.int ((3 : Int32))]) rfl (Nat.le_of_ble_eq_true rfl) (ok_X12_fails (cG Γ) r2 x0 ((3 : Int32)) hx0) dX12_aMean_82 rfl (Nat.le_of_ble_eq_true rfl)) (fun r14 => ?_)
          exact x_zret hO rfl dX12_aMean_85 (hR _)
      · refine x_aload_n hO 2 rfl rfl dX12_aMean_58 ?_
        refine x_iconst hO (v := 2) (by decide) dX12_aMean_59 ?_
        refine y_HI (x_callV hO lv_RX12_213 hx0 vc_12 (by decide) (As := [.int ((2 : Int32))]) rfl (Nat.le_of_ble_eq_true rfl) (ok_X12_fails (cG Γ) r2 x0 ((2 : Int32)) hx0) dX12_aMean_60 rfl (Nat.le_of_ble_eq_true rfl)) (fun r15 => ?_)
        exact x_zret hO rfl dX12_aMean_63 (hR _)
    · refine x_aload_n hO 2 rfl rfl dX12_aMean_40 ?_
      refine x_bipush hO (v := 6) (by decide) dX12_aMean_41 ?_
      refine y_HI (x_callV hO lv_RX12_213 hx0 vc_12 (by decide) (As := [.int ((6 : Int32))]) rfl (Nat.le_of_ble_eq_true rfl) (ok_X12_fails (cG Γ) h x0 ((6 : Int32)) hx0) dX12_aMean_43 rfl (Nat.le_of_ble_eq_true rfl)) (fun r16 => ?_)
      exact x_zret hO rfl dX12_aMean_46 (hR _)
  · refine x_aload_n hO 2 rfl rfl dX12_aMean_28 ?_
    refine x_iconst hO (v := 5) (by decide) dX12_aMean_29 ?_
    refine y_HI (x_callV hO lv_RX12_213 hx0 vc_12 (by decide) (As := [.int ((5 : Int32))]) rfl (Nat.le_of_ble_eq_true rfl) (ok_X12_fails (cG Γ) h x0 ((5 : Int32)) hx0) dX12_aMean_30 rfl (Nat.le_of_ble_eq_true rfl)) (fun r17 => ?_)
    exact x_zret hO rfl dX12_aMean_33 (hR _)
theorem ok_X12_aMean (G : Gl) (h : Hp) (x0 : Nat) (hx0 : Is x0 12) : CN G mX12_aMean [.ref (gb G + x0)] h ((F_X12_aMean h x0).map (emHI)) := CN.fn pn_RX12 (Nat.le_of_ble_eq_true rfl) (fun Γ hG hO => by subst hG; exact go_X12_aMean hO h x0 hx0 (fun _ q => q))
