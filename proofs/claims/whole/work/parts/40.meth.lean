noncomputable def B_X12_program_62 (h : Hp) (x0 : Nat) (x2 : Int32) : Option ((Hp × Int32) ⊕ (Hp)) :=
  if x2 = 0 then some (.inr h) else (F_X12_step h x0).bind (fun r1 => if r1.2 = 0 then some (.inl (r1.1, (0 : Int32))) else if (hI r1.1 x0 11) = 0 then some (.inl (r1.1, (0 : Int32))) else some (.inl (r1.1, (1 : Int32))))
noncomputable def L_X12_program_62 (h : Hp) (x0 : Nat) (x2 : Int32) : Option (Hp) := iterW (fun s : Hp × Int32 => B_X12_program_62 s.1 x0 s.2) (h, x2)
set_option maxHeartbeats 4000000 in
set_option maxRecDepth 100000 in
theorem go_X12_program_B62 {Γ : Cx} (hO : Ok Γ mX12_program) (h : Hp) (x0 : Nat) (x2 : Int32) (hx0 : Is x0 12) {K : (Hp × Int32) ⊕ (Hp) → Prop} (hC : ∀ (h : Hp) (x2 : Int32), K (.inl (h, x2)) → EW Γ mX12_program 62 [(0, rf Γ x0), (2, .int x2)] [] h) (hE89 : ∀ (h : Hp), K (.inr h) → EW Γ mX12_program 89 [(0, rf Γ x0)] [] h) : EG Γ mX12_program 62 [(0, rf Γ x0), (2, .int x2)] [] h (B_X12_program_62 h x0 x2) K := by
  unfold B_X12_program_62
  refine x_iload_n hO 1 rfl rfl dX12_program_62 ?_
  refine x_if_eq hO (tg := 89) dX12_program_63 (by decide) ?_ ?_
  · exact x_leafs [0] rfl (hE89 h)
  · refine x_aload_n hO 0 rfl rfl dX12_program_66 ?_
    refine y_HI (x_callV hO lv_RX12_268 hx0 vc_12 (by decide) (As := []) rfl (Nat.le_of_ble_eq_true rfl) (ok_X12_step (cG Γ) h x0 hx0) dX12_program_67 rfl (Nat.le_of_ble_eq_true rfl)) (fun r1 => ?_)
    refine x_if_eq hO (tg := 84) dX12_program_70 (by decide) ?_ ?_
    · refine x_iconst hO (v := 0) (by decide) dX12_program_84 ?_
      refine x_istore_n hO rfl [(2, .int ((0 : Int32))), (0, rf Γ x0)] dX12_program_85 (by decide) rfl ?_
      refine x_goto hO (tg := 62) dX12_program_86 (by decide) ?_
      exact x_leafs [1, 0] rfl (hC r1.1 ((0 : Int32)))
    · refine x_aload_n hO 0 rfl rfl dX12_program_73 ?_
      refine x_getI hO fl_RX12_183 hx0 dX12_program_74 ?_
      refine x_if_eq hO (tg := 84) dX12_program_77 (by decide) ?_ ?_
      · refine x_iconst hO (v := 0) (by decide) dX12_program_84 ?_
        refine x_istore_n hO rfl [(2, .int ((0 : Int32))), (0, rf Γ x0)] dX12_program_85 (by decide) rfl ?_
        refine x_goto hO (tg := 62) dX12_program_86 (by decide) ?_
        exact x_leafs [1, 0] rfl (hC r1.1 ((0 : Int32)))
      · refine x_iconst hO (v := 1) (by decide) dX12_program_80 ?_
        refine x_goto hO (tg := 85) dX12_program_81 (by decide) ?_
        refine x_istore_n hO rfl [(2, .int ((1 : Int32))), (0, rf Γ x0)] dX12_program_85 (by decide) rfl ?_
        refine x_goto hO (tg := 62) dX12_program_86 (by decide) ?_
        exact x_leafs [1, 0] rfl (hC r1.1 ((1 : Int32)))
set_option maxHeartbeats 4000000 in
set_option maxRecDepth 100000 in
theorem go_X12_program_L62 {Γ : Cx} (hO : Ok Γ mX12_program) (h : Hp) (x0 : Nat) (x2 : Int32) (hx0 : Is x0 12) {K : Hp → Prop} (hE89 : ∀ (h : Hp), K (h) → EW Γ mX12_program 89 [(0, rf Γ x0)] [] h) : EG Γ mX12_program 62 [(0, rf Γ x0), (2, .int x2)] [] h (L_X12_program_62 h x0 x2) K := by
  have q := x_loop (Γ := Γ) (M := mX12_program) (pc := 62) (B := fun s : Hp × Int32 => B_X12_program_62 s.1 x0 s.2) (lvf := fun s => [(0, rf Γ x0), (2, .int s.2)]) (hf := fun s => s.1) (Ky := K) (fun s => go_X12_program_B62 hO s.1 x0 s.2 hx0 (fun _ _ => id) hE89) (h, x2)
  exact q
noncomputable def B_X12_program_149 (h : Hp) (x0 : Nat) (x3 : Int32) : Option ((Hp × Int32) ⊕ (Hp × Int32)) :=
  if ((800 : Int32)) ≤ x3 then (F_X12_gives h x0 (hI h x0 23)).bind (fun r1 => some (.inr ((r1.1, r1.2)))) else gd (ib (((3200 : Int32)) + x3) (LEN (GR x0 0))) (gd (ib x3 (LEN (GR x0 0))) (some (.inl (uI h (GR x0 0) (nx x3) (hI h (GR x0 0) (nx (((3200 : Int32)) + x3))), x3 + (1 : Int32)))))
noncomputable def L_X12_program_149 (h : Hp) (x0 : Nat) (x3 : Int32) : Option (Hp × Int32) := iterW (fun s : Hp × Int32 => B_X12_program_149 s.1 x0 s.2) (h, x3)
set_option maxHeartbeats 4000000 in
set_option maxRecDepth 100000 in
theorem go_X12_program_B149 {Γ : Cx} (hO : Ok Γ mX12_program) (h : Hp) (x0 : Nat) (x3 : Int32) (hx0 : Is x0 12) {K : (Hp × Int32) ⊕ (Hp × Int32) → Prop} (hC : ∀ (h : Hp) (x3 : Int32), K (.inl (h, x3)) → EW Γ mX12_program 149 [(0, rf Γ x0), (3, .int x3)] [] h) (hR : ∀ r, K (.inr r) → emHI r = tgt Γ) : EG Γ mX12_program 149 [(0, rf Γ x0), (3, .int x3)] [] h (B_X12_program_149 h x0 x3) K := by
  unfold B_X12_program_149
  refine x_iload_n hO 1 rfl rfl dX12_program_149 ?_
  refine x_sipush hO (v := 800) (by decide) dX12_program_150 ?_
  refine x_icmp_ge hO (tg := 178) dX12_program_153 (by decide) ?_ ?_
  · refine x_aload_n hO 0 rfl rfl dX12_program_178 ?_
    refine x_aload_n hO 0 rfl rfl dX12_program_179 ?_
    refine x_getI hO fl_RX12_265 hx0 dX12_program_180 ?_
    refine y_HI (x_callV hO lv_RX12_146 hx0 vc_12 (by decide) (As := [.int (hI h x0 23)]) rfl (Nat.le_of_ble_eq_true rfl) (ok_X12_gives (cG Γ) h x0 (hI h x0 23) hx0) dX12_program_183 rfl (Nat.le_of_ble_eq_true rfl)) (fun r1 => ?_)
    exact x_iret hO rfl dX12_program_186 (hR _)
  · refine x_aload_n hO 0 rfl rfl dX12_program_156 ?_
    refine x_getR hO fl_RX12_7 hx0 dX12_program_157 ?_
    refine x_iload_n hO 1 rfl rfl dX12_program_160 ?_
    refine x_aload_n hO 0 rfl rfl dX12_program_161 ?_
    refine x_getR hO fl_RX12_7 hx0 dX12_program_162 ?_
    refine x_sipush hO (v := 3200) (by decide) dX12_program_165 ?_
    refine x_iload_n hO 1 rfl rfl dX12_program_168 ?_
    refine x_iadd hO dX12_program_169 ?_
    refine x_iald hO (gr_12_0 hx0) dX12_program_170 ?_
    refine x_iast hO (gr_12_0 hx0) dX12_program_171 ?_
    refine x_iinc hO 1 (v := 1) [(3, .int (x3 + (1 : Int32))), (0, rf Γ x0)] dX12_program_172 rfl (by decide) (by decide) rfl ?_
    refine x_goto hO (tg := 149) dX12_program_175 (by decide) ?_
    exact x_leafs [1, 0] rfl (hC (uI h (GR x0 0) (nx x3) (hI h (GR x0 0) (nx (((3200 : Int32)) + x3)))) (x3 + (1 : Int32)))
set_option maxHeartbeats 4000000 in
set_option maxRecDepth 100000 in
theorem go_X12_program_L149 {Γ : Cx} (hO : Ok Γ mX12_program) (h : Hp) (x0 : Nat) (x3 : Int32) (hx0 : Is x0 12) {K : Hp × Int32 → Prop} (hR : ∀ r, K (r) → emHI r = tgt Γ) : EG Γ mX12_program 149 [(0, rf Γ x0), (3, .int x3)] [] h (L_X12_program_149 h x0 x3) K := by
  have q := x_loop (Γ := Γ) (M := mX12_program) (pc := 149) (B := fun s : Hp × Int32 => B_X12_program_149 s.1 x0 s.2) (lvf := fun s => [(0, rf Γ x0), (3, .int s.2)]) (hf := fun s => s.1) (Ky := K) (fun s => go_X12_program_B149 hO s.1 x0 s.2 hx0 (fun _ _ => id) hR) (h, x3)
  exact q
noncomputable def J_X12_program_109 (h : Hp) (x0 : Nat) : Option (Hp × Int32) :=
  if (hI (uI h x0 15 (hI h x0 17)) x0 17) ≤ 0 then gd (ib ((3205 : Int32)) (LEN (GR x0 0))) (gd (ib ((5 : Int32)) (LEN (GR x0 0))) (L_X12_program_149 (uI (uI h x0 15 (hI h x0 17)) (GR x0 0) (nx ((5 : Int32))) (hI (uI h x0 15 (hI h x0 17)) (GR x0 0) (nx ((3205 : Int32))))) x0 ((436 : Int32)))) else (F_X12_refuse (uI h x0 15 (hI h x0 17)) x0 ((9 : Int32))).bind (fun r1 => some ((r1.1, r1.2)))
set_option maxHeartbeats 4000000 in
set_option maxRecDepth 100000 in
theorem go_X12_program_J109 {Γ : Cx} (hO : Ok Γ mX12_program) (h : Hp) (x0 : Nat) (hx0 : Is x0 12) {K : Hp × Int32 → Prop} (hR : ∀ r, K r → emHI r = tgt Γ) : EG Γ mX12_program 109 [(0, rf Γ x0)] [] h (J_X12_program_109 h x0) K := by
  unfold J_X12_program_109
  refine x_aload_n hO 0 rfl rfl dX12_program_109 ?_
  refine x_aload_n hO 0 rfl rfl dX12_program_110 ?_
  refine x_getI hO fl_RX12_207 hx0 dX12_program_111 ?_
  refine x_putI hO fl_RX12_34 hx0 dX12_program_114 ?_
  refine x_aload_n hO 0 rfl rfl dX12_program_117 ?_
  refine x_getI hO fl_RX12_207 hx0 dX12_program_118 ?_
  refine x_if_le hO (tg := 131) dX12_program_121 (by decide) ?_ ?_
  · refine x_aload_n hO 0 rfl rfl dX12_program_131 ?_
    refine x_getR hO fl_RX12_7 hx0 dX12_program_132 ?_
    refine x_iconst hO (v := 5) (by decide) dX12_program_135 ?_
    refine x_aload_n hO 0 rfl rfl dX12_program_136 ?_
    refine x_getR hO fl_RX12_7 hx0 dX12_program_137 ?_
    refine x_sipush hO (v := 3205) (by decide) dX12_program_140 ?_
    refine x_iald hO (gr_12_0 hx0) dX12_program_143 ?_
    refine x_iast hO (gr_12_0 hx0) dX12_program_144 ?_
    refine x_sipush hO (v := 436) (by decide) dX12_program_145 ?_
    refine x_istore_n hO rfl [(3, .int ((436 : Int32))), (0, rf Γ x0)] dX12_program_148 (by decide) rfl ?_
    exact x_sub [1, 0] rfl (go_X12_program_L149 hO (uI (uI h x0 15 (hI h x0 17)) (GR x0 0) (nx ((5 : Int32))) (hI (uI h x0 15 (hI h x0 17)) (GR x0 0) (nx ((3205 : Int32))))) x0 ((436 : Int32)) hx0 hR)
  · refine x_aload_n hO 0 rfl rfl dX12_program_124 ?_
    refine x_bipush hO (v := 9) (by decide) dX12_program_125 ?_
    refine y_HI (x_callV hO lv_RX12_137 hx0 vc_12 (by decide) (As := [.int ((9 : Int32))]) rfl (Nat.le_of_ble_eq_true rfl) (ok_X12_refuse (cG Γ) (uI h x0 15 (hI h x0 17)) x0 ((9 : Int32)) hx0) dX12_program_127 rfl (Nat.le_of_ble_eq_true rfl)) (fun r1 => ?_)
    exact x_iret hO rfl dX12_program_130 (hR _)
noncomputable def F_X12_program (h : Hp) (x0 : Nat) (x1 : Int32) : Option (Hp × Int32) :=
  if x1 < 0 then (F_X12_refuse h x0 ((1 : Int32))).bind (fun r1 => some ((r1.1, r1.2))) else if (hI h x0 9) < x1 then (F_X12_refuse h x0 ((1 : Int32))).bind (fun r2 => some ((r2.1, r2.2))) else if x1 ≤ ((300 : Int32)) then (F_X12_begins h x0 x1).bind (fun r3 => gd (ib ((3205 : Int32)) (LEN (GR x0 0))) (if (hI (uI (uI (uI r3 (GR x0 0) (nx ((3205 : Int32))) ((0 : Int32))) x0 22 ((0 : Int32))) x0 23 ((0 : Int32))) x0 11) = 0 then (L_X12_program_62 (uI (uI (uI r3 (GR x0 0) (nx ((3205 : Int32))) ((0 : Int32))) x0 22 ((0 : Int32))) x0 23 ((0 : Int32))) x0 ((0 : Int32))).bind (fun e4 => if (hI e4 x0 17) = 0 then if (hI e4 x0 22) ≤ 0 then J_X12_program_109 e4 x0 else (F_X12_fails e4 x0 ((2 : Int32))).bind (fun r5 => J_X12_program_109 r5.1 x0) else J_X12_program_109 e4 x0) else (L_X12_program_62 (uI (uI (uI r3 (GR x0 0) (nx ((3205 : Int32))) ((0 : Int32))) x0 22 ((0 : Int32))) x0 23 ((0 : Int32))) x0 ((1 : Int32))).bind (fun e6 => if (hI e6 x0 17) = 0 then if (hI e6 x0 22) ≤ 0 then J_X12_program_109 e6 x0 else (F_X12_fails e6 x0 ((2 : Int32))).bind (fun r7 => J_X12_program_109 r7.1 x0) else J_X12_program_109 e6 x0))) else (F_X12_refuse h x0 ((1 : Int32))).bind (fun r8 => some ((r8.1, r8.2)))
set_option maxHeartbeats 4000000 in
set_option maxRecDepth 100000 in
theorem go_X12_program {Γ : Cx} (hO : Ok Γ mX12_program) (h : Hp) (x0 : Nat) (x1 : Int32) (hx0 : Is x0 12) {K : Hp × Int32 → Prop} (hR : ∀ r, K r → emHI r = tgt Γ) : EG Γ mX12_program 0 [(0, rf Γ x0), (1, .int x1)] [] h (F_X12_program h x0 x1) K := by
  unfold F_X12_program
  refine x_iload_n hO 1 rfl rfl dX12_program_0 ?_
  refine x_if_lt hO (tg := 19) dX12_program_1 (by decide) ?_ ?_
  · refine x_aload_n hO 0 rfl rfl dX12_program_19 ?_
    refine x_iconst hO (v := 1) (by decide) dX12_program_20 ?_
    refine y_HI (x_callV hO lv_RX12_137 hx0 vc_12 (by decide) (As := [.int ((1 : Int32))]) rfl (Nat.le_of_ble_eq_true rfl) (ok_X12_refuse (cG Γ) h x0 ((1 : Int32)) hx0) dX12_program_21 rfl (Nat.le_of_ble_eq_true rfl)) (fun r1 => ?_)
    exact x_iret hO rfl dX12_program_24 (hR _)
  · refine x_iload_n hO 1 rfl rfl dX12_program_4 ?_
    refine x_aload_n hO 0 rfl rfl dX12_program_5 ?_
    refine x_getI hO fl_RX12_161 hx0 dX12_program_6 ?_
    refine x_icmp_gt hO (tg := 19) dX12_program_9 (by decide) ?_ ?_
    · refine x_aload_n hO 0 rfl rfl dX12_program_19 ?_
      refine x_iconst hO (v := 1) (by decide) dX12_program_20 ?_
      refine y_HI (x_callV hO lv_RX12_137 hx0 vc_12 (by decide) (As := [.int ((1 : Int32))]) rfl (Nat.le_of_ble_eq_true rfl) (ok_X12_refuse (cG Γ) h x0 ((1 : Int32)) hx0) dX12_program_21 rfl (Nat.le_of_ble_eq_true rfl)) (fun r2 => ?_)
      exact x_iret hO rfl dX12_program_24 (hR _)
    · refine x_iload_n hO 1 rfl rfl dX12_program_12 ?_
      refine x_sipush hO (v := 300) (by decide) dX12_program_13 ?_
      refine x_icmp_le hO (tg := 25) dX12_program_16 (by decide) ?_ ?_
      · refine x_aload_n hO 0 rfl rfl dX12_program_25 ?_
        refine x_iload_n hO 1 rfl rfl dX12_program_26 ?_
        refine y_HV (x_callV hO lv_RX12_254 hx0 vc_12 (by decide) (As := [.int x1]) rfl (Nat.le_of_ble_eq_true rfl) (ok_X12_begins (cG Γ) h x0 x1 hx0) dX12_program_27 rfl (Nat.le_of_ble_eq_true rfl)) (fun r3 => ?_)
        refine x_aload_n hO 0 rfl rfl dX12_program_30 ?_
        refine x_getR hO fl_RX12_7 hx0 dX12_program_31 ?_
        refine x_sipush hO (v := 3205) (by decide) dX12_program_34 ?_
        refine x_iconst hO (v := 0) (by decide) dX12_program_37 ?_
        refine x_iast hO (gr_12_0 hx0) dX12_program_38 ?_
        refine x_aload_n hO 0 rfl rfl dX12_program_39 ?_
        refine x_iconst hO (v := 0) (by decide) dX12_program_40 ?_
        refine x_putI hO fl_RX12_262 hx0 dX12_program_41 ?_
        refine x_aload_n hO 0 rfl rfl dX12_program_44 ?_
        refine x_iconst hO (v := 0) (by decide) dX12_program_45 ?_
        refine x_putI hO fl_RX12_265 hx0 dX12_program_46 ?_
        refine x_aload_n hO 0 rfl rfl dX12_program_49 ?_
        refine x_getI hO fl_RX12_183 hx0 dX12_program_50 ?_
        refine x_if_eq hO (tg := 60) dX12_program_53 (by decide) ?_ ?_
        · refine x_iconst hO (v := 0) (by decide) dX12_program_60 ?_
          refine x_istore_n hO rfl [(2, .int ((0 : Int32))), (0, rf Γ x0), (1, .int x1)] dX12_program_61 (by decide) rfl ?_
          refine x_bind (x_sub [1, 0] rfl (go_X12_program_L62 hO (uI (uI (uI r3 (GR x0 0) (nx ((3205 : Int32))) ((0 : Int32))) x0 22 ((0 : Int32))) x0 23 ((0 : Int32))) x0 ((0 : Int32)) hx0 (fun y4_0 hx => ?_)))
          refine x_run (t := (if (hI y4_0 x0 17) = 0 then if (hI y4_0 x0 22) ≤ 0 then J_X12_program_109 y4_0 x0 else (F_X12_fails y4_0 x0 ((2 : Int32))).bind (fun r5 => J_X12_program_109 r5.1 x0) else J_X12_program_109 y4_0 x0 : Option (Hp × Int32))) hx ?_
          refine x_aload_n hO 0 rfl rfl dX12_program_89 ?_
          refine x_getI hO fl_RX12_207 hx0 dX12_program_90 ?_
          refine x_if_ne hO (tg := 109) dX12_program_93 (by decide) ?_ ?_
          · exact x_sub [0] rfl (go_X12_program_J109 hO y4_0 x0 hx0 hR)
          · refine x_aload_n hO 0 rfl rfl dX12_program_96 ?_
            refine x_getI hO fl_RX12_262 hx0 dX12_program_97 ?_
            refine x_if_le hO (tg := 109) dX12_program_100 (by decide) ?_ ?_
            · exact x_sub [0] rfl (go_X12_program_J109 hO y4_0 x0 hx0 hR)
            · refine x_aload_n hO 0 rfl rfl dX12_program_103 ?_
              refine x_iconst hO (v := 2) (by decide) dX12_program_104 ?_
              refine y_HI (x_callV hO lv_RX12_213 hx0 vc_12 (by decide) (As := [.int ((2 : Int32))]) rfl (Nat.le_of_ble_eq_true rfl) (ok_X12_fails (cG Γ) y4_0 x0 ((2 : Int32)) hx0) dX12_program_105 rfl (Nat.le_of_ble_eq_true rfl)) (fun r5 => ?_)
              refine x_pop_i hO dX12_program_108 ?_
              exact x_sub [0] rfl (go_X12_program_J109 hO r5.1 x0 hx0 hR)
        · refine x_iconst hO (v := 1) (by decide) dX12_program_56 ?_
          refine x_goto hO (tg := 61) dX12_program_57 (by decide) ?_
          refine x_istore_n hO rfl [(2, .int ((1 : Int32))), (0, rf Γ x0), (1, .int x1)] dX12_program_61 (by decide) rfl ?_
          refine x_bind (x_sub [1, 0] rfl (go_X12_program_L62 hO (uI (uI (uI r3 (GR x0 0) (nx ((3205 : Int32))) ((0 : Int32))) x0 22 ((0 : Int32))) x0 23 ((0 : Int32))) x0 ((1 : Int32)) hx0 (fun y6_0 hx => ?_)))
          refine x_run (t := (if (hI y6_0 x0 17) = 0 then if (hI y6_0 x0 22) ≤ 0 then J_X12_program_109 y6_0 x0 else (F_X12_fails y6_0 x0 ((2 : Int32))).bind (fun r7 => J_X12_program_109 r7.1 x0) else J_X12_program_109 y6_0 x0 : Option (Hp × Int32))) hx ?_
          refine x_aload_n hO 0 rfl rfl dX12_program_89 ?_
          refine x_getI hO fl_RX12_207 hx0 dX12_program_90 ?_
          refine x_if_ne hO (tg := 109) dX12_program_93 (by decide) ?_ ?_
          · exact x_sub [0] rfl (go_X12_program_J109 hO y6_0 x0 hx0 hR)
          · refine x_aload_n hO 0 rfl rfl dX12_program_96 ?_
            refine x_getI hO fl_RX12_262 hx0 dX12_program_97 ?_
            refine x_if_le hO (tg := 109) dX12_program_100 (by decide) ?_ ?_
            · exact x_sub [0] rfl (go_X12_program_J109 hO y6_0 x0 hx0 hR)
            · refine x_aload_n hO 0 rfl rfl dX12_program_103 ?_
              refine x_iconst hO (v := 2) (by decide) dX12_program_104 ?_
              refine y_HI (x_callV hO lv_RX12_213 hx0 vc_12 (by decide) (As := [.int ((2 : Int32))]) rfl (Nat.le_of_ble_eq_true rfl) (ok_X12_fails (cG Γ) y6_0 x0 ((2 : Int32)) hx0) dX12_program_105 rfl (Nat.le_of_ble_eq_true rfl)) (fun r7 => ?_)
              refine x_pop_i hO dX12_program_108 ?_
              exact x_sub [0] rfl (go_X12_program_J109 hO r7.1 x0 hx0 hR)
      · refine x_aload_n hO 0 rfl rfl dX12_program_19 ?_
        refine x_iconst hO (v := 1) (by decide) dX12_program_20 ?_
        refine y_HI (x_callV hO lv_RX12_137 hx0 vc_12 (by decide) (As := [.int ((1 : Int32))]) rfl (Nat.le_of_ble_eq_true rfl) (ok_X12_refuse (cG Γ) h x0 ((1 : Int32)) hx0) dX12_program_21 rfl (Nat.le_of_ble_eq_true rfl)) (fun r8 => ?_)
        exact x_iret hO rfl dX12_program_24 (hR _)
theorem ok_X12_program (G : Gl) (h : Hp) (x0 : Nat) (x1 : Int32) (hx0 : Is x0 12) : CN G mX12_program [.ref (gb G + x0), .int x1] h ((F_X12_program h x0 x1).map (emHI)) := CN.fn pn_RX12 (Nat.le_of_ble_eq_true rfl) (fun Γ hG hO => by subst hG; exact go_X12_program hO h x0 x1 hx0 (fun _ q => q))
noncomputable def F_X1_readCode (h : Hp) (x0 : Nat) : Option (Hp) :=
  if (hI h (GR x0 1) 0) < ((4 : Int32)) then (F_X7_advance h (GR x0 0)).bind (fun r1 => (F_X7_nameStands r1 (GR x0 0)).bind (fun r2 => if r2.2 = 0 then some r2.1 else (F_X7_nameHere r2.1 (GR x0 0)).bind (fun r3 => (F_X1_find r2.1 (GR x0 2) (hI r2.1 (GR x0 1) 0) r3).bind (fun r4 => if r4 = ((-1 : Int32)) then (F_X7_advance r2.1 (GR x0 0)).bind (fun r5 => (F_X7_takeWord r5 (GR x0 0) 1).bind (fun r6 => if r6.2 = 0 then some r6.1 else (F_X7_numberStands r6.1 (GR x0 0) ((0 : Int32)) ((99 : Int32))).bind (fun r7 => if r7.2 = 0 then some r7.1 else (F_X7_numberHere r7.1 (GR x0 0)).bind (fun r8 => (F_X7_advance r7.1 (GR x0 0)).bind (fun r9 => (F_X7_takeSign r9 (GR x0 0)).bind (fun r10 => if r10.2 = 0 then some r10.1 else gd (ib (hI r10.1 (GR x0 1) 0) (LEN (GR x0 2))) ((F_X0_addCode (uL r10.1 (GR x0 2) (nx (hI r10.1 (GR x0 1) 0)) r3) (GR x0 1) r8).bind (fun r11 => some r11)))))))) else (F_X7_tell r2.1 (GR x0 0) ((3 : Int32))).bind (fun r12 => some r12.1))))) else (F_X7_tell h (GR x0 0) ((6 : Int32))).bind (fun r13 => some r13.1)
set_option maxHeartbeats 4000000 in
set_option maxRecDepth 100000 in
theorem go_X1_readCode {Γ : Cx} (hO : Ok Γ mX1_readCode) (h : Hp) (x0 : Nat) (hx0 : Is x0 1) {K : Hp → Prop} (hR : ∀ r, K r → emHV r = tgt Γ) : EG Γ mX1_readCode 0 [(0, rf Γ x0)] [] h (F_X1_readCode h x0) K := by
  unfold F_X1_readCode
  refine x_aload_n hO 0 rfl rfl dX1_readCode_0 ?_
  refine x_getR hO fl_RX1_21 hx0 dX1_readCode_1 ?_
  refine x_getI hO fl_RX1_77 (gr_1_1 hx0) dX1_readCode_4 ?_
  refine x_iconst hO (v := 4) (by decide) dX1_readCode_7 ?_
  refine x_icmp_lt hO (tg := 22) dX1_readCode_8 (by decide) ?_ ?_
  · refine x_aload_n hO 0 rfl rfl dX1_readCode_22 ?_
    refine x_getR hO fl_RX1_12 hx0 dX1_readCode_23 ?_
    refine y_HV (x_callV hO lv_RX1_80 (gr_1_0 hx0) vc_7 (by decide) (As := []) rfl (Nat.le_of_ble_eq_true rfl) (ok_X7_advance (cG Γ) h (GR x0 0) (gr_1_0 hx0)) dX1_readCode_26 rfl (Nat.le_of_ble_eq_true rfl)) (fun r1 => ?_)
    refine x_aload_n hO 0 rfl rfl dX1_readCode_29 ?_
    refine x_getR hO fl_RX1_12 hx0 dX1_readCode_30 ?_
    refine y_HI (x_callV hO lv_RX1_83 (gr_1_0 hx0) vc_7 (by decide) (As := []) rfl (Nat.le_of_ble_eq_true rfl) (ok_X7_nameStands (cG Γ) r1 (GR x0 0) (gr_1_0 hx0)) dX1_readCode_33 rfl (Nat.le_of_ble_eq_true rfl)) (fun r2 => ?_)
    refine x_if_ne hO (tg := 40) dX1_readCode_36 (by decide) ?_ ?_
    · refine x_aload_n hO 0 rfl rfl dX1_readCode_40 ?_
      refine x_getR hO fl_RX1_12 hx0 dX1_readCode_41 ?_
      refine y_PL (x_callV hO lv_RX1_86 (gr_1_0 hx0) vc_7 (by decide) (As := []) rfl (Nat.le_of_ble_eq_true rfl) (ok_X7_nameHere (cG Γ) r2.1 (GR x0 0) (gr_1_0 hx0)) dX1_readCode_44 rfl (Nat.le_of_ble_eq_true rfl)) (fun r3 => ?_)
      refine x_lstore_n hO rfl [(1, .long r3), (0, rf Γ x0)] dX1_readCode_47 (by decide) rfl ?_
      refine x_aload_n hO 1 rfl rfl dX1_readCode_48 ?_
      refine x_getR hO fl_RX1_25 hx0 dX1_readCode_49 ?_
      refine x_aload_n hO 1 rfl rfl dX1_readCode_52 ?_
      refine x_getR hO fl_RX1_21 hx0 dX1_readCode_53 ?_
      refine x_getI hO fl_RX1_77 (gr_1_1 hx0) dX1_readCode_56 ?_
      refine x_lload_n hO 0 rfl rfl dX1_readCode_59 ?_
      refine y_PI (x_callS hO lt_RX1_90 (As := [rf Γ (GR x0 2), .int (hI r2.1 (GR x0 1) 0), .long r3]) rfl (Nat.le_of_ble_eq_true rfl) (ok_X1_find (cG Γ) r2.1 (GR x0 2) (hI r2.1 (GR x0 1) 0) r3 (gr_1_2 hx0)) dX1_readCode_60 rfl (Nat.le_of_ble_eq_true rfl)) (fun r4 => ?_)
      refine x_iconst hO (v := -1) (by decide) dX1_readCode_63 ?_
      refine x_icmp_eq hO (tg := 77) dX1_readCode_64 (by decide) ?_ ?_
      · refine x_aload_n hO 1 rfl rfl dX1_readCode_77 ?_
        refine x_getR hO fl_RX1_12 hx0 dX1_readCode_78 ?_
        refine y_HV (x_callV hO lv_RX1_80 (gr_1_0 hx0) vc_7 (by decide) (As := []) rfl (Nat.le_of_ble_eq_true rfl) (ok_X7_advance (cG Γ) r2.1 (GR x0 0) (gr_1_0 hx0)) dX1_readCode_81 rfl (Nat.le_of_ble_eq_true rfl)) (fun r5 => ?_)
        refine x_aload_n hO 1 rfl rfl dX1_readCode_84 ?_
        refine x_getR hO fl_RX1_12 hx0 dX1_readCode_85 ?_
        refine x_ldcS hO sr_RX1_94 dX1_readCode_88 ?_
        refine y_HI (x_callV hO lv_RX1_96 (gr_1_0 hx0) vc_7 (by decide) (As := [sf Γ 1]) rfl (Nat.le_of_ble_eq_true rfl) (ok_X7_takeWord (cG Γ) r5 (GR x0 0) 1 (gr_1_0 hx0) ((by decide))) dX1_readCode_90 rfl (Nat.le_of_ble_eq_true rfl)) (fun r6 => ?_)
        refine x_if_eq hO (tg := 109) dX1_readCode_93 (by decide) ?_ ?_
        · exact x_vret hO rfl dX1_readCode_109 (hR _)
        · refine x_aload_n hO 1 rfl rfl dX1_readCode_96 ?_
          refine x_getR hO fl_RX1_12 hx0 dX1_readCode_97 ?_
          refine x_iconst hO (v := 0) (by decide) dX1_readCode_100 ?_
          refine x_bipush hO (v := 99) (by decide) dX1_readCode_101 ?_
          refine y_HI (x_callV hO lv_RX1_99 (gr_1_0 hx0) vc_7 (by decide) (As := [.int ((0 : Int32)), .int ((99 : Int32))]) rfl (Nat.le_of_ble_eq_true rfl) (ok_X7_numberStands (cG Γ) r6.1 (GR x0 0) ((0 : Int32)) ((99 : Int32)) (gr_1_0 hx0)) dX1_readCode_103 rfl (Nat.le_of_ble_eq_true rfl)) (fun r7 => ?_)
          refine x_if_ne hO (tg := 110) dX1_readCode_106 (by decide) ?_ ?_
          · refine x_aload_n hO 1 rfl rfl dX1_readCode_110 ?_
            refine x_getR hO fl_RX1_12 hx0 dX1_readCode_111 ?_
            refine y_PI (x_callV hO lv_RX1_103 (gr_1_0 hx0) vc_7 (by decide) (As := []) rfl (Nat.le_of_ble_eq_true rfl) (ok_X7_numberHere (cG Γ) r7.1 (GR x0 0) (gr_1_0 hx0)) dX1_readCode_114 rfl (Nat.le_of_ble_eq_true rfl)) (fun r8 => ?_)
            refine x_istore_n hO rfl [(3, .int r8), (1, .long r3), (0, rf Γ x0)] dX1_readCode_117 (by decide) rfl ?_
            refine x_aload_n hO 2 rfl rfl dX1_readCode_118 ?_
            refine x_getR hO fl_RX1_12 hx0 dX1_readCode_119 ?_
            refine y_HV (x_callV hO lv_RX1_80 (gr_1_0 hx0) vc_7 (by decide) (As := []) rfl (Nat.le_of_ble_eq_true rfl) (ok_X7_advance (cG Γ) r7.1 (GR x0 0) (gr_1_0 hx0)) dX1_readCode_122 rfl (Nat.le_of_ble_eq_true rfl)) (fun r9 => ?_)
            refine x_aload_n hO 2 rfl rfl dX1_readCode_125 ?_
            refine x_getR hO fl_RX1_12 hx0 dX1_readCode_126 ?_
            refine y_HI (x_callV hO lv_RX1_106 (gr_1_0 hx0) vc_7 (by decide) (As := []) rfl (Nat.le_of_ble_eq_true rfl) (ok_X7_takeSign (cG Γ) r9 (GR x0 0) (gr_1_0 hx0)) dX1_readCode_129 rfl (Nat.le_of_ble_eq_true rfl)) (fun r10 => ?_)
            refine x_if_ne hO (tg := 136) dX1_readCode_132 (by decide) ?_ ?_
            · refine x_aload_n hO 2 rfl rfl dX1_readCode_136 ?_
              refine x_getR hO fl_RX1_25 hx0 dX1_readCode_137 ?_
              refine x_aload_n hO 2 rfl rfl dX1_readCode_140 ?_
              refine x_getR hO fl_RX1_21 hx0 dX1_readCode_141 ?_
              refine x_getI hO fl_RX1_77 (gr_1_1 hx0) dX1_readCode_144 ?_
              refine x_lload_n hO 1 rfl rfl dX1_readCode_147 ?_
              refine x_last hO (gr_1_2 hx0) dX1_readCode_148 ?_
              refine x_aload_n hO 2 rfl rfl dX1_readCode_149 ?_
              refine x_getR hO fl_RX1_21 hx0 dX1_readCode_150 ?_
              refine x_iload_n hO 0 rfl rfl dX1_readCode_153 ?_
              refine y_HV (x_callV hO lv_RX1_109 (gr_1_1 hx0) vc_0 (by decide) (As := [.int r8]) rfl (Nat.le_of_ble_eq_true rfl) (ok_X0_addCode (cG Γ) (uL r10.1 (GR x0 2) (nx (hI r10.1 (GR x0 1) 0)) r3) (GR x0 1) r8 (gr_1_1 hx0)) dX1_readCode_154 rfl (Nat.le_of_ble_eq_true rfl)) (fun r11 => ?_)
              exact x_vret hO rfl dX1_readCode_157 (hR _)
            · exact x_vret hO rfl dX1_readCode_135 (hR _)
          · exact x_vret hO rfl dX1_readCode_109 (hR _)
      · refine x_aload_n hO 1 rfl rfl dX1_readCode_67 ?_
        refine x_getR hO fl_RX1_12 hx0 dX1_readCode_68 ?_
        refine x_iconst hO (v := 3) (by decide) dX1_readCode_71 ?_
        refine y_HI (x_callV hO lv_RX1_70 (gr_1_0 hx0) vc_7 (by decide) (As := [.int ((3 : Int32))]) rfl (Nat.le_of_ble_eq_true rfl) (ok_X7_tell (cG Γ) r2.1 (GR x0 0) ((3 : Int32)) (gr_1_0 hx0)) dX1_readCode_72 rfl (Nat.le_of_ble_eq_true rfl)) (fun r12 => ?_)
        refine x_pop_i hO dX1_readCode_75 ?_
        exact x_vret hO rfl dX1_readCode_76 (hR _)
    · exact x_vret hO rfl dX1_readCode_39 (hR _)
  · refine x_aload_n hO 0 rfl rfl dX1_readCode_11 ?_
    refine x_getR hO fl_RX1_12 hx0 dX1_readCode_12 ?_
    refine x_bipush hO (v := 6) (by decide) dX1_readCode_15 ?_
    refine y_HI (x_callV hO lv_RX1_70 (gr_1_0 hx0) vc_7 (by decide) (As := [.int ((6 : Int32))]) rfl (Nat.le_of_ble_eq_true rfl) (ok_X7_tell (cG Γ) h (GR x0 0) ((6 : Int32)) (gr_1_0 hx0)) dX1_readCode_17 rfl (Nat.le_of_ble_eq_true rfl)) (fun r13 => ?_)
    refine x_pop_i hO dX1_readCode_20 ?_
    exact x_vret hO rfl dX1_readCode_21 (hR _)
theorem ok_X1_readCode (G : Gl) (h : Hp) (x0 : Nat) (hx0 : Is x0 1) : CN G mX1_readCode [.ref (gb G + x0)] h ((F_X1_readCode h x0).map (emHV)) := CN.fn pn_RX1 (Nat.le_of_ble_eq_true rfl) (fun Γ hG hO => by subst hG; exact go_X1_readCode hO h x0 hx0 (fun _ q => q))
noncomputable def J_X1_readMean_172 (h : Hp) (x0 : Nat) (x1 : Int64) (x3 : Int32) : Option (Hp) :=
  (F_X7_takeSign h (GR x0 0)).bind (fun r1 => if r1.2 = 0 then some r1.1 else gd (ib (hI r1.1 (GR x0 1) 1) (LEN (GR x0 3))) ((F_X0_addMean (uL r1.1 (GR x0 3) (nx (hI r1.1 (GR x0 1) 1)) x1) (GR x0 1) x3).bind (fun r2 => some r2)))
set_option maxHeartbeats 4000000 in
set_option maxRecDepth 100000 in
theorem go_X1_readMean_J172 {Γ : Cx} (hO : Ok Γ mX1_readMean) (h : Hp) (x0 : Nat) (x1 : Int64) (x3 : Int32) (hx0 : Is x0 1) {K : Hp → Prop} (hR : ∀ r, K r → emHV r = tgt Γ) : EG Γ mX1_readMean 172 [(0, rf Γ x0), (1, .long x1), (3, .int x3)] [] h (J_X1_readMean_172 h x0 x1 x3) K := by
  unfold J_X1_readMean_172
  refine x_aload_n hO 0 rfl rfl dX1_readMean_172 ?_
  refine x_getR hO fl_RX1_12 hx0 dX1_readMean_173 ?_
  refine y_HI (x_callV hO lv_RX1_106 (gr_1_0 hx0) vc_7 (by decide) (As := []) rfl (Nat.le_of_ble_eq_true rfl) (ok_X7_takeSign (cG Γ) h (GR x0 0) (gr_1_0 hx0)) dX1_readMean_176 rfl (Nat.le_of_ble_eq_true rfl)) (fun r1 => ?_)
  refine x_if_ne hO (tg := 183) dX1_readMean_179 (by decide) ?_ ?_
  · refine x_aload_n hO 0 rfl rfl dX1_readMean_183 ?_
    refine x_getR hO fl_RX1_29 hx0 dX1_readMean_184 ?_
    refine x_aload_n hO 0 rfl rfl dX1_readMean_187 ?_
    refine x_getR hO fl_RX1_21 hx0 dX1_readMean_188 ?_
    refine x_getI hO fl_RX1_113 (gr_1_1 hx0) dX1_readMean_191 ?_
    refine x_lload_n hO 1 rfl rfl dX1_readMean_194 ?_
    refine x_last hO (gr_1_3 hx0) dX1_readMean_195 ?_
    refine x_aload_n hO 0 rfl rfl dX1_readMean_196 ?_
    refine x_getR hO fl_RX1_21 hx0 dX1_readMean_197 ?_
    refine x_iload_n hO 2 rfl rfl dX1_readMean_200 ?_
    refine y_HV (x_callV hO lv_RX1_128 (gr_1_1 hx0) vc_0 (by decide) (As := [.int x3]) rfl (Nat.le_of_ble_eq_true rfl) (ok_X0_addMean (cG Γ) (uL r1.1 (GR x0 3) (nx (hI r1.1 (GR x0 1) 1)) x1) (GR x0 1) x3 (gr_1_1 hx0)) dX1_readMean_201 rfl (Nat.le_of_ble_eq_true rfl)) (fun r2 => ?_)
    exact x_vret hO rfl dX1_readMean_204 (hR _)
  · exact x_vret hO rfl dX1_readMean_182 (hR _)
noncomputable def F_X1_readMean (h : Hp) (x0 : Nat) : Option (Hp) :=
  if (hI h (GR x0 1) 0) = 0 then (F_X7_tell h (GR x0 0) ((5 : Int32))).bind (fun r12 => some r12.1) else if (hI h (GR x0 1) 1) < ((20 : Int32)) then (F_X7_advance h (GR x0 0)).bind (fun r1 => (F_X7_nameStands r1 (GR x0 0)).bind (fun r2 => if r2.2 = 0 then some r2.1 else (F_X7_nameHere r2.1 (GR x0 0)).bind (fun r3 => (F_X1_find r2.1 (GR x0 3) (hI r2.1 (GR x0 1) 1) r3).bind (fun r4 => if r4 = ((-1 : Int32)) then (F_X7_advance r2.1 (GR x0 0)).bind (fun r5 => (F_X7_takeWord r5 (GR x0 0) 3).bind (fun r6 => if r6.2 = 0 then some r6.1 else (F_X1_readHoles r6.1 x0).bind (fun r7 => if r7.2 = ((-1 : Int32)) then some r7.1 else if (hI r7.1 (GR x0 0) 4) = ((3 : Int32)) then (F_X0_meanWith r7.1 (GR x0 1) ((hI r7.1 (GR x0 1) 0) - ((1 : Int32))) r7.2).bind (fun r8 => if r8 = ((-1 : Int32)) then J_X1_readMean_172 r7.1 x0 r3 r7.2 else (F_X7_tell r7.1 (GR x0 0) ((7 : Int32))).bind (fun r9 => some r9.1)) else J_X1_readMean_172 r7.1 x0 r3 r7.2))) else (F_X7_tell r2.1 (GR x0 0) ((3 : Int32))).bind (fun r10 => some r10.1))))) else (F_X7_tell h (GR x0 0) ((6 : Int32))).bind (fun r11 => some r11.1)
set_option maxHeartbeats 4000000 in
set_option maxRecDepth 100000 in
theorem go_X1_readMean {Γ : Cx} (hO : Ok Γ mX1_readMean) (h : Hp) (x0 : Nat) (hx0 : Is x0 1) {K : Hp → Prop} (hR : ∀ r, K r → emHV r = tgt Γ) : EG Γ mX1_readMean 0 [(0, rf Γ x0)] [] h (F_X1_readMean h x0) K := by
  unfold F_X1_readMean
  refine x_aload_n hO 0 rfl rfl dX1_readMean_0 ?_
  refine x_getR hO fl_RX1_21 hx0 dX1_readMean_1 ?_
  refine x_getI hO fl_RX1_77 (gr_1_1 hx0) dX1_readMean_4 ?_
  refine x_if_ne hO (tg := 20) dX1_readMean_7 (by decide) ?_ ?_
  · refine x_aload_n hO 0 rfl rfl dX1_readMean_20 ?_
    refine x_getR hO fl_RX1_21 hx0 dX1_readMean_21 ?_
    refine x_getI hO fl_RX1_113 (gr_1_1 hx0) dX1_readMean_24 ?_
    refine x_bipush hO (v := 20) (by decide) dX1_readMean_27 ?_
    refine x_icmp_lt hO (tg := 43) dX1_readMean_29 (by decide) ?_ ?_
    · refine x_aload_n hO 0 rfl rfl dX1_readMean_43 ?_
      refine x_getR hO fl_RX1_12 hx0 dX1_readMean_44 ?_
      refine y_HV (x_callV hO lv_RX1_80 (gr_1_0 hx0) vc_7 (by decide) (As := []) rfl (Nat.le_of_ble_eq_true rfl) (ok_X7_advance (cG Γ) h (GR x0 0) (gr_1_0 hx0)) dX1_readMean_47 rfl (Nat.le_of_ble_eq_true rfl)) (fun r1 => ?_)
      refine x_aload_n hO 0 rfl rfl dX1_readMean_50 ?_
      refine x_getR hO fl_RX1_12 hx0 dX1_readMean_51 ?_
      refine y_HI (x_callV hO lv_RX1_83 (gr_1_0 hx0) vc_7 (by decide) (As := []) rfl (Nat.le_of_ble_eq_true rfl) (ok_X7_nameStands (cG Γ) r1 (GR x0 0) (gr_1_0 hx0)) dX1_readMean_54 rfl (Nat.le_of_ble_eq_true rfl)) (fun r2 => ?_)
      refine x_if_ne hO (tg := 61) dX1_readMean_57 (by decide) ?_ ?_
      · refine x_aload_n hO 0 rfl rfl dX1_readMean_61 ?_
        refine x_getR hO fl_RX1_12 hx0 dX1_readMean_62 ?_
        refine y_PL (x_callV hO lv_RX1_86 (gr_1_0 hx0) vc_7 (by decide) (As := []) rfl (Nat.le_of_ble_eq_true rfl) (ok_X7_nameHere (cG Γ) r2.1 (GR x0 0) (gr_1_0 hx0)) dX1_readMean_65 rfl (Nat.le_of_ble_eq_true rfl)) (fun r3 => ?_)
        refine x_lstore_n hO rfl [(1, .long r3), (0, rf Γ x0)] dX1_readMean_68 (by decide) rfl ?_
        refine x_aload_n hO 1 rfl rfl dX1_readMean_69 ?_
        refine x_getR hO fl_RX1_29 hx0 dX1_readMean_70 ?_
        refine x_aload_n hO 1 rfl rfl dX1_readMean_73 ?_
        refine x_getR hO fl_RX1_21 hx0 dX1_readMean_74 ?_
        refine x_getI hO fl_RX1_113 (gr_1_1 hx0) dX1_readMean_77 ?_
        refine x_lload_n hO 0 rfl rfl dX1_readMean_80 ?_
        refine y_PI (x_callS hO lt_RX1_90 (As := [rf Γ (GR x0 3), .int (hI r2.1 (GR x0 1) 1), .long r3]) rfl (Nat.le_of_ble_eq_true rfl) (ok_X1_find (cG Γ) r2.1 (GR x0 3) (hI r2.1 (GR x0 1) 1) r3 (gr_1_3 hx0)) dX1_readMean_81 rfl (Nat.le_of_ble_eq_true rfl)) (fun r4 => ?_)
        refine x_iconst hO (v := -1) (by decide) dX1_readMean_84 ?_
        refine x_icmp_eq hO (tg := 98) dX1_readMean_85 (by decide) ?_ ?_
        · refine x_aload_n hO 1 rfl rfl dX1_readMean_98 ?_
          refine x_getR hO fl_RX1_12 hx0 dX1_readMean_99 ?_
          refine y_HV (x_callV hO lv_RX1_80 (gr_1_0 hx0) vc_7 (by decide) (As := []) rfl (Nat.le_of_ble_eq_true rfl) (ok_X7_advance (cG Γ) r2.1 (GR x0 0) (gr_1_0 hx0)) dX1_readMean_102 rfl (Nat.le_of_ble_eq_true rfl)) (fun r5 => ?_)
          refine x_aload_n hO 1 rfl rfl dX1_readMean_105 ?_
          refine x_getR hO fl_RX1_12 hx0 dX1_readMean_106 ?_
          refine x_ldcS hO sr_RX1_116 dX1_readMean_109 ?_
          refine y_HI (x_callV hO lv_RX1_96 (gr_1_0 hx0) vc_7 (by decide) (As := [sf Γ 3]) rfl (Nat.le_of_ble_eq_true rfl) (ok_X7_takeWord (cG Γ) r5 (GR x0 0) 3 (gr_1_0 hx0) ((by decide))) dX1_readMean_111 rfl (Nat.le_of_ble_eq_true rfl)) (fun r6 => ?_)
          refine x_if_ne hO (tg := 118) dX1_readMean_114 (by decide) ?_ ?_
          · refine x_aload_n hO 1 rfl rfl dX1_readMean_118 ?_
            refine y_HI (x_callV hO lv_RX1_118 hx0 vc_1 (by decide) (As := []) rfl (Nat.le_of_ble_eq_true rfl) (ok_X1_readHoles (cG Γ) r6.1 x0 hx0) dX1_readMean_119 rfl (Nat.le_of_ble_eq_true rfl)) (fun r7 => ?_)
            refine x_istore_n hO rfl [(3, .int r7.2), (1, .long r3), (0, rf Γ x0)] dX1_readMean_122 (by decide) rfl ?_
            refine x_iload_n hO 0 rfl rfl dX1_readMean_123 ?_
            refine x_iconst hO (v := -1) (by decide) dX1_readMean_124 ?_
            refine x_icmp_ne hO (tg := 129) dX1_readMean_125 (by decide) ?_ ?_
            · refine x_aload_n hO 2 rfl rfl dX1_readMean_129 ?_
              refine x_getR hO fl_RX1_12 hx0 dX1_readMean_130 ?_
              refine x_getI hO fl_RX1_121 (gr_1_0 hx0) dX1_readMean_133 ?_
              refine x_iconst hO (v := 3) (by decide) dX1_readMean_136 ?_
              refine x_icmp_ne hO (tg := 172) dX1_readMean_137 (by decide) ?_ ?_
              · exact x_sub [2, 1, 0] rfl (go_X1_readMean_J172 hO r7.1 x0 r3 r7.2 hx0 hR)
              · refine x_aload_n hO 2 rfl rfl dX1_readMean_140 ?_
                refine x_getR hO fl_RX1_21 hx0 dX1_readMean_141 ?_
                refine x_aload_n hO 2 rfl rfl dX1_readMean_144 ?_
                refine x_getR hO fl_RX1_21 hx0 dX1_readMean_145 ?_
                refine x_getI hO fl_RX1_77 (gr_1_1 hx0) dX1_readMean_148 ?_
                refine x_iconst hO (v := 1) (by decide) dX1_readMean_151 ?_
                refine x_isub hO dX1_readMean_152 ?_
                refine x_iload_n hO 0 rfl rfl dX1_readMean_153 ?_
                refine y_PI (x_callV hO lv_RX1_124 (gr_1_1 hx0) vc_0 (by decide) (As := [.int ((hI r7.1 (GR x0 1) 0) - ((1 : Int32))), .int r7.2]) rfl (Nat.le_of_ble_eq_true rfl) (ok_X0_meanWith (cG Γ) r7.1 (GR x0 1) ((hI r7.1 (GR x0 1) 0) - ((1 : Int32))) r7.2 (gr_1_1 hx0)) dX1_readMean_154 rfl (Nat.le_of_ble_eq_true rfl)) (fun r8 => ?_)
                refine x_iconst hO (v := -1) (by decide) dX1_readMean_157 ?_
                refine x_icmp_eq hO (tg := 172) dX1_readMean_158 (by decide) ?_ ?_
                · exact x_sub [2, 1, 0] rfl (go_X1_readMean_J172 hO r7.1 x0 r3 r7.2 hx0 hR)
                · refine x_aload_n hO 2 rfl rfl dX1_readMean_161 ?_
                  refine x_getR hO fl_RX1_12 hx0 dX1_readMean_162 ?_
                  refine x_bipush hO (v := 7) (by decide) dX1_readMean_165 ?_
                  refine y_HI (x_callV hO lv_RX1_70 (gr_1_0 hx0) vc_7 (by decide) (As := [.int ((7 : Int32))]) rfl (Nat.le_of_ble_eq_true rfl) (ok_X7_tell (cG Γ) r7.1 (GR x0 0) ((7 : Int32)) (gr_1_0 hx0)) dX1_readMean_167 rfl (Nat.le_of_ble_eq_true rfl)) (fun r9 => ?_)
                  refine x_pop_i hO dX1_readMean_170 ?_
                  exact x_vret hO rfl dX1_readMean_171 (hR _)
            · exact x_vret hO rfl dX1_readMean_128 (hR _)
          · exact x_vret hO rfl dX1_readMean_117 (hR _)
        · refine x_aload_n hO 1 rfl rfl dX1_readMean_88 ?_
          refine x_getR hO fl_RX1_12 hx0 dX1_readMean_89 ?_
          refine x_iconst hO (v := 3) (by decide) dX1_readMean_92 ?_
          refine y_HI (x_callV hO lv_RX1_70 (gr_1_0 hx0) vc_7 (by decide) (As := [.int ((3 : Int32))]) rfl (Nat.le_of_ble_eq_true rfl) (ok_X7_tell (cG Γ) r2.1 (GR x0 0) ((3 : Int32)) (gr_1_0 hx0)) dX1_readMean_93 rfl (Nat.le_of_ble_eq_true rfl)) (fun r10 => ?_)
          refine x_pop_i hO dX1_readMean_96 ?_
          exact x_vret hO rfl dX1_readMean_97 (hR _)
      · exact x_vret hO rfl dX1_readMean_60 (hR _)
    · refine x_aload_n hO 0 rfl rfl dX1_readMean_32 ?_
      refine x_getR hO fl_RX1_12 hx0 dX1_readMean_33 ?_
      refine x_bipush hO (v := 6) (by decide) dX1_readMean_36 ?_
      refine y_HI (x_callV hO lv_RX1_70 (gr_1_0 hx0) vc_7 (by decide) (As := [.int ((6 : Int32))]) rfl (Nat.le_of_ble_eq_true rfl) (ok_X7_tell (cG Γ) h (GR x0 0) ((6 : Int32)) (gr_1_0 hx0)) dX1_readMean_38 rfl (Nat.le_of_ble_eq_true rfl)) (fun r11 => ?_)
      refine x_pop_i hO dX1_readMean_41 ?_
      exact x_vret hO rfl dX1_readMean_42 (hR _)
  · refine x_aload_n hO 0 rfl rfl dX1_readMean_10 ?_
    refine x_getR hO fl_RX1_12 hx0 dX1_readMean_11 ?_
    refine x_iconst hO (v := 5) (by decide) dX1_readMean_14 ?_
    refine y_HI (x_callV hO lv_RX1_70 (gr_1_0 hx0) vc_7 (by decide) (As := [.int ((5 : Int32))]) rfl (Nat.le_of_ble_eq_true rfl) (ok_X7_tell (cG Γ) h (GR x0 0) ((5 : Int32)) (gr_1_0 hx0)) dX1_readMean_15 rfl (Nat.le_of_ble_eq_true rfl)) (fun r12 => ?_)
    refine x_pop_i hO dX1_readMean_18 ?_
    exact x_vret hO rfl dX1_readMean_19 (hR _)
theorem ok_X1_readMean (G : Gl) (h : Hp) (x0 : Nat) (hx0 : Is x0 1) : CN G mX1_readMean [.ref (gb G + x0)] h ((F_X1_readMean h x0).map (emHV)) := CN.fn pn_RX1 (Nat.le_of_ble_eq_true rfl) (fun Γ hG hO => by subst hG; exact go_X1_readMean hO h x0 hx0 (fun _ q => q))
noncomputable def F_X1_readMeanName (h : Hp) (x0 : Nat) : Option (Hp × Int32) :=
  (F_X7_nameStands h (GR x0 0)).bind (fun r1 => if r1.2 = 0 then some ((r1.1, (-1 : Int32))) else (F_X7_nameHere r1.1 (GR x0 0)).bind (fun r2 => (F_X1_find r1.1 (GR x0 3) (hI r1.1 (GR x0 1) 1) r2).bind (fun r3 => if r3 = ((-1 : Int32)) then (F_X7_tell r1.1 (GR x0 0) ((3 : Int32))).bind (fun r4 => some ((r4.1, r3))) else some ((r1.1, r3)))))
set_option maxHeartbeats 4000000 in
set_option maxRecDepth 100000 in
theorem go_X1_readMeanName {Γ : Cx} (hO : Ok Γ mX1_readMeanName) (h : Hp) (x0 : Nat) (hx0 : Is x0 1) {K : Hp × Int32 → Prop} (hR : ∀ r, K r → emHI r = tgt Γ) : EG Γ mX1_readMeanName 0 [(0, rf Γ x0)] [] h (F_X1_readMeanName h x0) K := by
  unfold F_X1_readMeanName
  refine x_aload_n hO 0 rfl rfl dX1_readMeanName_0 ?_
  refine x_getR hO fl_RX1_12 hx0 dX1_readMeanName_1 ?_
  refine y_HI (x_callV hO lv_RX1_83 (gr_1_0 hx0) vc_7 (by decide) (As := []) rfl (Nat.le_of_ble_eq_true rfl) (ok_X7_nameStands (cG Γ) h (GR x0 0) (gr_1_0 hx0)) dX1_readMeanName_4 rfl (Nat.le_of_ble_eq_true rfl)) (fun r1 => ?_)
  refine x_if_ne hO (tg := 12) dX1_readMeanName_7 (by decide) ?_ ?_
  · refine x_aload_n hO 0 rfl rfl dX1_readMeanName_12 ?_
    refine x_getR hO fl_RX1_29 hx0 dX1_readMeanName_13 ?_
    refine x_aload_n hO 0 rfl rfl dX1_readMeanName_16 ?_
    refine x_getR hO fl_RX1_21 hx0 dX1_readMeanName_17 ?_
    refine x_getI hO fl_RX1_113 (gr_1_1 hx0) dX1_readMeanName_20 ?_
    refine x_aload_n hO 0 rfl rfl dX1_readMeanName_23 ?_
    refine x_getR hO fl_RX1_12 hx0 dX1_readMeanName_24 ?_
    refine y_PL (x_callV hO lv_RX1_86 (gr_1_0 hx0) vc_7 (by decide) (As := []) rfl (Nat.le_of_ble_eq_true rfl) (ok_X7_nameHere (cG Γ) r1.1 (GR x0 0) (gr_1_0 hx0)) dX1_readMeanName_27 rfl (Nat.le_of_ble_eq_true rfl)) (fun r2 => ?_)
    refine y_PI (x_callS hO lt_RX1_90 (As := [rf Γ (GR x0 3), .int (hI r1.1 (GR x0 1) 1), .long r2]) rfl (Nat.le_of_ble_eq_true rfl) (ok_X1_find (cG Γ) r1.1 (GR x0 3) (hI r1.1 (GR x0 1) 1) r2 (gr_1_3 hx0)) dX1_readMeanName_30 rfl (Nat.le_of_ble_eq_true rfl)) (fun r3 => ?_)
    refine x_istore_n hO rfl [(1, .int r3), (0, rf Γ x0)] dX1_readMeanName_33 (by decide) rfl ?_
    refine x_iload_n hO 0 rfl rfl dX1_readMeanName_34 ?_
    refine x_iconst hO (v := -1) (by decide) dX1_readMeanName_35 ?_
    refine x_icmp_ne hO (tg := 48) dX1_readMeanName_36 (by decide) ?_ ?_
    · refine x_iload_n hO 0 rfl rfl dX1_readMeanName_48 ?_
      exact x_iret hO rfl dX1_readMeanName_49 (hR _)
    · refine x_aload_n hO 1 rfl rfl dX1_readMeanName_39 ?_
      refine x_getR hO fl_RX1_12 hx0 dX1_readMeanName_40 ?_
      refine x_iconst hO (v := 3) (by decide) dX1_readMeanName_43 ?_
      refine y_HI (x_callV hO lv_RX1_70 (gr_1_0 hx0) vc_7 (by decide) (As := [.int ((3 : Int32))]) rfl (Nat.le_of_ble_eq_true rfl) (ok_X7_tell (cG Γ) r1.1 (GR x0 0) ((3 : Int32)) (gr_1_0 hx0)) dX1_readMeanName_44 rfl (Nat.le_of_ble_eq_true rfl)) (fun r4 => ?_)
      refine x_pop_i hO dX1_readMeanName_47 ?_
      refine x_iload_n hO 0 rfl rfl dX1_readMeanName_48 ?_
      exact x_iret hO rfl dX1_readMeanName_49 (hR _)
  · refine x_iconst hO (v := -1) (by decide) dX1_readMeanName_10 ?_
    exact x_iret hO rfl dX1_readMeanName_11 (hR _)
theorem ok_X1_readMeanName (G : Gl) (h : Hp) (x0 : Nat) (hx0 : Is x0 1) : CN G mX1_readMeanName [.ref (gb G + x0)] h ((F_X1_readMeanName h x0).map (emHI)) := CN.fn pn_RX1 (Nat.le_of_ble_eq_true rfl) (fun Γ hG hO => by subst hG; exact go_X1_readMeanName hO h x0 hx0 (fun _ q => q))
noncomputable def J_X8_readNumbers_124 (h : Hp) (x0 : Nat) : Option (Hp × Int32) :=
  (F_X8_readFirst h x0 ((0 : Int32)) ((7 : Int32))).bind (fun r1 => if r1.2 = 0 then some ((r1.1, (0 : Int32))) else (F_X8_readSecond r1.1 x0 ((0 : Int32)) ((11 : Int32))).bind (fun r2 => if r2.2 = 0 then some ((r2.1, (0 : Int32))) else some ((r2.1, (1 : Int32)))))
set_option maxHeartbeats 4000000 in
set_option maxRecDepth 100000 in
theorem go_X8_readNumbers_J124 {Γ : Cx} (hO : Ok Γ mX8_readNumbers) (h : Hp) (x0 : Nat) (hx0 : Is x0 8) {K : Hp × Int32 → Prop} (hR : ∀ r, K r → emHI r = tgt Γ) : EG Γ mX8_readNumbers 124 [(0, rf Γ x0)] [] h (J_X8_readNumbers_124 h x0) K := by
  unfold J_X8_readNumbers_124
  refine x_aload_n hO 0 rfl rfl dX8_readNumbers_124 ?_
  refine x_iconst hO (v := 0) (by decide) dX8_readNumbers_125 ?_
  refine x_bipush hO (v := 7) (by decide) dX8_readNumbers_126 ?_
  refine y_HI (x_callV hO lv_RX8_113 hx0 vc_8 (by decide) (As := [.int ((0 : Int32)), .int ((7 : Int32))]) rfl (Nat.le_of_ble_eq_true rfl) (ok_X8_readFirst (cG Γ) h x0 ((0 : Int32)) ((7 : Int32)) hx0) dX8_readNumbers_128 rfl (Nat.le_of_ble_eq_true rfl)) (fun r1 => ?_)
  refine x_if_eq hO (tg := 148) dX8_readNumbers_131 (by decide) ?_ ?_
  · refine x_iconst hO (v := 0) (by decide) dX8_readNumbers_148 ?_
    exact x_zretv hO rfl (by decide) dX8_readNumbers_149 (hR _)
  · refine x_aload_n hO 0 rfl rfl dX8_readNumbers_134 ?_
    refine x_iconst hO (v := 0) (by decide) dX8_readNumbers_135 ?_
    refine x_bipush hO (v := 11) (by decide) dX8_readNumbers_136 ?_
    refine y_HI (x_callV hO lv_RX8_126 hx0 vc_8 (by decide) (As := [.int ((0 : Int32)), .int ((11 : Int32))]) rfl (Nat.le_of_ble_eq_true rfl) (ok_X8_readSecond (cG Γ) r1.1 x0 ((0 : Int32)) ((11 : Int32)) hx0) dX8_readNumbers_138 rfl (Nat.le_of_ble_eq_true rfl)) (fun r2 => ?_)
    refine x_if_eq hO (tg := 148) dX8_readNumbers_141 (by decide) ?_ ?_
    · refine x_iconst hO (v := 0) (by decide) dX8_readNumbers_148 ?_
      exact x_zretv hO rfl (by decide) dX8_readNumbers_149 (hR _)
    · refine x_iconst hO (v := 1) (by decide) dX8_readNumbers_144 ?_
      refine x_goto hO (tg := 149) dX8_readNumbers_145 (by decide) ?_
      exact x_zretv hO rfl (by decide) dX8_readNumbers_149 (hR _)
noncomputable def F_X8_readNumbers (h : Hp) (x0 : Nat) (x1 : Int32) : Option (Hp × Int32) :=
  swt x1 0 [(F_X8_readFirst h x0 ((0 : Int32)) ((7 : Int32))).bind (fun r1 => if r1.2 = 0 then some ((r1.1, (0 : Int32))) else (F_X8_readStops r1.1 x0).bind (fun r2 => if r2.2 = 0 then some ((r2.1, (0 : Int32))) else some ((r2.1, (1 : Int32))))), J_X8_readNumbers_124 h x0, (F_X8_readFirst h x0 ((0 : Int32)) ((99 : Int32))).bind (fun r3 => some ((r3.1, r3.2 &&& 1))), some ((h, (1 : Int32))), (F_X8_readFirst h x0 ((0 : Int32)) ((7 : Int32))).bind (fun r4 => if r4.2 = 0 then some ((r4.1, (0 : Int32))) else (F_X8_readSecond r4.1 x0 (hI r4.1 x0 4) ((if ((hI r4.1 x0 4) + ((6 : Int32))) < ((8 : Int32)) then ((hI r4.1 x0 4) + ((6 : Int32))) else ((8 : Int32))) - ((1 : Int32)))).bind (fun r5 => if r5.2 = 0 then some ((r5.1, (0 : Int32))) else some ((r5.1, (1 : Int32))))), (F_X8_readFirst h x0 ((1 : Int32)) ((9 : Int32))).bind (fun r6 => some ((r6.1, r6.2 &&& 1))), J_X8_readNumbers_124 h x0] (some ((h, (1 : Int32))))
set_option maxHeartbeats 4000000 in
set_option maxRecDepth 100000 in
theorem go_X8_readNumbers {Γ : Cx} (hO : Ok Γ mX8_readNumbers) (h : Hp) (x0 : Nat) (x1 : Int32) (hx0 : Is x0 8) {K : Hp × Int32 → Prop} (hR : ∀ r, K r → emHI r = tgt Γ) : EG Γ mX8_readNumbers 0 [(0, rf Γ x0), (1, .int x1)] [] h (F_X8_readNumbers h x0 x1) K := by
  unfold F_X8_readNumbers
  refine x_iload_n hO 1 rfl rfl dX8_readNumbers_0 ?_
  refine x_tsw hO (tgs := [44, 124, 67, 150, 83, 75, 124]) (dt := 150) dX8_readNumbers_1 rfl (by decide) (by decide) ⟨?_, ?_, ?_, ?_, ?_, ?_, ?_, trivial⟩ ?_
  · refine x_aload_n hO 0 rfl rfl dX8_readNumbers_44 ?_
    refine x_iconst hO (v := 0) (by decide) dX8_readNumbers_45 ?_
    refine x_bipush hO (v := 7) (by decide) dX8_readNumbers_46 ?_
    refine y_HI (x_callV hO lv_RX8_113 hx0 vc_8 (by decide) (As := [.int ((0 : Int32)), .int ((7 : Int32))]) rfl (Nat.le_of_ble_eq_true rfl) (ok_X8_readFirst (cG Γ) h x0 ((0 : Int32)) ((7 : Int32)) hx0) dX8_readNumbers_48 rfl (Nat.le_of_ble_eq_true rfl)) (fun r1 => ?_)
    refine x_if_eq hO (tg := 65) dX8_readNumbers_51 (by decide) ?_ ?_
    · refine x_iconst hO (v := 0) (by decide) dX8_readNumbers_65 ?_
      exact x_zretv hO rfl (by decide) dX8_readNumbers_66 (hR _)
    · refine x_aload_n hO 0 rfl rfl dX8_readNumbers_54 ?_
      refine y_HI (x_callV hO lv_RX8_117 hx0 vc_8 (by decide) (As := []) rfl (Nat.le_of_ble_eq_true rfl) (ok_X8_readStops (cG Γ) r1.1 x0 hx0) dX8_readNumbers_55 rfl (Nat.le_of_ble_eq_true rfl)) (fun r2 => ?_)
      refine x_if_eq hO (tg := 65) dX8_readNumbers_58 (by decide) ?_ ?_
      · refine x_iconst hO (v := 0) (by decide) dX8_readNumbers_65 ?_
        exact x_zretv hO rfl (by decide) dX8_readNumbers_66 (hR _)
      · refine x_iconst hO (v := 1) (by decide) dX8_readNumbers_61 ?_
        refine x_goto hO (tg := 66) dX8_readNumbers_62 (by decide) ?_
        exact x_zretv hO rfl (by decide) dX8_readNumbers_66 (hR _)
  · exact x_sub [0] rfl (go_X8_readNumbers_J124 hO h x0 hx0 hR)
  · refine x_aload_n hO 0 rfl rfl dX8_readNumbers_67 ?_
    refine x_iconst hO (v := 0) (by decide) dX8_readNumbers_68 ?_
    refine x_bipush hO (v := 99) (by decide) dX8_readNumbers_69 ?_
    refine y_HI (x_callV hO lv_RX8_113 hx0 vc_8 (by decide) (As := [.int ((0 : Int32)), .int ((99 : Int32))]) rfl (Nat.le_of_ble_eq_true rfl) (ok_X8_readFirst (cG Γ) h x0 ((0 : Int32)) ((99 : Int32)) hx0) dX8_readNumbers_71 rfl (Nat.le_of_ble_eq_true rfl)) (fun r3 => ?_)
    exact x_zret hO rfl dX8_readNumbers_74 (hR _)
  · refine x_iconst hO (v := 1) (by decide) dX8_readNumbers_150 ?_
    exact x_zretv hO rfl (by decide) dX8_readNumbers_151 (hR _)
  · refine x_aload_n hO 0 rfl rfl dX8_readNumbers_83 ?_
    refine x_iconst hO (v := 0) (by decide) dX8_readNumbers_84 ?_
    refine x_bipush hO (v := 7) (by decide) dX8_readNumbers_85 ?_
    refine y_HI (x_callV hO lv_RX8_113 hx0 vc_8 (by decide) (As := [.int ((0 : Int32)), .int ((7 : Int32))]) rfl (Nat.le_of_ble_eq_true rfl) (ok_X8_readFirst (cG Γ) h x0 ((0 : Int32)) ((7 : Int32)) hx0) dX8_readNumbers_87 rfl (Nat.le_of_ble_eq_true rfl)) (fun r4 => ?_)
    refine x_if_eq hO (tg := 122) dX8_readNumbers_90 (by decide) ?_ ?_
    · refine x_iconst hO (v := 0) (by decide) dX8_readNumbers_122 ?_
      exact x_zretv hO rfl (by decide) dX8_readNumbers_123 (hR _)
    · refine x_aload_n hO 0 rfl rfl dX8_readNumbers_93 ?_
      refine x_aload_n hO 0 rfl rfl dX8_readNumbers_94 ?_
      refine x_getI hO fl_RX8_33 hx0 dX8_readNumbers_95 ?_
      refine x_bipush hO (v := 8) (by decide) dX8_readNumbers_98 ?_
      refine x_aload_n hO 0 rfl rfl dX8_readNumbers_100 ?_
      refine x_getI hO fl_RX8_33 hx0 dX8_readNumbers_101 ?_
      refine x_bipush hO (v := 6) (by decide) dX8_readNumbers_104 ?_
      refine x_iadd hO dX8_readNumbers_106 ?_
      refine x_mmin hO lm_RX8_120 (Nat.le_of_ble_eq_true rfl) (Nat.le_of_ble_eq_true rfl) dX8_readNumbers_107 ?_
      refine x_iconst hO (v := 1) (by decide) dX8_readNumbers_110 ?_
      refine x_isub hO dX8_readNumbers_111 ?_
      refine y_HI (x_callV hO lv_RX8_126 hx0 vc_8 (by decide) (As := [.int (hI r4.1 x0 4), .int ((if ((hI r4.1 x0 4) + ((6 : Int32))) < ((8 : Int32)) then ((hI r4.1 x0 4) + ((6 : Int32))) else ((8 : Int32))) - ((1 : Int32)))]) rfl (Nat.le_of_ble_eq_true rfl) (ok_X8_readSecond (cG Γ) r4.1 x0 (hI r4.1 x0 4) ((if ((hI r4.1 x0 4) + ((6 : Int32))) < ((8 : Int32)) then ((hI r4.1 x0 4) + ((6 : Int32))) else ((8 : Int32))) - ((1 : Int32))) hx0) dX8_readNumbers_112 rfl (Nat.le_of_ble_eq_true rfl)) (fun r5 => ?_)
      refine x_if_eq hO (tg := 122) dX8_readNumbers_115 (by decide) ?_ ?_
      · refine x_iconst hO (v := 0) (by decide) dX8_readNumbers_122 ?_
        exact x_zretv hO rfl (by decide) dX8_readNumbers_123 (hR _)
      · refine x_iconst hO (v := 1) (by decide) dX8_readNumbers_118 ?_
        refine x_goto hO (tg := 123) dX8_readNumbers_119 (by decide) ?_
        exact x_zretv hO rfl (by decide) dX8_readNumbers_123 (hR _)
  · refine x_aload_n hO 0 rfl rfl dX8_readNumbers_75 ?_
    refine x_iconst hO (v := 1) (by decide) dX8_readNumbers_76 ?_
    refine x_bipush hO (v := 9) (by decide) dX8_readNumbers_77 ?_
    refine y_HI (x_callV hO lv_RX8_113 hx0 vc_8 (by decide) (As := [.int ((1 : Int32)), .int ((9 : Int32))]) rfl (Nat.le_of_ble_eq_true rfl) (ok_X8_readFirst (cG Γ) h x0 ((1 : Int32)) ((9 : Int32)) hx0) dX8_readNumbers_79 rfl (Nat.le_of_ble_eq_true rfl)) (fun r6 => ?_)
    exact x_zret hO rfl dX8_readNumbers_82 (hR _)
  · exact x_sub [0] rfl (go_X8_readNumbers_J124 hO h x0 hx0 hR)
  · refine x_iconst hO (v := 1) (by decide) dX8_readNumbers_150 ?_
    exact x_zretv hO rfl (by decide) dX8_readNumbers_151 (hR _)
theorem ok_X8_readNumbers (G : Gl) (h : Hp) (x0 : Nat) (x1 : Int32) (hx0 : Is x0 8) : CN G mX8_readNumbers [.ref (gb G + x0), .int x1] h ((F_X8_readNumbers h x0 x1).map (emHI)) := CN.fn pn_RX8 (Nat.le_of_ble_eq_true rfl) (fun Γ hG hO => by subst hG; exact go_X8_readNumbers hO h x0 x1 hx0 (fun _ q => q))
noncomputable def J_X12_part_47 (h : Hp) (x0 : Nat) (s0 : Int32) : Option (Hp × Int32) :=
  if s0 = 0 then some ((h, (0 : Int32))) else (F_X12_closes h x0).bind (fun r1 => if r1.2 = 0 then some ((r1.1, (0 : Int32))) else some ((r1.1, (1 : Int32))))
set_option maxHeartbeats 4000000 in
set_option maxRecDepth 100000 in
theorem go_X12_part_J47 {Γ : Cx} (hO : Ok Γ mX12_part) (h : Hp) (x0 : Nat) (s0 : Int32) (hx0 : Is x0 12) {K : Hp × Int32 → Prop} (hR : ∀ r, K r → emHI r = tgt Γ) : EG Γ mX12_part 47 [(0, rf Γ x0)] [.int s0] h (J_X12_part_47 h x0 s0) K := by
  unfold J_X12_part_47
  refine x_istore_n hO rfl [(2, .int s0), (0, rf Γ x0)] dX12_part_47 (by decide) rfl ?_
  refine x_iload_n hO 0 rfl rfl dX12_part_48 ?_
  refine x_if_eq hO (tg := 63) dX12_part_49 (by decide) ?_ ?_
  · refine x_iconst hO (v := 0) (by decide) dX12_part_63 ?_
    exact x_zretv hO rfl (by decide) dX12_part_64 (hR _)
  · refine x_aload_n hO 1 rfl rfl dX12_part_52 ?_
    refine y_HI (x_callV hO lv_RX12_251 hx0 vc_12 (by decide) (As := []) rfl (Nat.le_of_ble_eq_true rfl) (ok_X12_closes (cG Γ) h x0 hx0) dX12_part_53 rfl (Nat.le_of_ble_eq_true rfl)) (fun r1 => ?_)
    refine x_if_eq hO (tg := 63) dX12_part_56 (by decide) ?_ ?_
    · refine x_iconst hO (v := 0) (by decide) dX12_part_63 ?_
      exact x_zretv hO rfl (by decide) dX12_part_64 (hR _)
    · refine x_iconst hO (v := 1) (by decide) dX12_part_59 ?_
      refine x_goto hO (tg := 64) dX12_part_60 (by decide) ?_
      exact x_zretv hO rfl (by decide) dX12_part_64 (hR _)
noncomputable def F_X12_part (h : Hp) (x0 : Nat) : Option (Hp × Int32) :=
  (F_X12_inWords h x0 14).bind (fun r1 => if r1 = 0 then (F_X12_aCode h x0).bind (fun r5 => J_X12_part_47 r5.1 x0 r5.2) else if r1 = ((1 : Int32)) then (F_X12_aMean h x0).bind (fun r4 => J_X12_part_47 r4.1 x0 r4.2) else if r1 = ((2 : Int32)) then (F_X12_aJoin h x0).bind (fun r3 => J_X12_part_47 r3.1 x0 r3.2) else (F_X12_fails h x0 ((2 : Int32))).bind (fun r2 => J_X12_part_47 r2.1 x0 r2.2))
set_option maxHeartbeats 4000000 in
set_option maxRecDepth 100000 in
theorem go_X12_part {Γ : Cx} (hO : Ok Γ mX12_part) (h : Hp) (x0 : Nat) (hx0 : Is x0 12) {K : Hp × Int32 → Prop} (hR : ∀ r, K r → emHI r = tgt Γ) : EG Γ mX12_part 0 [(0, rf Γ x0)] [] h (F_X12_part h x0) K := by
  unfold F_X12_part
  refine x_aload_n hO 0 rfl rfl dX12_part_0 ?_
  refine x_ldcS hO sr_RX12_216 dX12_part_1 ?_
  refine y_PI (x_callV hO lv_RX12_218 hx0 vc_12 (by decide) (As := [sf Γ 14]) rfl (Nat.le_of_ble_eq_true rfl) (ok_X12_inWords (cG Γ) h x0 14 hx0 ((by decide))) dX12_part_3 rfl (Nat.le_of_ble_eq_true rfl)) (fun r1 => ?_)
  refine x_istore_n hO rfl [(1, .int r1), (0, rf Γ x0)] dX12_part_6 (by decide) rfl ?_
  refine x_iload_n hO 0 rfl rfl dX12_part_7 ?_
  refine x_if_ne hO (tg := 18) dX12_part_8 (by decide) ?_ ?_
  · refine x_iload_n hO 0 rfl rfl dX12_part_18 ?_
    refine x_iconst hO (v := 1) (by decide) dX12_part_19 ?_
    refine x_icmp_ne hO (tg := 30) dX12_part_20 (by decide) ?_ ?_
    · refine x_iload_n hO 0 rfl rfl dX12_part_30 ?_
      refine x_iconst hO (v := 2) (by decide) dX12_part_31 ?_
      refine x_icmp_ne hO (tg := 42) dX12_part_32 (by decide) ?_ ?_
      · refine x_aload_n hO 1 rfl rfl dX12_part_42 ?_
        refine x_iconst hO (v := 2) (by decide) dX12_part_43 ?_
        refine y_HI (x_callV hO lv_RX12_213 hx0 vc_12 (by decide) (As := [.int ((2 : Int32))]) rfl (Nat.le_of_ble_eq_true rfl) (ok_X12_fails (cG Γ) h x0 ((2 : Int32)) hx0) dX12_part_44 rfl (Nat.le_of_ble_eq_true rfl)) (fun r2 => ?_)
        exact x_sub [1] rfl (go_X12_part_J47 hO r2.1 x0 r2.2 hx0 hR)
      · refine x_aload_n hO 1 rfl rfl dX12_part_35 ?_
        refine y_HI (x_callV hO lv_RX12_248 hx0 vc_12 (by decide) (As := []) rfl (Nat.le_of_ble_eq_true rfl) (ok_X12_aJoin (cG Γ) h x0 hx0) dX12_part_36 rfl (Nat.le_of_ble_eq_true rfl)) (fun r3 => ?_)
        refine x_goto hO (tg := 47) dX12_part_39 (by decide) ?_
        exact x_sub [1] rfl (go_X12_part_J47 hO r3.1 x0 r3.2 hx0 hR)
    · refine x_aload_n hO 1 rfl rfl dX12_part_23 ?_
      refine y_HI (x_callV hO lv_RX12_245 hx0 vc_12 (by decide) (As := []) rfl (Nat.le_of_ble_eq_true rfl) (ok_X12_aMean (cG Γ) h x0 hx0) dX12_part_24 rfl (Nat.le_of_ble_eq_true rfl)) (fun r4 => ?_)
      refine x_goto hO (tg := 47) dX12_part_27 (by decide) ?_
      exact x_sub [1] rfl (go_X12_part_J47 hO r4.1 x0 r4.2 hx0 hR)
  · refine x_aload_n hO 1 rfl rfl dX12_part_11 ?_
    refine y_HI (x_callV hO lv_RX12_242 hx0 vc_12 (by decide) (As := []) rfl (Nat.le_of_ble_eq_true rfl) (ok_X12_aCode (cG Γ) h x0 hx0) dX12_part_12 rfl (Nat.le_of_ble_eq_true rfl)) (fun r5 => ?_)
    refine x_goto hO (tg := 47) dX12_part_15 (by decide) ?_
    exact x_sub [1] rfl (go_X12_part_J47 hO r5.1 x0 r5.2 hx0 hR)
theorem ok_X12_part (G : Gl) (h : Hp) (x0 : Nat) (hx0 : Is x0 12) : CN G mX12_part [.ref (gb G + x0)] h ((F_X12_part h x0).map (emHI)) := CN.fn pn_RX12 (Nat.le_of_ble_eq_true rfl) (fun Γ hG hO => by subst hG; exact go_X12_part hO h x0 hx0 (fun _ q => q))
noncomputable def F_X1_readJoin (h : Hp) (x0 : Nat) : Option (Hp) :=
  if (hI h x0 4) < ((12 : Int32)) then (F_X7_advance h (GR x0 0)).bind (fun r1 => (F_X1_readMeanName r1 x0).bind (fun r2 => if r2.2 = ((-1 : Int32)) then some r2.1 else (F_X7_advance r2.1 (GR x0 0)).bind (fun r3 => (F_X1_readMeanName r3 x0).bind (fun r4 => if r4.2 = ((-1 : Int32)) then some r4.1 else gd (ib r4.2 (LEN (GR (GR x0 1) 3))) ((F_X0_joinOf r4.1 (GR x0 1) r2.2 (hI r4.1 (GR (GR x0 1) 3) (nx r4.2))).bind (fun r5 => if r5 = ((-1 : Int32)) then (F_X7_advance r4.1 (GR x0 0)).bind (fun r6 => (F_X7_takeSign r6 (GR x0 0)).bind (fun r7 => if r7.2 = 0 then some r7.1 else (F_X0_addJoin r7.1 (GR x0 1) r2.2 r4.2).bind (fun r8 => some (uI r8 x0 4 ((hI r8 x0 4) + ((1 : Int32))))))) else (F_X7_tell r4.1 (GR x0 0) ((5 : Int32))).bind (fun r9 => some r9.1))))))) else (F_X7_tell h (GR x0 0) ((6 : Int32))).bind (fun r10 => some r10.1)
set_option maxHeartbeats 4000000 in
set_option maxRecDepth 100000 in
theorem go_X1_readJoin {Γ : Cx} (hO : Ok Γ mX1_readJoin) (h : Hp) (x0 : Nat) (hx0 : Is x0 1) {K : Hp → Prop} (hR : ∀ r, K r → emHV r = tgt Γ) : EG Γ mX1_readJoin 0 [(0, rf Γ x0)] [] h (F_X1_readJoin h x0) K := by
  unfold F_X1_readJoin
  refine x_aload_n hO 0 rfl rfl dX1_readJoin_0 ?_
  refine x_getI hO fl_RX1_32 hx0 dX1_readJoin_1 ?_
  refine x_bipush hO (v := 12) (by decide) dX1_readJoin_4 ?_
  refine x_icmp_lt hO (tg := 20) dX1_readJoin_6 (by decide) ?_ ?_
  · refine x_aload_n hO 0 rfl rfl dX1_readJoin_20 ?_
    refine x_getR hO fl_RX1_12 hx0 dX1_readJoin_21 ?_
    refine y_HV (x_callV hO lv_RX1_80 (gr_1_0 hx0) vc_7 (by decide) (As := []) rfl (Nat.le_of_ble_eq_true rfl) (ok_X7_advance (cG Γ) h (GR x0 0) (gr_1_0 hx0)) dX1_readJoin_24 rfl (Nat.le_of_ble_eq_true rfl)) (fun r1 => ?_)
    refine x_aload_n hO 0 rfl rfl dX1_readJoin_27 ?_
    refine y_HI (x_callV hO lv_RX1_135 hx0 vc_1 (by decide) (As := []) rfl (Nat.le_of_ble_eq_true rfl) (ok_X1_readMeanName (cG Γ) r1 x0 hx0) dX1_readJoin_28 rfl (Nat.le_of_ble_eq_true rfl)) (fun r2 => ?_)
    refine x_istore_n hO rfl [(1, .int r2.2), (0, rf Γ x0)] dX1_readJoin_31 (by decide) rfl ?_
    refine x_iload_n hO 0 rfl rfl dX1_readJoin_32 ?_
    refine x_iconst hO (v := -1) (by decide) dX1_readJoin_33 ?_
    refine x_icmp_ne hO (tg := 38) dX1_readJoin_34 (by decide) ?_ ?_
    · refine x_aload_n hO 1 rfl rfl dX1_readJoin_38 ?_
      refine x_getR hO fl_RX1_12 hx0 dX1_readJoin_39 ?_
      refine y_HV (x_callV hO lv_RX1_80 (gr_1_0 hx0) vc_7 (by decide) (As := []) rfl (Nat.le_of_ble_eq_true rfl) (ok_X7_advance (cG Γ) r2.1 (GR x0 0) (gr_1_0 hx0)) dX1_readJoin_42 rfl (Nat.le_of_ble_eq_true rfl)) (fun r3 => ?_)
      refine x_aload_n hO 1 rfl rfl dX1_readJoin_45 ?_
      refine y_HI (x_callV hO lv_RX1_135 hx0 vc_1 (by decide) (As := []) rfl (Nat.le_of_ble_eq_true rfl) (ok_X1_readMeanName (cG Γ) r3 x0 hx0) dX1_readJoin_46 rfl (Nat.le_of_ble_eq_true rfl)) (fun r4 => ?_)
      refine x_istore_n hO rfl [(2, .int r4.2), (1, .int r2.2), (0, rf Γ x0)] dX1_readJoin_49 (by decide) rfl ?_
      refine x_iload_n hO 0 rfl rfl dX1_readJoin_50 ?_
      refine x_iconst hO (v := -1) (by decide) dX1_readJoin_51 ?_
      refine x_icmp_ne hO (tg := 56) dX1_readJoin_52 (by decide) ?_ ?_
      · refine x_aload_n hO 2 rfl rfl dX1_readJoin_56 ?_
        refine x_getR hO fl_RX1_21 hx0 dX1_readJoin_57 ?_
        refine x_iload_n hO 1 rfl rfl dX1_readJoin_60 ?_
        refine x_aload_n hO 2 rfl rfl dX1_readJoin_61 ?_
        refine x_getR hO fl_RX1_21 hx0 dX1_readJoin_62 ?_
        refine x_getR hO fl_RX1_138 (gr_1_1 hx0) dX1_readJoin_65 ?_
        refine x_iload_n hO 0 rfl rfl dX1_readJoin_68 ?_
        refine x_iald hO (gr_0_3 (gr_1_1 hx0)) dX1_readJoin_69 ?_
        refine y_PI (x_callV hO lv_RX1_142 (gr_1_1 hx0) vc_0 (by decide) (As := [.int r2.2, .int (hI r4.1 (GR (GR x0 1) 3) (nx r4.2))]) rfl (Nat.le_of_ble_eq_true rfl) (ok_X0_joinOf (cG Γ) r4.1 (GR x0 1) r2.2 (hI r4.1 (GR (GR x0 1) 3) (nx r4.2)) (gr_1_1 hx0)) dX1_readJoin_70 rfl (Nat.le_of_ble_eq_true rfl)) (fun r5 => ?_)
        refine x_iconst hO (v := -1) (by decide) dX1_readJoin_73 ?_
        refine x_icmp_eq hO (tg := 87) dX1_readJoin_74 (by decide) ?_ ?_
        · refine x_aload_n hO 2 rfl rfl dX1_readJoin_87 ?_
          refine x_getR hO fl_RX1_12 hx0 dX1_readJoin_88 ?_
          refine y_HV (x_callV hO lv_RX1_80 (gr_1_0 hx0) vc_7 (by decide) (As := []) rfl (Nat.le_of_ble_eq_true rfl) (ok_X7_advance (cG Γ) r4.1 (GR x0 0) (gr_1_0 hx0)) dX1_readJoin_91 rfl (Nat.le_of_ble_eq_true rfl)) (fun r6 => ?_)
          refine x_aload_n hO 2 rfl rfl dX1_readJoin_94 ?_
          refine x_getR hO fl_RX1_12 hx0 dX1_readJoin_95 ?_
          refine y_HI (x_callV hO lv_RX1_106 (gr_1_0 hx0) vc_7 (by decide) (As := []) rfl (Nat.le_of_ble_eq_true rfl) (ok_X7_takeSign (cG Γ) r6 (GR x0 0) (gr_1_0 hx0)) dX1_readJoin_98 rfl (Nat.le_of_ble_eq_true rfl)) (fun r7 => ?_)
          refine x_if_ne hO (tg := 105) dX1_readJoin_101 (by decide) ?_ ?_
          · refine x_aload_n hO 2 rfl rfl dX1_readJoin_105 ?_
            refine x_getR hO fl_RX1_21 hx0 dX1_readJoin_106 ?_
            refine x_iload_n hO 1 rfl rfl dX1_readJoin_109 ?_
            refine x_iload_n hO 0 rfl rfl dX1_readJoin_110 ?_
            refine y_HV (x_callV hO lv_RX1_145 (gr_1_1 hx0) vc_0 (by decide) (As := [.int r2.2, .int r4.2]) rfl (Nat.le_of_ble_eq_true rfl) (ok_X0_addJoin (cG Γ) r7.1 (GR x0 1) r2.2 r4.2 (gr_1_1 hx0)) dX1_readJoin_111 rfl (Nat.le_of_ble_eq_true rfl)) (fun r8 => ?_)
            refine x_aload_n hO 2 rfl rfl dX1_readJoin_114 ?_
            refine x_dup_r hO dX1_readJoin_115 ?_
            refine x_getI hO fl_RX1_32 hx0 dX1_readJoin_116 ?_
            refine x_iconst hO (v := 1) (by decide) dX1_readJoin_119 ?_
            refine x_iadd hO dX1_readJoin_120 ?_
            refine x_putI hO fl_RX1_32 hx0 dX1_readJoin_121 ?_
            exact x_vret hO rfl dX1_readJoin_124 (hR _)
          · exact x_vret hO rfl dX1_readJoin_104 (hR _)
        · refine x_aload_n hO 2 rfl rfl dX1_readJoin_77 ?_
          refine x_getR hO fl_RX1_12 hx0 dX1_readJoin_78 ?_
          refine x_iconst hO (v := 5) (by decide) dX1_readJoin_81 ?_
          refine y_HI (x_callV hO lv_RX1_70 (gr_1_0 hx0) vc_7 (by decide) (As := [.int ((5 : Int32))]) rfl (Nat.le_of_ble_eq_true rfl) (ok_X7_tell (cG Γ) r4.1 (GR x0 0) ((5 : Int32)) (gr_1_0 hx0)) dX1_readJoin_82 rfl (Nat.le_of_ble_eq_true rfl)) (fun r9 => ?_)
          refine x_pop_i hO dX1_readJoin_85 ?_
          exact x_vret hO rfl dX1_readJoin_86 (hR _)
      · exact x_vret hO rfl dX1_readJoin_55 (hR _)
    · exact x_vret hO rfl dX1_readJoin_37 (hR _)
  · refine x_aload_n hO 0 rfl rfl dX1_readJoin_9 ?_
    refine x_getR hO fl_RX1_12 hx0 dX1_readJoin_10 ?_
    refine x_bipush hO (v := 6) (by decide) dX1_readJoin_13 ?_
    refine y_HI (x_callV hO lv_RX1_70 (gr_1_0 hx0) vc_7 (by decide) (As := [.int ((6 : Int32))]) rfl (Nat.le_of_ble_eq_true rfl) (ok_X7_tell (cG Γ) h (GR x0 0) ((6 : Int32)) (gr_1_0 hx0)) dX1_readJoin_15 rfl (Nat.le_of_ble_eq_true rfl)) (fun r10 => ?_)
    refine x_pop_i hO dX1_readJoin_18 ?_
    exact x_vret hO rfl dX1_readJoin_19 (hR _)
theorem ok_X1_readJoin (G : Gl) (h : Hp) (x0 : Nat) (hx0 : Is x0 1) : CN G mX1_readJoin [.ref (gb G + x0)] h ((F_X1_readJoin h x0).map (emHV)) := CN.fn pn_RX1 (Nat.le_of_ble_eq_true rfl) (fun Γ hG hO => by subst hG; exact go_X1_readJoin hO h x0 hx0 (fun _ q => q))
noncomputable def J_X8_readStep_65 (h : Hp) (x0 : Nat) (x1 : Int32) (x2 : Int32) : Option (Hp) :=
  if (hI h (GR x0 1) 0) < ((40 : Int32)) then (F_X7_advance h (GR x0 0)).bind (fun r1 => (F_X8_readNumbers (uI (uI r1 x0 4 ((0 : Int32))) x0 5 ((0 : Int32))) x0 x1).bind (fun r2 => if r2.2 = 0 then some r2.1 else (F_X7_takeSign r2.1 (GR x0 0)).bind (fun r3 => if r3.2 = 0 then some r3.1 else if x2 = 0 then (F_X9_addStep r3.1 (GR x0 1) x1 (hI r3.1 x0 4) (hI r3.1 x0 5)).bind (fun r4 => some r4) else gd (ib (hI r3.1 x0 3) (LEN (GR x0 2))) (bnd (uI (uI r3.1 (GR x0 2) (nx (hI r3.1 x0 3)) (hI r3.1 (GR x0 1) 1)) x0 3 ((hI (uI r3.1 (GR x0 2) (nx (hI r3.1 x0 3)) (hI r3.1 (GR x0 1) 1)) x0 3) + ((1 : Int32)))) (fun h5 => (F_X9_addStep h5 (GR x0 1) x1 (hI h5 x0 4) (hI h5 x0 5)).bind (fun r6 => some r6)))))) else (F_X7_tell h (GR x0 0) ((6 : Int32))).bind (fun r7 => some r7.1)
set_option maxHeartbeats 4000000 in
set_option maxRecDepth 100000 in
theorem go_X8_readStep_J65 {Γ : Cx} (hO : Ok Γ mX8_readStep) (h : Hp) (x0 : Nat) (x1 : Int32) (x2 : Int32) (hx0 : Is x0 8) {K : Hp → Prop} (hR : ∀ r, K r → emHV r = tgt Γ) : EG Γ mX8_readStep 65 [(0, rf Γ x0), (1, .int x1), (2, .int x2)] [] h (J_X8_readStep_65 h x0 x1 x2) K := by
  unfold J_X8_readStep_65
  refine x_aload_n hO 0 rfl rfl dX8_readStep_65 ?_
  refine x_getR hO fl_RX8_21 hx0 dX8_readStep_66 ?_
  refine x_getI hO fl_RX8_86 (gr_8_1 hx0) dX8_readStep_69 ?_
  refine x_bipush hO (v := 40) (by decide) dX8_readStep_72 ?_
  refine x_icmp_lt hO (tg := 88) dX8_readStep_74 (by decide) ?_ ?_
  · refine x_aload_n hO 0 rfl rfl dX8_readStep_88 ?_
    refine x_getR hO fl_RX8_12 hx0 dX8_readStep_89 ?_
    refine y_HV (x_callV hO lv_RX8_73 (gr_8_0 hx0) vc_7 (by decide) (As := []) rfl (Nat.le_of_ble_eq_true rfl) (ok_X7_advance (cG Γ) h (GR x0 0) (gr_8_0 hx0)) dX8_readStep_92 rfl (Nat.le_of_ble_eq_true rfl)) (fun r1 => ?_)
    refine x_aload_n hO 0 rfl rfl dX8_readStep_95 ?_
    refine x_iconst hO (v := 0) (by decide) dX8_readStep_96 ?_
    refine x_putI hO fl_RX8_33 hx0 dX8_readStep_97 ?_
    refine x_aload_n hO 0 rfl rfl dX8_readStep_100 ?_
    refine x_iconst hO (v := 0) (by decide) dX8_readStep_101 ?_
    refine x_putI hO fl_RX8_36 hx0 dX8_readStep_102 ?_
    refine x_aload_n hO 0 rfl rfl dX8_readStep_105 ?_
    refine x_iload_n hO 1 rfl rfl dX8_readStep_106 ?_
    refine y_HI (x_callV hO lv_RX8_89 hx0 vc_8 (by decide) (As := [.int x1]) rfl (Nat.le_of_ble_eq_true rfl) (ok_X8_readNumbers (cG Γ) (uI (uI r1 x0 4 ((0 : Int32))) x0 5 ((0 : Int32))) x0 x1 hx0) dX8_readStep_107 rfl (Nat.le_of_ble_eq_true rfl)) (fun r2 => ?_)
    refine x_if_eq hO (tg := 123) dX8_readStep_110 (by decide) ?_ ?_
    · exact x_vret hO rfl dX8_readStep_123 (hR _)
    · refine x_aload_n hO 0 rfl rfl dX8_readStep_113 ?_
      refine x_getR hO fl_RX8_12 hx0 dX8_readStep_114 ?_
      refine y_HI (x_callV hO lv_RX8_76 (gr_8_0 hx0) vc_7 (by decide) (As := []) rfl (Nat.le_of_ble_eq_true rfl) (ok_X7_takeSign (cG Γ) r2.1 (GR x0 0) (gr_8_0 hx0)) dX8_readStep_117 rfl (Nat.le_of_ble_eq_true rfl)) (fun r3 => ?_)
      refine x_if_ne hO (tg := 124) dX8_readStep_120 (by decide) ?_ ?_
      · refine x_iload_n hO 2 rfl rfl dX8_readStep_124 ?_
        refine x_if_eq hO (tg := 154) dX8_readStep_125 (by decide) ?_ ?_
        · refine x_aload_n hO 0 rfl rfl dX8_readStep_154 ?_
          refine x_getR hO fl_RX8_21 hx0 dX8_readStep_155 ?_
          refine x_iload_n hO 1 rfl rfl dX8_readStep_158 ?_
          refine x_aload_n hO 0 rfl rfl dX8_readStep_159 ?_
          refine x_getI hO fl_RX8_33 hx0 dX8_readStep_160 ?_
          refine x_aload_n hO 0 rfl rfl dX8_readStep_163 ?_
          refine x_getI hO fl_RX8_36 hx0 dX8_readStep_164 ?_
          refine y_HV (x_callV hO lv_RX8_95 (gr_8_1 hx0) vc_9 (by decide) (As := [.int x1, .int (hI r3.1 x0 4), .int (hI r3.1 x0 5)]) rfl (Nat.le_of_ble_eq_true rfl) (ok_X9_addStep (cG Γ) r3.1 (GR x0 1) x1 (hI r3.1 x0 4) (hI r3.1 x0 5) (gr_8_1 hx0)) dX8_readStep_167 rfl (Nat.le_of_ble_eq_true rfl)) (fun r4 => ?_)
          exact x_vret hO rfl dX8_readStep_170 (hR _)
        · refine x_aload_n hO 0 rfl rfl dX8_readStep_128 ?_
          refine x_getR hO fl_RX8_25 hx0 dX8_readStep_129 ?_
          refine x_aload_n hO 0 rfl rfl dX8_readStep_132 ?_
          refine x_getI hO fl_RX8_29 hx0 dX8_readStep_133 ?_
          refine x_aload_n hO 0 rfl rfl dX8_readStep_136 ?_
          refine x_getR hO fl_RX8_21 hx0 dX8_readStep_137 ?_
          refine x_getI hO fl_RX8_92 (gr_8_1 hx0) dX8_readStep_140 ?_
          refine x_iast hO (gr_8_2 hx0) dX8_readStep_143 ?_
          refine x_aload_n hO 0 rfl rfl dX8_readStep_144 ?_
          refine x_dup_r hO dX8_readStep_145 ?_
          refine x_getI hO fl_RX8_29 hx0 dX8_readStep_146 ?_
          refine x_iconst hO (v := 1) (by decide) dX8_readStep_149 ?_
          refine x_iadd hO dX8_readStep_150 ?_
          refine x_putI hO fl_RX8_29 hx0 dX8_readStep_151 ?_
          refine x_bnd ?_
          generalize uI (uI r3.1 (GR x0 2) (nx (hI r3.1 x0 3)) (hI r3.1 (GR x0 1) 1)) x0 3 ((hI (uI r3.1 (GR x0 2) (nx (hI r3.1 x0 3)) (hI r3.1 (GR x0 1) 1)) x0 3) + ((1 : Int32))) = h5
          refine x_aload_n hO 0 rfl rfl dX8_readStep_154 ?_
          refine x_getR hO fl_RX8_21 hx0 dX8_readStep_155 ?_
          refine x_iload_n hO 1 rfl rfl dX8_readStep_158 ?_
          refine x_aload_n hO 0 rfl rfl dX8_readStep_159 ?_
          refine x_getI hO fl_RX8_33 hx0 dX8_readStep_160 ?_
          refine x_aload_n hO 0 rfl rfl dX8_readStep_163 ?_
          refine x_getI hO fl_RX8_36 hx0 dX8_readStep_164 ?_
          refine y_HV (x_callV hO lv_RX8_95 (gr_8_1 hx0) vc_9 (by decide) (As := [.int x1, .int (hI h5 x0 4), .int (hI h5 x0 5)]) rfl (Nat.le_of_ble_eq_true rfl) (ok_X9_addStep (cG Γ) h5 (GR x0 1) x1 (hI h5 x0 4) (hI h5 x0 5) (gr_8_1 hx0)) dX8_readStep_167 rfl (Nat.le_of_ble_eq_true rfl)) (fun r6 => ?_)
          exact x_vret hO rfl dX8_readStep_170 (hR _)
      · exact x_vret hO rfl dX8_readStep_123 (hR _)
  · refine x_aload_n hO 0 rfl rfl dX8_readStep_77 ?_
    refine x_getR hO fl_RX8_12 hx0 dX8_readStep_78 ?_
    refine x_bipush hO (v := 6) (by decide) dX8_readStep_81 ?_
    refine y_HI (x_callV hO lv_RX8_66 (gr_8_0 hx0) vc_7 (by decide) (As := [.int ((6 : Int32))]) rfl (Nat.le_of_ble_eq_true rfl) (ok_X7_tell (cG Γ) h (GR x0 0) ((6 : Int32)) (gr_8_0 hx0)) dX8_readStep_83 rfl (Nat.le_of_ble_eq_true rfl)) (fun r7 => ?_)
    refine x_pop_i hO dX8_readStep_86 ?_
    exact x_vret hO rfl dX8_readStep_87 (hR _)
noncomputable def J_X8_readStep_42 (h : Hp) (x0 : Nat) (x1 : Int32) (s0 : Int32) : Option (Hp) :=
  if s0 = 0 then J_X8_readStep_65 h x0 x1 s0 else if (hI h x0 3) < ((3 : Int32)) then J_X8_readStep_65 h x0 x1 s0 else (F_X7_tell h (GR x0 0) ((5 : Int32))).bind (fun r1 => some r1.1)
set_option maxHeartbeats 4000000 in
set_option maxRecDepth 100000 in
theorem go_X8_readStep_J42 {Γ : Cx} (hO : Ok Γ mX8_readStep) (h : Hp) (x0 : Nat) (x1 : Int32) (s0 : Int32) (hx0 : Is x0 8) {K : Hp → Prop} (hR : ∀ r, K r → emHV r = tgt Γ) : EG Γ mX8_readStep 42 [(0, rf Γ x0), (1, .int x1)] [.int s0] h (J_X8_readStep_42 h x0 x1 s0) K := by
  unfold J_X8_readStep_42
  refine x_istore_n hO rfl [(2, .int s0), (0, rf Γ x0), (1, .int x1)] dX8_readStep_42 (by decide) rfl ?_
  refine x_iload_n hO 0 rfl rfl dX8_readStep_43 ?_
  refine x_if_eq hO (tg := 65) dX8_readStep_44 (by decide) ?_ ?_
  · exact x_sub [1, 2, 0] rfl (go_X8_readStep_J65 hO h x0 x1 s0 hx0 hR)
  · refine x_aload_n hO 1 rfl rfl dX8_readStep_47 ?_
    refine x_getI hO fl_RX8_29 hx0 dX8_readStep_48 ?_
    refine x_iconst hO (v := 3) (by decide) dX8_readStep_51 ?_
    refine x_icmp_lt hO (tg := 65) dX8_readStep_52 (by decide) ?_ ?_
    · exact x_sub [1, 2, 0] rfl (go_X8_readStep_J65 hO h x0 x1 s0 hx0 hR)
    · refine x_aload_n hO 1 rfl rfl dX8_readStep_55 ?_
      refine x_getR hO fl_RX8_12 hx0 dX8_readStep_56 ?_
      refine x_iconst hO (v := 5) (by decide) dX8_readStep_59 ?_
      refine y_HI (x_callV hO lv_RX8_66 (gr_8_0 hx0) vc_7 (by decide) (As := [.int ((5 : Int32))]) rfl (Nat.le_of_ble_eq_true rfl) (ok_X7_tell (cG Γ) h (GR x0 0) ((5 : Int32)) (gr_8_0 hx0)) dX8_readStep_60 rfl (Nat.le_of_ble_eq_true rfl)) (fun r1 => ?_)
      refine x_pop_i hO dX8_readStep_63 ?_
      exact x_vret hO rfl dX8_readStep_64 (hR _)
noncomputable def J_X8_readStep_37 (h : Hp) (x0 : Nat) (x1 : Int32) : Option (Hp) :=
  J_X8_readStep_42 h x0 x1 ((1 : Int32))
set_option maxHeartbeats 4000000 in
set_option maxRecDepth 100000 in
theorem go_X8_readStep_J37 {Γ : Cx} (hO : Ok Γ mX8_readStep) (h : Hp) (x0 : Nat) (x1 : Int32) (hx0 : Is x0 8) {K : Hp → Prop} (hR : ∀ r, K r → emHV r = tgt Γ) : EG Γ mX8_readStep 37 [(0, rf Γ x0), (1, .int x1)] [] h (J_X8_readStep_37 h x0 x1) K := by
  unfold J_X8_readStep_37
  refine x_iconst hO (v := 1) (by decide) dX8_readStep_37 ?_
  refine x_goto hO (tg := 42) dX8_readStep_38 (by decide) ?_
  exact x_sub [0, 1] rfl (go_X8_readStep_J42 hO h x0 x1 ((1 : Int32)) hx0 hR)
noncomputable def F_X8_readStep (h : Hp) (x0 : Nat) : Option (Hp) :=
  (F_X8_kindHere h x0).bind (fun r1 => if r1 = ((-1 : Int32)) then (F_X7_misplaced h (GR x0 0)).bind (fun r2 => (F_X7_tell h (GR x0 0) r2).bind (fun r3 => some r3.1)) else if r1 = ((5 : Int32)) then J_X8_readStep_37 h x0 r1 else if r1 = ((6 : Int32)) then J_X8_readStep_37 h x0 r1 else J_X8_readStep_42 h x0 r1 ((0 : Int32)))
set_option maxHeartbeats 4000000 in
set_option maxRecDepth 100000 in
theorem go_X8_readStep {Γ : Cx} (hO : Ok Γ mX8_readStep) (h : Hp) (x0 : Nat) (hx0 : Is x0 8) {K : Hp → Prop} (hR : ∀ r, K r → emHV r = tgt Γ) : EG Γ mX8_readStep 0 [(0, rf Γ x0)] [] h (F_X8_readStep h x0) K := by
  unfold F_X8_readStep
  refine x_aload_n hO 0 rfl rfl dX8_readStep_0 ?_
  refine y_PI (x_callV hO lv_RX8_83 hx0 vc_8 (by decide) (As := []) rfl (Nat.le_of_ble_eq_true rfl) (ok_X8_kindHere (cG Γ) h x0 hx0) dX8_readStep_1 rfl (Nat.le_of_ble_eq_true rfl)) (fun r1 => ?_)
  refine x_istore_n hO rfl [(1, .int r1), (0, rf Γ x0)] dX8_readStep_4 (by decide) rfl ?_
  refine x_iload_n hO 0 rfl rfl dX8_readStep_5 ?_
  refine x_iconst hO (v := -1) (by decide) dX8_readStep_6 ?_
  refine x_icmp_ne hO (tg := 26) dX8_readStep_7 (by decide) ?_ ?_
  · refine x_iload_n hO 0 rfl rfl dX8_readStep_26 ?_
    refine x_iconst hO (v := 5) (by decide) dX8_readStep_27 ?_
    refine x_icmp_eq hO (tg := 37) dX8_readStep_28 (by decide) ?_ ?_
    · exact x_sub [1, 0] rfl (go_X8_readStep_J37 hO h x0 r1 hx0 hR)
    · refine x_iload_n hO 0 rfl rfl dX8_readStep_31 ?_
      refine x_bipush hO (v := 6) (by decide) dX8_readStep_32 ?_
      refine x_icmp_ne hO (tg := 41) dX8_readStep_34 (by decide) ?_ ?_
      · refine x_iconst hO (v := 0) (by decide) dX8_readStep_41 ?_
        exact x_sub [1, 0] rfl (go_X8_readStep_J42 hO h x0 r1 ((0 : Int32)) hx0 hR)
      · exact x_sub [1, 0] rfl (go_X8_readStep_J37 hO h x0 r1 hx0 hR)
  · refine x_aload_n hO 1 rfl rfl dX8_readStep_10 ?_
    refine x_getR hO fl_RX8_12 hx0 dX8_readStep_11 ?_
    refine x_aload_n hO 1 rfl rfl dX8_readStep_14 ?_
    refine x_getR hO fl_RX8_12 hx0 dX8_readStep_15 ?_
    refine y_PI (x_callV hO lv_RX8_62 (gr_8_0 hx0) vc_7 (by decide) (As := []) rfl (Nat.le_of_ble_eq_true rfl) (ok_X7_misplaced (cG Γ) h (GR x0 0) (gr_8_0 hx0)) dX8_readStep_18 rfl (Nat.le_of_ble_eq_true rfl)) (fun r2 => ?_)
    refine y_HI (x_callV hO lv_RX8_66 (gr_8_0 hx0) vc_7 (by decide) (As := [.int r2]) rfl (Nat.le_of_ble_eq_true rfl) (ok_X7_tell (cG Γ) h (GR x0 0) r2 (gr_8_0 hx0)) dX8_readStep_21 rfl (Nat.le_of_ble_eq_true rfl)) (fun r3 => ?_)
    refine x_pop_i hO dX8_readStep_24 ?_
    exact x_vret hO rfl dX8_readStep_25 (hR _)
theorem ok_X8_readStep (G : Gl) (h : Hp) (x0 : Nat) (hx0 : Is x0 8) : CN G mX8_readStep [.ref (gb G + x0)] h ((F_X8_readStep h x0).map (emHV)) := CN.fn pn_RX8 (Nat.le_of_ble_eq_true rfl) (fun Γ hG hO => by subst hG; exact go_X8_readStep hO h x0 hx0 (fun _ q => q))
noncomputable def B_X12_book_63 (h : Hp) (x0 : Nat) (x2 : Int32) : Option ((Hp × Int32) ⊕ (Hp)) :=
  if x2 = 0 then some (.inr h) else (F_X12_part h x0).bind (fun r1 => if r1.2 = 0 then some (.inl (r1.1, (0 : Int32))) else if (hI r1.1 x0 11) = 0 then some (.inl (r1.1, (0 : Int32))) else some (.inl (r1.1, (1 : Int32))))
noncomputable def L_X12_book_63 (h : Hp) (x0 : Nat) (x2 : Int32) : Option (Hp) := iterW (fun s : Hp × Int32 => B_X12_book_63 s.1 x0 s.2) (h, x2)
set_option maxHeartbeats 4000000 in
set_option maxRecDepth 100000 in
theorem go_X12_book_B63 {Γ : Cx} (hO : Ok Γ mX12_book) (h : Hp) (x0 : Nat) (x2 : Int32) (hx0 : Is x0 12) {K : (Hp × Int32) ⊕ (Hp) → Prop} (hC : ∀ (h : Hp) (x2 : Int32), K (.inl (h, x2)) → EW Γ mX12_book 63 [(0, rf Γ x0), (2, .int x2)] [] h) (hE90 : ∀ (h : Hp), K (.inr h) → EW Γ mX12_book 90 [(0, rf Γ x0)] [] h) : EG Γ mX12_book 63 [(0, rf Γ x0), (2, .int x2)] [] h (B_X12_book_63 h x0 x2) K := by
  unfold B_X12_book_63
  refine x_iload_n hO 1 rfl rfl dX12_book_63 ?_
  refine x_if_eq hO (tg := 90) dX12_book_64 (by decide) ?_ ?_
  · exact x_leafs [0] rfl (hE90 h)
  · refine x_aload_n hO 0 rfl rfl dX12_book_67 ?_
    refine y_HI (x_callV hO lv_RX12_257 hx0 vc_12 (by decide) (As := []) rfl (Nat.le_of_ble_eq_true rfl) (ok_X12_part (cG Γ) h x0 hx0) dX12_book_68 rfl (Nat.le_of_ble_eq_true rfl)) (fun r1 => ?_)
    refine x_if_eq hO (tg := 85) dX12_book_71 (by decide) ?_ ?_
    · refine x_iconst hO (v := 0) (by decide) dX12_book_85 ?_
      refine x_istore_n hO rfl [(2, .int ((0 : Int32))), (0, rf Γ x0)] dX12_book_86 (by decide) rfl ?_
      refine x_goto hO (tg := 63) dX12_book_87 (by decide) ?_
      exact x_leafs [1, 0] rfl (hC r1.1 ((0 : Int32)))
    · refine x_aload_n hO 0 rfl rfl dX12_book_74 ?_
      refine x_getI hO fl_RX12_183 hx0 dX12_book_75 ?_
      refine x_if_eq hO (tg := 85) dX12_book_78 (by decide) ?_ ?_
      · refine x_iconst hO (v := 0) (by decide) dX12_book_85 ?_
        refine x_istore_n hO rfl [(2, .int ((0 : Int32))), (0, rf Γ x0)] dX12_book_86 (by decide) rfl ?_
        refine x_goto hO (tg := 63) dX12_book_87 (by decide) ?_
        exact x_leafs [1, 0] rfl (hC r1.1 ((0 : Int32)))
      · refine x_iconst hO (v := 1) (by decide) dX12_book_81 ?_
        refine x_goto hO (tg := 86) dX12_book_82 (by decide) ?_
        refine x_istore_n hO rfl [(2, .int ((1 : Int32))), (0, rf Γ x0)] dX12_book_86 (by decide) rfl ?_
        refine x_goto hO (tg := 63) dX12_book_87 (by decide) ?_
        exact x_leafs [1, 0] rfl (hC r1.1 ((1 : Int32)))
set_option maxHeartbeats 4000000 in
set_option maxRecDepth 100000 in
theorem go_X12_book_L63 {Γ : Cx} (hO : Ok Γ mX12_book) (h : Hp) (x0 : Nat) (x2 : Int32) (hx0 : Is x0 12) {K : Hp → Prop} (hE90 : ∀ (h : Hp), K (h) → EW Γ mX12_book 90 [(0, rf Γ x0)] [] h) : EG Γ mX12_book 63 [(0, rf Γ x0), (2, .int x2)] [] h (L_X12_book_63 h x0 x2) K := by
  have q := x_loop (Γ := Γ) (M := mX12_book) (pc := 63) (B := fun s : Hp × Int32 => B_X12_book_63 s.1 x0 s.2) (lvf := fun s => [(0, rf Γ x0), (2, .int s.2)]) (hf := fun s => s.1) (Ky := K) (fun s => go_X12_book_B63 hO s.1 x0 s.2 hx0 (fun _ _ => id) hE90) (h, x2)
  exact q
noncomputable def B_X12_book_114 (h : Hp) (x0 : Nat) (x3 : Int32) : Option ((Hp × Int32) ⊕ (Hp)) :=
  if ((4 : Int32)) < x3 then some (.inr h) else gd (ib (((3200 : Int32)) + x3) (LEN (GR x0 0))) (gd (ib x3 (LEN (GR x0 0))) (some (.inl (uI h (GR x0 0) (nx x3) (hI h (GR x0 0) (nx (((3200 : Int32)) + x3))), x3 + (1 : Int32)))))
noncomputable def L_X12_book_114 (h : Hp) (x0 : Nat) (x3 : Int32) : Option (Hp) := iterW (fun s : Hp × Int32 => B_X12_book_114 s.1 x0 s.2) (h, x3)
set_option maxHeartbeats 4000000 in
set_option maxRecDepth 100000 in
theorem go_X12_book_B114 {Γ : Cx} (hO : Ok Γ mX12_book) (h : Hp) (x0 : Nat) (x3 : Int32) (hx0 : Is x0 12) {K : (Hp × Int32) ⊕ (Hp) → Prop} (hC : ∀ (h : Hp) (x3 : Int32), K (.inl (h, x3)) → EW Γ mX12_book 114 [(0, rf Γ x0), (3, .int x3)] [] h) (hE141 : ∀ (h : Hp), K (.inr h) → EW Γ mX12_book 141 [(0, rf Γ x0)] [] h) : EG Γ mX12_book 114 [(0, rf Γ x0), (3, .int x3)] [] h (B_X12_book_114 h x0 x3) K := by
  unfold B_X12_book_114
  refine x_iload_n hO 1 rfl rfl dX12_book_114 ?_
  refine x_iconst hO (v := 4) (by decide) dX12_book_115 ?_
  refine x_icmp_gt hO (tg := 141) dX12_book_116 (by decide) ?_ ?_
  · exact x_leafs [0] rfl (hE141 h)
  · refine x_aload_n hO 0 rfl rfl dX12_book_119 ?_
    refine x_getR hO fl_RX12_7 hx0 dX12_book_120 ?_
    refine x_iload_n hO 1 rfl rfl dX12_book_123 ?_
    refine x_aload_n hO 0 rfl rfl dX12_book_124 ?_
    refine x_getR hO fl_RX12_7 hx0 dX12_book_125 ?_
    refine x_sipush hO (v := 3200) (by decide) dX12_book_128 ?_
    refine x_iload_n hO 1 rfl rfl dX12_book_131 ?_
    refine x_iadd hO dX12_book_132 ?_
    refine x_iald hO (gr_12_0 hx0) dX12_book_133 ?_
    refine x_iast hO (gr_12_0 hx0) dX12_book_134 ?_
    refine x_iinc hO 1 (v := 1) [(3, .int (x3 + (1 : Int32))), (0, rf Γ x0)] dX12_book_135 rfl (by decide) (by decide) rfl ?_
    refine x_goto hO (tg := 114) dX12_book_138 (by decide) ?_
    exact x_leafs [1, 0] rfl (hC (uI h (GR x0 0) (nx x3) (hI h (GR x0 0) (nx (((3200 : Int32)) + x3)))) (x3 + (1 : Int32)))
set_option maxHeartbeats 4000000 in
set_option maxRecDepth 100000 in
theorem go_X12_book_L114 {Γ : Cx} (hO : Ok Γ mX12_book) (h : Hp) (x0 : Nat) (x3 : Int32) (hx0 : Is x0 12) {K : Hp → Prop} (hE141 : ∀ (h : Hp), K (h) → EW Γ mX12_book 141 [(0, rf Γ x0)] [] h) : EG Γ mX12_book 114 [(0, rf Γ x0), (3, .int x3)] [] h (L_X12_book_114 h x0 x3) K := by
  have q := x_loop (Γ := Γ) (M := mX12_book) (pc := 114) (B := fun s : Hp × Int32 => B_X12_book_114 s.1 x0 s.2) (lvf := fun s => [(0, rf Γ x0), (3, .int s.2)]) (hf := fun s => s.1) (Ky := K) (fun s => go_X12_book_B114 hO s.1 x0 s.2 hx0 (fun _ _ => id) hE141) (h, x3)
  exact q
noncomputable def B_X12_book_145 (h : Hp) (x0 : Nat) (x3 : Int32) : Option ((Hp × Int32) ⊕ (Hp × Int32)) :=
  if ((436 : Int32)) ≤ x3 then gd (ib ((3 : Int32)) (LEN (GR x0 0))) ((F_X12_gives h x0 (hI h (GR x0 0) (nx ((3 : Int32))))).bind (fun r1 => some (.inr ((r1.1, r1.2))))) else gd (ib (((3200 : Int32)) + x3) (LEN (GR x0 0))) (gd (ib x3 (LEN (GR x0 0))) (some (.inl (uI h (GR x0 0) (nx x3) (hI h (GR x0 0) (nx (((3200 : Int32)) + x3))), x3 + (1 : Int32)))))
noncomputable def L_X12_book_145 (h : Hp) (x0 : Nat) (x3 : Int32) : Option (Hp × Int32) := iterW (fun s : Hp × Int32 => B_X12_book_145 s.1 x0 s.2) (h, x3)
set_option maxHeartbeats 4000000 in
set_option maxRecDepth 100000 in
theorem go_X12_book_B145 {Γ : Cx} (hO : Ok Γ mX12_book) (h : Hp) (x0 : Nat) (x3 : Int32) (hx0 : Is x0 12) {K : (Hp × Int32) ⊕ (Hp × Int32) → Prop} (hC : ∀ (h : Hp) (x3 : Int32), K (.inl (h, x3)) → EW Γ mX12_book 145 [(0, rf Γ x0), (3, .int x3)] [] h) (hR : ∀ r, K (.inr r) → emHI r = tgt Γ) : EG Γ mX12_book 145 [(0, rf Γ x0), (3, .int x3)] [] h (B_X12_book_145 h x0 x3) K := by
  unfold B_X12_book_145
  refine x_iload_n hO 1 rfl rfl dX12_book_145 ?_
  refine x_sipush hO (v := 436) (by decide) dX12_book_146 ?_
  refine x_icmp_ge hO (tg := 174) dX12_book_149 (by decide) ?_ ?_
  · refine x_aload_n hO 0 rfl rfl dX12_book_174 ?_
    refine x_aload_n hO 0 rfl rfl dX12_book_175 ?_
    refine x_getR hO fl_RX12_7 hx0 dX12_book_176 ?_
    refine x_iconst hO (v := 3) (by decide) dX12_book_179 ?_
    refine x_iald hO (gr_12_0 hx0) dX12_book_180 ?_
    refine y_HI (x_callV hO lv_RX12_146 hx0 vc_12 (by decide) (As := [.int (hI h (GR x0 0) (nx ((3 : Int32))))]) rfl (Nat.le_of_ble_eq_true rfl) (ok_X12_gives (cG Γ) h x0 (hI h (GR x0 0) (nx ((3 : Int32)))) hx0) dX12_book_181 rfl (Nat.le_of_ble_eq_true rfl)) (fun r1 => ?_)
    exact x_iret hO rfl dX12_book_184 (hR _)
  · refine x_aload_n hO 0 rfl rfl dX12_book_152 ?_
    refine x_getR hO fl_RX12_7 hx0 dX12_book_153 ?_
    refine x_iload_n hO 1 rfl rfl dX12_book_156 ?_
    refine x_aload_n hO 0 rfl rfl dX12_book_157 ?_
    refine x_getR hO fl_RX12_7 hx0 dX12_book_158 ?_
    refine x_sipush hO (v := 3200) (by decide) dX12_book_161 ?_
    refine x_iload_n hO 1 rfl rfl dX12_book_164 ?_
    refine x_iadd hO dX12_book_165 ?_
    refine x_iald hO (gr_12_0 hx0) dX12_book_166 ?_
    refine x_iast hO (gr_12_0 hx0) dX12_book_167 ?_
    refine x_iinc hO 1 (v := 1) [(3, .int (x3 + (1 : Int32))), (0, rf Γ x0)] dX12_book_168 rfl (by decide) (by decide) rfl ?_
    refine x_goto hO (tg := 145) dX12_book_171 (by decide) ?_
    exact x_leafs [1, 0] rfl (hC (uI h (GR x0 0) (nx x3) (hI h (GR x0 0) (nx (((3200 : Int32)) + x3)))) (x3 + (1 : Int32)))
set_option maxHeartbeats 4000000 in
set_option maxRecDepth 100000 in
theorem go_X12_book_L145 {Γ : Cx} (hO : Ok Γ mX12_book) (h : Hp) (x0 : Nat) (x3 : Int32) (hx0 : Is x0 12) {K : Hp × Int32 → Prop} (hR : ∀ r, K (r) → emHI r = tgt Γ) : EG Γ mX12_book 145 [(0, rf Γ x0), (3, .int x3)] [] h (L_X12_book_145 h x0 x3) K := by
  have q := x_loop (Γ := Γ) (M := mX12_book) (pc := 145) (B := fun s : Hp × Int32 => B_X12_book_145 s.1 x0 s.2) (lvf := fun s => [(0, rf Γ x0), (3, .int s.2)]) (hf := fun s => s.1) (Ky := K) (fun s => go_X12_book_B145 hO s.1 x0 s.2 hx0 (fun _ _ => id) hR) (h, x3)
  exact q
noncomputable def F_X12_book (h : Hp) (x0 : Nat) (x1 : Int32) : Option (Hp × Int32) :=
  if x1 < 0 then (F_X12_refuse h x0 ((1 : Int32))).bind (fun r1 => some ((r1.1, r1.2))) else if x1 ≤ (hI h x0 9) then (F_X12_begins h x0 x1).bind (fun r2 => gd (ib ((3202 : Int32)) (LEN (GR x0 0))) (gd (ib ((3203 : Int32)) (LEN (GR x0 0))) (gd (ib ((3204 : Int32)) (LEN (GR x0 0))) (bnd (uI (uI (uI r2 (GR x0 0) (nx ((3202 : Int32))) ((0 : Int32))) (GR x0 0) (nx ((3203 : Int32))) ((0 : Int32))) (GR x0 0) (nx ((3204 : Int32))) ((0 : Int32))) (fun h3 => if (hI h3 x0 11) = 0 then (L_X12_book_63 h3 x0 ((0 : Int32))).bind (fun e4 => if (hI (uI e4 x0 15 (hI e4 x0 17)) x0 17) ≤ 0 then (L_X12_book_114 (uI e4 x0 15 (hI e4 x0 17)) x0 ((2 : Int32))).bind (fun e5 => L_X12_book_145 e5 x0 ((368 : Int32))) else (F_X12_refuse (uI e4 x0 15 (hI e4 x0 17)) x0 ((9 : Int32))).bind (fun r6 => some ((r6.1, r6.2)))) else (L_X12_book_63 h3 x0 ((1 : Int32))).bind (fun e7 => if (hI (uI e7 x0 15 (hI e7 x0 17)) x0 17) ≤ 0 then (L_X12_book_114 (uI e7 x0 15 (hI e7 x0 17)) x0 ((2 : Int32))).bind (fun e8 => L_X12_book_145 e8 x0 ((368 : Int32))) else (F_X12_refuse (uI e7 x0 15 (hI e7 x0 17)) x0 ((9 : Int32))).bind (fun r9 => some ((r9.1, r9.2))))))))) else (F_X12_refuse h x0 ((1 : Int32))).bind (fun r10 => some ((r10.1, r10.2)))
set_option maxHeartbeats 4000000 in
set_option maxRecDepth 100000 in
theorem go_X12_book {Γ : Cx} (hO : Ok Γ mX12_book) (h : Hp) (x0 : Nat) (x1 : Int32) (hx0 : Is x0 12) {K : Hp × Int32 → Prop} (hR : ∀ r, K r → emHI r = tgt Γ) : EG Γ mX12_book 0 [(0, rf Γ x0), (1, .int x1)] [] h (F_X12_book h x0 x1) K := by
  unfold F_X12_book
  refine x_iload_n hO 1 rfl rfl dX12_book_0 ?_
  refine x_if_lt hO (tg := 12) dX12_book_1 (by decide) ?_ ?_
  · refine x_aload_n hO 0 rfl rfl dX12_book_12 ?_
    refine x_iconst hO (v := 1) (by decide) dX12_book_13 ?_
    refine y_HI (x_callV hO lv_RX12_137 hx0 vc_12 (by decide) (As := [.int ((1 : Int32))]) rfl (Nat.le_of_ble_eq_true rfl) (ok_X12_refuse (cG Γ) h x0 ((1 : Int32)) hx0) dX12_book_14 rfl (Nat.le_of_ble_eq_true rfl)) (fun r1 => ?_)
    exact x_iret hO rfl dX12_book_17 (hR _)
  · refine x_iload_n hO 1 rfl rfl dX12_book_4 ?_
    refine x_aload_n hO 0 rfl rfl dX12_book_5 ?_
    refine x_getI hO fl_RX12_161 hx0 dX12_book_6 ?_
    refine x_icmp_le hO (tg := 18) dX12_book_9 (by decide) ?_ ?_
    · refine x_aload_n hO 0 rfl rfl dX12_book_18 ?_
      refine x_iload_n hO 1 rfl rfl dX12_book_19 ?_
      refine y_HV (x_callV hO lv_RX12_254 hx0 vc_12 (by decide) (As := [.int x1]) rfl (Nat.le_of_ble_eq_true rfl) (ok_X12_begins (cG Γ) h x0 x1 hx0) dX12_book_20 rfl (Nat.le_of_ble_eq_true rfl)) (fun r2 => ?_)
      refine x_aload_n hO 0 rfl rfl dX12_book_23 ?_
      refine x_getR hO fl_RX12_7 hx0 dX12_book_24 ?_
      refine x_sipush hO (v := 3202) (by decide) dX12_book_27 ?_
      refine x_iconst hO (v := 0) (by decide) dX12_book_30 ?_
      refine x_iast hO (gr_12_0 hx0) dX12_book_31 ?_
      refine x_aload_n hO 0 rfl rfl dX12_book_32 ?_
      refine x_getR hO fl_RX12_7 hx0 dX12_book_33 ?_
      refine x_sipush hO (v := 3203) (by decide) dX12_book_36 ?_
      refine x_iconst hO (v := 0) (by decide) dX12_book_39 ?_
      refine x_iast hO (gr_12_0 hx0) dX12_book_40 ?_
      refine x_aload_n hO 0 rfl rfl dX12_book_41 ?_
      refine x_getR hO fl_RX12_7 hx0 dX12_book_42 ?_
      refine x_sipush hO (v := 3204) (by decide) dX12_book_45 ?_
      refine x_iconst hO (v := 0) (by decide) dX12_book_48 ?_
      refine x_iast hO (gr_12_0 hx0) dX12_book_49 ?_
      refine x_bnd ?_
      generalize uI (uI (uI r2 (GR x0 0) (nx ((3202 : Int32))) ((0 : Int32))) (GR x0 0) (nx ((3203 : Int32))) ((0 : Int32))) (GR x0 0) (nx ((3204 : Int32))) ((0 : Int32)) = h3
      refine x_aload_n hO 0 rfl rfl dX12_book_50 ?_
      refine x_getI hO fl_RX12_183 hx0 dX12_book_51 ?_
      refine x_if_eq hO (tg := 61) dX12_book_54 (by decide) ?_ ?_
      · refine x_iconst hO (v := 0) (by decide) dX12_book_61 ?_
        refine x_istore_n hO rfl [(2, .int ((0 : Int32))), (0, rf Γ x0), (1, .int x1)] dX12_book_62 (by decide) rfl ?_
        refine x_bind (x_sub [1, 0] rfl (go_X12_book_L63 hO h3 x0 ((0 : Int32)) hx0 (fun y4_0 hx => ?_)))
        refine x_run (t := (if (hI (uI y4_0 x0 15 (hI y4_0 x0 17)) x0 17) ≤ 0 then (L_X12_book_114 (uI y4_0 x0 15 (hI y4_0 x0 17)) x0 ((2 : Int32))).bind (fun e5 => L_X12_book_145 e5 x0 ((368 : Int32))) else (F_X12_refuse (uI y4_0 x0 15 (hI y4_0 x0 17)) x0 ((9 : Int32))).bind (fun r6 => some ((r6.1, r6.2))) : Option (Hp × Int32))) hx ?_
        refine x_aload_n hO 0 rfl rfl dX12_book_90 ?_
        refine x_aload_n hO 0 rfl rfl dX12_book_91 ?_
        refine x_getI hO fl_RX12_207 hx0 dX12_book_92 ?_
        refine x_putI hO fl_RX12_34 hx0 dX12_book_95 ?_
        refine x_aload_n hO 0 rfl rfl dX12_book_98 ?_
        refine x_getI hO fl_RX12_207 hx0 dX12_book_99 ?_
        refine x_if_le hO (tg := 112) dX12_book_102 (by decide) ?_ ?_
        · refine x_iconst hO (v := 2) (by decide) dX12_book_112 ?_
          refine x_istore_n hO rfl [(3, .int ((2 : Int32))), (0, rf Γ x0)] dX12_book_113 (by decide) rfl ?_
          refine x_bind (x_sub [1, 0] rfl (go_X12_book_L114 hO (uI y4_0 x0 15 (hI y4_0 x0 17)) x0 ((2 : Int32)) hx0 (fun y5_0 hx => ?_)))
          refine x_run (t := (L_X12_book_145 y5_0 x0 ((368 : Int32)) : Option (Hp × Int32))) hx ?_
          refine x_sipush hO (v := 368) (by decide) dX12_book_141 ?_
          refine x_istore_n hO rfl [(3, .int ((368 : Int32))), (0, rf Γ x0)] dX12_book_144 (by decide) rfl ?_
          exact x_sub [1, 0] rfl (go_X12_book_L145 hO y5_0 x0 ((368 : Int32)) hx0 hR)
        · refine x_aload_n hO 0 rfl rfl dX12_book_105 ?_
          refine x_bipush hO (v := 9) (by decide) dX12_book_106 ?_
          refine y_HI (x_callV hO lv_RX12_137 hx0 vc_12 (by decide) (As := [.int ((9 : Int32))]) rfl (Nat.le_of_ble_eq_true rfl) (ok_X12_refuse (cG Γ) (uI y4_0 x0 15 (hI y4_0 x0 17)) x0 ((9 : Int32)) hx0) dX12_book_108 rfl (Nat.le_of_ble_eq_true rfl)) (fun r6 => ?_)
          exact x_iret hO rfl dX12_book_111 (hR _)
      · refine x_iconst hO (v := 1) (by decide) dX12_book_57 ?_
        refine x_goto hO (tg := 62) dX12_book_58 (by decide) ?_
        refine x_istore_n hO rfl [(2, .int ((1 : Int32))), (0, rf Γ x0), (1, .int x1)] dX12_book_62 (by decide) rfl ?_
        refine x_bind (x_sub [1, 0] rfl (go_X12_book_L63 hO h3 x0 ((1 : Int32)) hx0 (fun y7_0 hx => ?_)))
        refine x_run (t := (if (hI (uI y7_0 x0 15 (hI y7_0 x0 17)) x0 17) ≤ 0 then (L_X12_book_114 (uI y7_0 x0 15 (hI y7_0 x0 17)) x0 ((2 : Int32))).bind (fun e8 => L_X12_book_145 e8 x0 ((368 : Int32))) else (F_X12_refuse (uI y7_0 x0 15 (hI y7_0 x0 17)) x0 ((9 : Int32))).bind (fun r9 => some ((r9.1, r9.2))) : Option (Hp × Int32))) hx ?_
        refine x_aload_n hO 0 rfl rfl dX12_book_90 ?_
        refine x_aload_n hO 0 rfl rfl dX12_book_91 ?_
        refine x_getI hO fl_RX12_207 hx0 dX12_book_92 ?_
        refine x_putI hO fl_RX12_34 hx0 dX12_book_95 ?_
        refine x_aload_n hO 0 rfl rfl dX12_book_98 ?_
        refine x_getI hO fl_RX12_207 hx0 dX12_book_99 ?_
        refine x_if_le hO (tg := 112) dX12_book_102 (by decide) ?_ ?_
        · refine x_iconst hO (v := 2) (by decide) dX12_book_112 ?_
          refine x_istore_n hO rfl [(3, .int ((2 : Int32))), (0, rf Γ x0)] dX12_book_113 (by decide) rfl ?_
          refine x_bind (x_sub [1, 0] rfl (go_X12_book_L114 hO (uI y7_0 x0 15 (hI y7_0 x0 17)) x0 ((2 : Int32)) hx0 (fun y8_0 hx => ?_)))
          refine x_run (t := (L_X12_book_145 y8_0 x0 ((368 : Int32)) : Option (Hp × Int32))) hx ?_
          refine x_sipush hO (v := 368) (by decide) dX12_book_141 ?_
          refine x_istore_n hO rfl [(3, .int ((368 : Int32))), (0, rf Γ x0)] dX12_book_144 (by decide) rfl ?_
          exact x_sub [1, 0] rfl (go_X12_book_L145 hO y8_0 x0 ((368 : Int32)) hx0 hR)
        · refine x_aload_n hO 0 rfl rfl dX12_book_105 ?_
          refine x_bipush hO (v := 9) (by decide) dX12_book_106 ?_
          refine y_HI (x_callV hO lv_RX12_137 hx0 vc_12 (by decide) (As := [.int ((9 : Int32))]) rfl (Nat.le_of_ble_eq_true rfl) (ok_X12_refuse (cG Γ) (uI y7_0 x0 15 (hI y7_0 x0 17)) x0 ((9 : Int32)) hx0) dX12_book_108 rfl (Nat.le_of_ble_eq_true rfl)) (fun r9 => ?_)
          exact x_iret hO rfl dX12_book_111 (hR _)
    · refine x_aload_n hO 0 rfl rfl dX12_book_12 ?_
      refine x_iconst hO (v := 1) (by decide) dX12_book_13 ?_
      refine y_HI (x_callV hO lv_RX12_137 hx0 vc_12 (by decide) (As := [.int ((1 : Int32))]) rfl (Nat.le_of_ble_eq_true rfl) (ok_X12_refuse (cG Γ) h x0 ((1 : Int32)) hx0) dX12_book_14 rfl (Nat.le_of_ble_eq_true rfl)) (fun r10 => ?_)
      exact x_iret hO rfl dX12_book_17 (hR _)
theorem ok_X12_book (G : Gl) (h : Hp) (x0 : Nat) (x1 : Int32) (hx0 : Is x0 12) : CN G mX12_book [.ref (gb G + x0), .int x1] h ((F_X12_book h x0 x1).map (emHI)) := CN.fn pn_RX12 (Nat.le_of_ble_eq_true rfl) (fun Γ hG hO => by subst hG; exact go_X12_book hO h x0 x1 hx0 (fun _ q => q))
noncomputable def B_X1_parse_23 (h : Hp) (x0 : Nat) (x3 : Int32) : Option ((Hp × Int32) ⊕ (Hp)) :=
  if ((500 : Int32)) ≤ x3 then some (.inr h) else (F_X7_goesOn h (GR x0 0)).bind (fun r1 => if r1 = 0 then some (.inr h) else (F_X7_isWord h (GR x0 0) 0).bind (fun r2 => if r2 = 0 then (F_X7_isWord h (GR x0 0) 2).bind (fun r3 => if r3 = 0 then (F_X7_isWord h (GR x0 0) 4).bind (fun r4 => if r4 = 0 then (F_X7_misplaced h (GR x0 0)).bind (fun r5 => (F_X7_tell h (GR x0 0) r5).bind (fun r6 => some (.inl (r6.1, x3 + (1 : Int32))))) else (F_X1_readJoin h x0).bind (fun r7 => some (.inl (r7, x3 + (1 : Int32))))) else (F_X1_readMean h x0).bind (fun r8 => some (.inl (r8, x3 + (1 : Int32))))) else (F_X1_readCode h x0).bind (fun r9 => some (.inl (r9, x3 + (1 : Int32))))))
noncomputable def L_X1_parse_23 (h : Hp) (x0 : Nat) (x3 : Int32) : Option (Hp) := iterW (fun s : Hp × Int32 => B_X1_parse_23 s.1 x0 s.2) (h, x3)
set_option maxHeartbeats 4000000 in
set_option maxRecDepth 100000 in
theorem go_X1_parse_B23 {Γ : Cx} (hO : Ok Γ mX1_parse) (h : Hp) (x0 : Nat) (x3 : Int32) (hx0 : Is x0 1) {K : (Hp × Int32) ⊕ (Hp) → Prop} (hC : ∀ (h : Hp) (x3 : Int32), K (.inl (h, x3)) → EW Γ mX1_parse 23 [(0, rf Γ x0), (3, .int x3)] [] h) (hE118 : ∀ (h : Hp), K (.inr h) → EW Γ mX1_parse 118 [(0, rf Γ x0)] [] h) : EG Γ mX1_parse 23 [(0, rf Γ x0), (3, .int x3)] [] h (B_X1_parse_23 h x0 x3) K := by
  unfold B_X1_parse_23
  refine x_iload_n hO 1 rfl rfl dX1_parse_23 ?_
  refine x_sipush hO (v := 500) (by decide) dX1_parse_24 ?_
  refine x_icmp_ge hO (tg := 118) dX1_parse_27 (by decide) ?_ ?_
  · exact x_leafs [0] rfl (hE118 h)
  · refine x_aload_n hO 0 rfl rfl dX1_parse_30 ?_
    refine x_getR hO fl_RX1_12 hx0 dX1_parse_31 ?_
    refine y_PI (x_callV hO lv_RX1_43 (gr_1_0 hx0) vc_7 (by decide) (As := []) rfl (Nat.le_of_ble_eq_true rfl) (ok_X7_goesOn (cG Γ) h (GR x0 0) (gr_1_0 hx0)) dX1_parse_34 rfl (Nat.le_of_ble_eq_true rfl)) (fun r1 => ?_)
    refine x_if_eq hO (tg := 118) dX1_parse_37 (by decide) ?_ ?_
    · exact x_leafs [0] rfl (hE118 h)
    · refine x_aload_n hO 0 rfl rfl dX1_parse_40 ?_
      refine x_getR hO fl_RX1_12 hx0 dX1_parse_41 ?_
      refine x_ldcS hO sr_RX1_47 dX1_parse_44 ?_
      refine y_PI (x_callV hO lv_RX1_49 (gr_1_0 hx0) vc_7 (by decide) (As := [sf Γ 0]) rfl (Nat.le_of_ble_eq_true rfl) (ok_X7_isWord (cG Γ) h (GR x0 0) 0 (gr_1_0 hx0) ((by decide))) dX1_parse_46 rfl (Nat.le_of_ble_eq_true rfl)) (fun r2 => ?_)
      refine x_if_eq hO (tg := 59) dX1_parse_49 (by decide) ?_ ?_
      · refine x_aload_n hO 0 rfl rfl dX1_parse_59 ?_
        refine x_getR hO fl_RX1_12 hx0 dX1_parse_60 ?_
        refine x_ldcS hO sr_RX1_56 dX1_parse_63 ?_
        refine y_PI (x_callV hO lv_RX1_49 (gr_1_0 hx0) vc_7 (by decide) (As := [sf Γ 2]) rfl (Nat.le_of_ble_eq_true rfl) (ok_X7_isWord (cG Γ) h (GR x0 0) 2 (gr_1_0 hx0) ((by decide))) dX1_parse_65 rfl (Nat.le_of_ble_eq_true rfl)) (fun r3 => ?_)
        refine x_if_eq hO (tg := 78) dX1_parse_68 (by decide) ?_ ?_
        · refine x_aload_n hO 0 rfl rfl dX1_parse_78 ?_
          refine x_getR hO fl_RX1_12 hx0 dX1_parse_79 ?_
          refine x_ldcS hO sr_RX1_61 dX1_parse_82 ?_
          refine y_PI (x_callV hO lv_RX1_49 (gr_1_0 hx0) vc_7 (by decide) (As := [sf Γ 4]) rfl (Nat.le_of_ble_eq_true rfl) (ok_X7_isWord (cG Γ) h (GR x0 0) 4 (gr_1_0 hx0) ((by decide))) dX1_parse_84 rfl (Nat.le_of_ble_eq_true rfl)) (fun r4 => ?_)
          refine x_if_eq hO (tg := 97) dX1_parse_87 (by decide) ?_ ?_
          · refine x_aload_n hO 0 rfl rfl dX1_parse_97 ?_
            refine x_getR hO fl_RX1_12 hx0 dX1_parse_98 ?_
            refine x_aload_n hO 0 rfl rfl dX1_parse_101 ?_
            refine x_getR hO fl_RX1_12 hx0 dX1_parse_102 ?_
            refine y_PI (x_callV hO lv_RX1_66 (gr_1_0 hx0) vc_7 (by decide) (As := []) rfl (Nat.le_of_ble_eq_true rfl) (ok_X7_misplaced (cG Γ) h (GR x0 0) (gr_1_0 hx0)) dX1_parse_105 rfl (Nat.le_of_ble_eq_true rfl)) (fun r5 => ?_)
            refine y_HI (x_callV hO lv_RX1_70 (gr_1_0 hx0) vc_7 (by decide) (As := [.int r5]) rfl (Nat.le_of_ble_eq_true rfl) (ok_X7_tell (cG Γ) h (GR x0 0) r5 (gr_1_0 hx0)) dX1_parse_108 rfl (Nat.le_of_ble_eq_true rfl)) (fun r6 => ?_)
            refine x_pop_i hO dX1_parse_111 ?_
            refine x_iinc hO 1 (v := 1) [(3, .int (x3 + (1 : Int32))), (0, rf Γ x0)] dX1_parse_112 rfl (by decide) (by decide) rfl ?_
            refine x_goto hO (tg := 23) dX1_parse_115 (by decide) ?_
            exact x_leafs [1, 0] rfl (hC r6.1 (x3 + (1 : Int32)))
          · refine x_aload_n hO 0 rfl rfl dX1_parse_90 ?_
            refine y_HV (x_callV hO lv_RX1_63 hx0 vc_1 (by decide) (As := []) rfl (Nat.le_of_ble_eq_true rfl) (ok_X1_readJoin (cG Γ) h x0 hx0) dX1_parse_91 rfl (Nat.le_of_ble_eq_true rfl)) (fun r7 => ?_)
            refine x_goto hO (tg := 112) dX1_parse_94 (by decide) ?_
            refine x_iinc hO 1 (v := 1) [(3, .int (x3 + (1 : Int32))), (0, rf Γ x0)] dX1_parse_112 rfl (by decide) (by decide) rfl ?_
            refine x_goto hO (tg := 23) dX1_parse_115 (by decide) ?_
            exact x_leafs [1, 0] rfl (hC r7 (x3 + (1 : Int32)))
        · refine x_aload_n hO 0 rfl rfl dX1_parse_71 ?_
          refine y_HV (x_callV hO lv_RX1_58 hx0 vc_1 (by decide) (As := []) rfl (Nat.le_of_ble_eq_true rfl) (ok_X1_readMean (cG Γ) h x0 hx0) dX1_parse_72 rfl (Nat.le_of_ble_eq_true rfl)) (fun r8 => ?_)
          refine x_goto hO (tg := 112) dX1_parse_75 (by decide) ?_
          refine x_iinc hO 1 (v := 1) [(3, .int (x3 + (1 : Int32))), (0, rf Γ x0)] dX1_parse_112 rfl (by decide) (by decide) rfl ?_
          refine x_goto hO (tg := 23) dX1_parse_115 (by decide) ?_
          exact x_leafs [1, 0] rfl (hC r8 (x3 + (1 : Int32)))
      · refine x_aload_n hO 0 rfl rfl dX1_parse_52 ?_
        refine y_HV (x_callV hO lv_RX1_53 hx0 vc_1 (by decide) (As := []) rfl (Nat.le_of_ble_eq_true rfl) (ok_X1_readCode (cG Γ) h x0 hx0) dX1_parse_53 rfl (Nat.le_of_ble_eq_true rfl)) (fun r9 => ?_)
        refine x_goto hO (tg := 112) dX1_parse_56 (by decide) ?_
        refine x_iinc hO 1 (v := 1) [(3, .int (x3 + (1 : Int32))), (0, rf Γ x0)] dX1_parse_112 rfl (by decide) (by decide) rfl ?_
        refine x_goto hO (tg := 23) dX1_parse_115 (by decide) ?_
        exact x_leafs [1, 0] rfl (hC r9 (x3 + (1 : Int32)))
set_option maxHeartbeats 4000000 in
set_option maxRecDepth 100000 in
theorem go_X1_parse_L23 {Γ : Cx} (hO : Ok Γ mX1_parse) (h : Hp) (x0 : Nat) (x3 : Int32) (hx0 : Is x0 1) {K : Hp → Prop} (hE118 : ∀ (h : Hp), K (h) → EW Γ mX1_parse 118 [(0, rf Γ x0)] [] h) : EG Γ mX1_parse 23 [(0, rf Γ x0), (3, .int x3)] [] h (L_X1_parse_23 h x0 x3) K := by
  have q := x_loop (Γ := Γ) (M := mX1_parse) (pc := 23) (B := fun s : Hp × Int32 => B_X1_parse_23 s.1 x0 s.2) (lvf := fun s => [(0, rf Γ x0), (3, .int s.2)]) (hf := fun s => s.1) (Ky := K) (fun s => go_X1_parse_B23 hO s.1 x0 s.2 hx0 (fun _ _ => id) hE118) (h, x3)
  exact q
noncomputable def F_X1_parse (h : Hp) (x0 : Nat) (x1 : Nat) (x2 : Int32) : Option (Hp × Int32) :=
  (F_X7_begin h (GR x0 0) x1 x2).bind (fun r1 => (F_X0_makeEmpty r1 (GR x0 1)).bind (fun r2 => (L_X1_parse_23 (uI r2 x0 4 ((0 : Int32))) x0 ((0 : Int32))).bind (fun e3 => if (hI e3 (GR x0 0) 5) = 0 then some ((e3, (1 : Int32))) else some ((e3, (0 : Int32))))))
set_option maxHeartbeats 4000000 in
set_option maxRecDepth 100000 in
theorem go_X1_parse {Γ : Cx} (hO : Ok Γ mX1_parse) (h : Hp) (x0 : Nat) (x1 : Nat) (x2 : Int32) (hx0 : Is x0 1) (hx1 : Is x1 14) {K : Hp × Int32 → Prop} (hR : ∀ r, K r → emHI r = tgt Γ) : EG Γ mX1_parse 0 [(0, rf Γ x0), (1, rf Γ x1), (2, .int x2)] [] h (F_X1_parse h x0 x1 x2) K := by
  unfold F_X1_parse
  refine x_aload_n hO 0 rfl rfl dX1_parse_0 ?_
  refine x_getR hO fl_RX1_12 hx0 dX1_parse_1 ?_
  refine x_aload_n hO 1 rfl rfl dX1_parse_4 ?_
  refine x_iload_n hO 2 rfl rfl dX1_parse_5 ?_
  refine y_HV (x_callV hO lv_RX1_36 (gr_1_0 hx0) vc_7 (by decide) (As := [rf Γ x1, .int x2]) rfl (Nat.le_of_ble_eq_true rfl) (ok_X7_begin (cG Γ) h (GR x0 0) x1 x2 (gr_1_0 hx0) hx1) dX1_parse_6 rfl (Nat.le_of_ble_eq_true rfl)) (fun r1 => ?_)
  refine x_aload_n hO 0 rfl rfl dX1_parse_9 ?_
  refine x_getR hO fl_RX1_21 hx0 dX1_parse_10 ?_
  refine y_HV (x_callV hO lv_RX1_40 (gr_1_1 hx0) vc_0 (by decide) (As := []) rfl (Nat.le_of_ble_eq_true rfl) (ok_X0_makeEmpty (cG Γ) r1 (GR x0 1) (gr_1_1 hx0)) dX1_parse_13 rfl (Nat.le_of_ble_eq_true rfl)) (fun r2 => ?_)
  refine x_aload_n hO 0 rfl rfl dX1_parse_16 ?_
  refine x_iconst hO (v := 0) (by decide) dX1_parse_17 ?_
  refine x_putI hO fl_RX1_32 hx0 dX1_parse_18 ?_
  refine x_iconst hO (v := 0) (by decide) dX1_parse_21 ?_
  refine x_istore_n hO rfl [(3, .int ((0 : Int32))), (0, rf Γ x0), (1, rf Γ x1), (2, .int x2)] dX1_parse_22 (by decide) rfl ?_
  refine x_bind (x_sub [1, 0] rfl (go_X1_parse_L23 hO (uI r2 x0 4 ((0 : Int32))) x0 ((0 : Int32)) hx0 (fun y3_0 hx => ?_)))
  refine x_run (t := (if (hI y3_0 (GR x0 0) 5) = 0 then some ((y3_0, (1 : Int32))) else some ((y3_0, (0 : Int32))) : Option (Hp × Int32))) hx ?_
  refine x_aload_n hO 0 rfl rfl dX1_parse_118 ?_
  refine x_getR hO fl_RX1_12 hx0 dX1_parse_119 ?_
  refine x_getI hO fl_RX1_74 (gr_1_0 hx0) dX1_parse_122 ?_
  refine x_if_ne hO (tg := 132) dX1_parse_125 (by decide) ?_ ?_
  · refine x_iconst hO (v := 0) (by decide) dX1_parse_132 ?_
    exact x_zretv hO rfl (by decide) dX1_parse_133 (hR _)
  · refine x_iconst hO (v := 1) (by decide) dX1_parse_128 ?_
    refine x_goto hO (tg := 133) dX1_parse_129 (by decide) ?_
    exact x_zretv hO rfl (by decide) dX1_parse_133 (hR _)
theorem ok_X1_parse (G : Gl) (h : Hp) (x0 : Nat) (x1 : Nat) (x2 : Int32) (hx0 : Is x0 1) (hx1 : Is x1 14) : CN G mX1_parse [.ref (gb G + x0), .ref (gb G + x1), .int x2] h ((F_X1_parse h x0 x1 x2).map (emHI)) := CN.fn pn_RX1 (Nat.le_of_ble_eq_true rfl) (fun Γ hG hO => by subst hG; exact go_X1_parse hO h x0 x1 x2 hx0 hx1 (fun _ q => q))
noncomputable def B_X8_parse_23 (h : Hp) (x0 : Nat) (x3 : Int32) : Option ((Hp × Int32) ⊕ (Hp)) :=
  if ((300 : Int32)) ≤ x3 then some (.inr h) else (F_X7_goesOn h (GR x0 0)).bind (fun r1 => if r1 = 0 then some (.inr h) else (F_X7_isWord h (GR x0 0) 5).bind (fun r2 => if r2 = 0 then (F_X8_readStep h x0).bind (fun r3 => some (.inl (r3, x3 + (1 : Int32)))) else (F_X8_readEnd h x0).bind (fun r4 => some (.inl (r4, x3 + (1 : Int32))))))
noncomputable def L_X8_parse_23 (h : Hp) (x0 : Nat) (x3 : Int32) : Option (Hp) := iterW (fun s : Hp × Int32 => B_X8_parse_23 s.1 x0 s.2) (h, x3)
set_option maxHeartbeats 4000000 in
set_option maxRecDepth 100000 in
theorem go_X8_parse_B23 {Γ : Cx} (hO : Ok Γ mX8_parse) (h : Hp) (x0 : Nat) (x3 : Int32) (hx0 : Is x0 8) {K : (Hp × Int32) ⊕ (Hp) → Prop} (hC : ∀ (h : Hp) (x3 : Int32), K (.inl (h, x3)) → EW Γ mX8_parse 23 [(0, rf Γ x0), (3, .int x3)] [] h) (hE69 : ∀ (h : Hp), K (.inr h) → EW Γ mX8_parse 69 [(0, rf Γ x0)] [] h) : EG Γ mX8_parse 23 [(0, rf Γ x0), (3, .int x3)] [] h (B_X8_parse_23 h x0 x3) K := by
  unfold B_X8_parse_23
  refine x_iload_n hO 1 rfl rfl dX8_parse_23 ?_
  refine x_sipush hO (v := 300) (by decide) dX8_parse_24 ?_
  refine x_icmp_ge hO (tg := 69) dX8_parse_27 (by decide) ?_ ?_
  · exact x_leafs [0] rfl (hE69 h)
  · refine x_aload_n hO 0 rfl rfl dX8_parse_30 ?_
    refine x_getR hO fl_RX8_12 hx0 dX8_parse_31 ?_
    refine y_PI (x_callV hO lv_RX8_46 (gr_8_0 hx0) vc_7 (by decide) (As := []) rfl (Nat.le_of_ble_eq_true rfl) (ok_X7_goesOn (cG Γ) h (GR x0 0) (gr_8_0 hx0)) dX8_parse_34 rfl (Nat.le_of_ble_eq_true rfl)) (fun r1 => ?_)
    refine x_if_eq hO (tg := 69) dX8_parse_37 (by decide) ?_ ?_
    · exact x_leafs [0] rfl (hE69 h)
    · refine x_aload_n hO 0 rfl rfl dX8_parse_40 ?_
      refine x_getR hO fl_RX8_12 hx0 dX8_parse_41 ?_
      refine x_ldcS hO sr_RX8_50 dX8_parse_44 ?_
      refine y_PI (x_callV hO lv_RX8_52 (gr_8_0 hx0) vc_7 (by decide) (As := [sf Γ 5]) rfl (Nat.le_of_ble_eq_true rfl) (ok_X7_isWord (cG Γ) h (GR x0 0) 5 (gr_8_0 hx0) ((by decide))) dX8_parse_46 rfl (Nat.le_of_ble_eq_true rfl)) (fun r2 => ?_)
      refine x_if_eq hO (tg := 59) dX8_parse_49 (by decide) ?_ ?_
      · refine x_aload_n hO 0 rfl rfl dX8_parse_59 ?_
        refine y_HV (x_callV hO lv_RX8_59 hx0 vc_8 (by decide) (As := []) rfl (Nat.le_of_ble_eq_true rfl) (ok_X8_readStep (cG Γ) h x0 hx0) dX8_parse_60 rfl (Nat.le_of_ble_eq_true rfl)) (fun r3 => ?_)
        refine x_iinc hO 1 (v := 1) [(3, .int (x3 + (1 : Int32))), (0, rf Γ x0)] dX8_parse_63 rfl (by decide) (by decide) rfl ?_
        refine x_goto hO (tg := 23) dX8_parse_66 (by decide) ?_
        exact x_leafs [1, 0] rfl (hC r3 (x3 + (1 : Int32)))
      · refine x_aload_n hO 0 rfl rfl dX8_parse_52 ?_
        refine y_HV (x_callV hO lv_RX8_56 hx0 vc_8 (by decide) (As := []) rfl (Nat.le_of_ble_eq_true rfl) (ok_X8_readEnd (cG Γ) h x0 hx0) dX8_parse_53 rfl (Nat.le_of_ble_eq_true rfl)) (fun r4 => ?_)
        refine x_goto hO (tg := 63) dX8_parse_56 (by decide) ?_
        refine x_iinc hO 1 (v := 1) [(3, .int (x3 + (1 : Int32))), (0, rf Γ x0)] dX8_parse_63 rfl (by decide) (by decide) rfl ?_
        refine x_goto hO (tg := 23) dX8_parse_66 (by decide) ?_
        exact x_leafs [1, 0] rfl (hC r4 (x3 + (1 : Int32)))
set_option maxHeartbeats 4000000 in
set_option maxRecDepth 100000 in
theorem go_X8_parse_L23 {Γ : Cx} (hO : Ok Γ mX8_parse) (h : Hp) (x0 : Nat) (x3 : Int32) (hx0 : Is x0 8) {K : Hp → Prop} (hE69 : ∀ (h : Hp), K (h) → EW Γ mX8_parse 69 [(0, rf Γ x0)] [] h) : EG Γ mX8_parse 23 [(0, rf Γ x0), (3, .int x3)] [] h (L_X8_parse_23 h x0 x3) K := by
  have q := x_loop (Γ := Γ) (M := mX8_parse) (pc := 23) (B := fun s : Hp × Int32 => B_X8_parse_23 s.1 x0 s.2) (lvf := fun s => [(0, rf Γ x0), (3, .int s.2)]) (hf := fun s => s.1) (Ky := K) (fun s => go_X8_parse_B23 hO s.1 x0 s.2 hx0 (fun _ _ => id) hE69) (h, x3)
  exact q
noncomputable def J_X8_parse_69 (h : Hp) (x0 : Nat) : Option (Hp × Int32) :=
  if (hI h x0 3) ≤ 0 then if (hI h (GR x0 0) 5) = 0 then some ((h, (1 : Int32))) else some ((h, (0 : Int32))) else (F_X7_misplaced h (GR x0 0)).bind (fun r1 => (F_X7_tell h (GR x0 0) r1).bind (fun r2 => if (hI r2.1 (GR x0 0) 5) = 0 then some ((r2.1, (1 : Int32))) else some ((r2.1, (0 : Int32)))))
set_option maxHeartbeats 4000000 in
set_option maxRecDepth 100000 in
theorem go_X8_parse_J69 {Γ : Cx} (hO : Ok Γ mX8_parse) (h : Hp) (x0 : Nat) (hx0 : Is x0 8) {K : Hp × Int32 → Prop} (hR : ∀ r, K r → emHI r = tgt Γ) : EG Γ mX8_parse 69 [(0, rf Γ x0)] [] h (J_X8_parse_69 h x0) K := by
  unfold J_X8_parse_69
  refine x_aload_n hO 0 rfl rfl dX8_parse_69 ?_
  refine x_getI hO fl_RX8_29 hx0 dX8_parse_70 ?_
  refine x_if_le hO (tg := 91) dX8_parse_73 (by decide) ?_ ?_
  · refine x_aload_n hO 0 rfl rfl dX8_parse_91 ?_
    refine x_getR hO fl_RX8_12 hx0 dX8_parse_92 ?_
    refine x_getI hO fl_RX8_70 (gr_8_0 hx0) dX8_parse_95 ?_
    refine x_if_ne hO (tg := 105) dX8_parse_98 (by decide) ?_ ?_
    · refine x_iconst hO (v := 0) (by decide) dX8_parse_105 ?_
      exact x_zretv hO rfl (by decide) dX8_parse_106 (hR _)
    · refine x_iconst hO (v := 1) (by decide) dX8_parse_101 ?_
      refine x_goto hO (tg := 106) dX8_parse_102 (by decide) ?_
      exact x_zretv hO rfl (by decide) dX8_parse_106 (hR _)
  · refine x_aload_n hO 0 rfl rfl dX8_parse_76 ?_
    refine x_getR hO fl_RX8_12 hx0 dX8_parse_77 ?_
    refine x_aload_n hO 0 rfl rfl dX8_parse_80 ?_
    refine x_getR hO fl_RX8_12 hx0 dX8_parse_81 ?_
    refine y_PI (x_callV hO lv_RX8_62 (gr_8_0 hx0) vc_7 (by decide) (As := []) rfl (Nat.le_of_ble_eq_true rfl) (ok_X7_misplaced (cG Γ) h (GR x0 0) (gr_8_0 hx0)) dX8_parse_84 rfl (Nat.le_of_ble_eq_true rfl)) (fun r1 => ?_)
    refine y_HI (x_callV hO lv_RX8_66 (gr_8_0 hx0) vc_7 (by decide) (As := [.int r1]) rfl (Nat.le_of_ble_eq_true rfl) (ok_X7_tell (cG Γ) h (GR x0 0) r1 (gr_8_0 hx0)) dX8_parse_87 rfl (Nat.le_of_ble_eq_true rfl)) (fun r2 => ?_)
    refine x_pop_i hO dX8_parse_90 ?_
    refine x_aload_n hO 0 rfl rfl dX8_parse_91 ?_
    refine x_getR hO fl_RX8_12 hx0 dX8_parse_92 ?_
    refine x_getI hO fl_RX8_70 (gr_8_0 hx0) dX8_parse_95 ?_
    refine x_if_ne hO (tg := 105) dX8_parse_98 (by decide) ?_ ?_
    · refine x_iconst hO (v := 0) (by decide) dX8_parse_105 ?_
      exact x_zretv hO rfl (by decide) dX8_parse_106 (hR _)
    · refine x_iconst hO (v := 1) (by decide) dX8_parse_101 ?_
      refine x_goto hO (tg := 106) dX8_parse_102 (by decide) ?_
      exact x_zretv hO rfl (by decide) dX8_parse_106 (hR _)
noncomputable def F_X8_parse (h : Hp) (x0 : Nat) (x1 : Nat) (x2 : Int32) : Option (Hp × Int32) :=
  (F_X7_begin h (GR x0 0) x1 x2).bind (fun r1 => (F_X9_makeEmpty r1 (GR x0 1)).bind (fun r2 => (L_X8_parse_23 (uI r2 x0 3 ((0 : Int32))) x0 ((0 : Int32))).bind (fun e3 => J_X8_parse_69 e3 x0)))
set_option maxHeartbeats 4000000 in
set_option maxRecDepth 100000 in
theorem go_X8_parse {Γ : Cx} (hO : Ok Γ mX8_parse) (h : Hp) (x0 : Nat) (x1 : Nat) (x2 : Int32) (hx0 : Is x0 8) (hx1 : Is x1 14) {K : Hp × Int32 → Prop} (hR : ∀ r, K r → emHI r = tgt Γ) : EG Γ mX8_parse 0 [(0, rf Γ x0), (1, rf Γ x1), (2, .int x2)] [] h (F_X8_parse h x0 x1 x2) K := by
  unfold F_X8_parse
  refine x_aload_n hO 0 rfl rfl dX8_parse_0 ?_
  refine x_getR hO fl_RX8_12 hx0 dX8_parse_1 ?_
  refine x_aload_n hO 1 rfl rfl dX8_parse_4 ?_
  refine x_iload_n hO 2 rfl rfl dX8_parse_5 ?_
  refine y_HV (x_callV hO lv_RX8_39 (gr_8_0 hx0) vc_7 (by decide) (As := [rf Γ x1, .int x2]) rfl (Nat.le_of_ble_eq_true rfl) (ok_X7_begin (cG Γ) h (GR x0 0) x1 x2 (gr_8_0 hx0) hx1) dX8_parse_6 rfl (Nat.le_of_ble_eq_true rfl)) (fun r1 => ?_)
  refine x_aload_n hO 0 rfl rfl dX8_parse_9 ?_
  refine x_getR hO fl_RX8_21 hx0 dX8_parse_10 ?_
  refine y_HV (x_callV hO lv_RX8_43 (gr_8_1 hx0) vc_9 (by decide) (As := []) rfl (Nat.le_of_ble_eq_true rfl) (ok_X9_makeEmpty (cG Γ) r1 (GR x0 1) (gr_8_1 hx0)) dX8_parse_13 rfl (Nat.le_of_ble_eq_true rfl)) (fun r2 => ?_)
  refine x_aload_n hO 0 rfl rfl dX8_parse_16 ?_
  refine x_iconst hO (v := 0) (by decide) dX8_parse_17 ?_
  refine x_putI hO fl_RX8_29 hx0 dX8_parse_18 ?_
  refine x_iconst hO (v := 0) (by decide) dX8_parse_21 ?_
  refine x_istore_n hO rfl [(3, .int ((0 : Int32))), (0, rf Γ x0), (1, rf Γ x1), (2, .int x2)] dX8_parse_22 (by decide) rfl ?_
  refine x_bind (x_sub [1, 0] rfl (go_X8_parse_L23 hO (uI r2 x0 3 ((0 : Int32))) x0 ((0 : Int32)) hx0 (fun y3_0 hx => ?_)))
  refine x_run (t := (J_X8_parse_69 y3_0 x0 : Option (Hp × Int32))) hx ?_
  exact x_sub [0] rfl (go_X8_parse_J69 hO y3_0 x0 hx0 hR)
theorem ok_X8_parse (G : Gl) (h : Hp) (x0 : Nat) (x1 : Nat) (x2 : Int32) (hx0 : Is x0 8) (hx1 : Is x1 14) : CN G mX8_parse [.ref (gb G + x0), .ref (gb G + x1), .int x2] h ((F_X8_parse h x0 x1 x2).map (emHI)) := CN.fn pn_RX8 (Nat.le_of_ble_eq_true rfl) (fun Γ hG hO => by subst hG; exact go_X8_parse hO h x0 x1 x2 hx0 hx1 (fun _ q => q))
noncomputable def F_X11_book (h : Hp) (x0 : Nat) (x1 : Int32) : Option (Hp × Int32) :=
  if x1 < 0 then (F_X11_refuse h x0 ((1 : Int32))).bind (fun r1 => some ((r1.1, r1.2))) else if x1 ≤ (hI h x0 13) then (F_X1_parse (uI h x0 13 ((0 : Int32))) (GR x0 4) (GR x0 1) x1).bind (fun r2 => (F_X11_keepFault r2.1 x0 (GR (GR x0 4) 0)).bind (fun r3 => if r2.2 = 0 then (F_X11_refuse r3 x0 ((9 : Int32))).bind (fun r6 => some ((r6.1, r6.2))) else (F_X0_copyFrom r3 (GR (GR x0 2) 8) (GR (GR x0 4) 1)).bind (fun r4 => (F_X11_answer r4 x0 (hI r4 (GR (GR x0 2) 8) 1)).bind (fun r5 => some ((r5.1, r5.2)))))) else (F_X11_refuse h x0 ((1 : Int32))).bind (fun r7 => some ((r7.1, r7.2)))
set_option maxHeartbeats 4000000 in
set_option maxRecDepth 100000 in
theorem go_X11_book {Γ : Cx} (hO : Ok Γ mX11_book) (h : Hp) (x0 : Nat) (x1 : Int32) (hx0 : Is x0 11) {K : Hp × Int32 → Prop} (hR : ∀ r, K r → emHI r = tgt Γ) : EG Γ mX11_book 0 [(0, rf Γ x0), (1, .int x1)] [] h (F_X11_book h x0 x1) K := by
  unfold F_X11_book
  refine x_iload_n hO 1 rfl rfl dX11_book_0 ?_
  refine x_if_lt hO (tg := 12) dX11_book_1 (by decide) ?_ ?_
  · refine x_aload_n hO 0 rfl rfl dX11_book_12 ?_
    refine x_iconst hO (v := 1) (by decide) dX11_book_13 ?_
    refine y_HI (x_callV hO lv_RX11_119 hx0 vc_11 (by decide) (As := [.int ((1 : Int32))]) rfl (Nat.le_of_ble_eq_true rfl) (ok_X11_refuse (cG Γ) h x0 ((1 : Int32)) hx0) dX11_book_14 rfl (Nat.le_of_ble_eq_true rfl)) (fun r1 => ?_)
    exact x_iret hO rfl dX11_book_17 (hR _)
  · refine x_iload_n hO 1 rfl rfl dX11_book_4 ?_
    refine x_aload_n hO 0 rfl rfl dX11_book_5 ?_
    refine x_getI hO fl_RX11_83 hx0 dX11_book_6 ?_
    refine x_icmp_le hO (tg := 18) dX11_book_9 (by decide) ?_ ?_
    · refine x_aload_n hO 0 rfl rfl dX11_book_18 ?_
      refine x_iconst hO (v := 0) (by decide) dX11_book_19 ?_
      refine x_putI hO fl_RX11_83 hx0 dX11_book_20 ?_
      refine x_aload_n hO 0 rfl rfl dX11_book_23 ?_
      refine x_getR hO fl_RX11_33 hx0 dX11_book_24 ?_
      refine x_aload_n hO 0 rfl rfl dX11_book_27 ?_
      refine x_getR hO fl_RX11_15 hx0 dX11_book_28 ?_
      refine x_iload_n hO 1 rfl rfl dX11_book_31 ?_
      refine y_HI (x_callV hO lv_RX11_195 (gr_11_4 hx0) vc_1 (by decide) (As := [rf Γ (GR x0 1), .int x1]) rfl (Nat.le_of_ble_eq_true rfl) (ok_X1_parse (cG Γ) (uI h x0 13 ((0 : Int32))) (GR x0 4) (GR x0 1) x1 (gr_11_4 hx0) (gr_11_1 hx0)) dX11_book_32 rfl (Nat.le_of_ble_eq_true rfl)) (fun r2 => ?_)
      refine x_istore_n hO rfl [(2, .int r2.2), (0, rf Γ x0), (1, .int x1)] dX11_book_35 (by decide) rfl ?_
      refine x_aload_n hO 1 rfl rfl dX11_book_36 ?_
      refine x_aload_n hO 1 rfl rfl dX11_book_37 ?_
      refine x_getR hO fl_RX11_33 hx0 dX11_book_38 ?_
      refine x_getR hO fl_RX11_199 (gr_11_4 hx0) dX11_book_41 ?_
      refine y_HV (x_callV hO lv_RX11_203 hx0 vc_11 (by decide) (As := [rf Γ (GR (GR x0 4) 0)]) rfl (Nat.le_of_ble_eq_true rfl) (ok_X11_keepFault (cG Γ) r2.1 x0 (GR (GR x0 4) 0) hx0 (gr_1_0 (gr_11_4 hx0))) dX11_book_44 rfl (Nat.le_of_ble_eq_true rfl)) (fun r3 => ?_)
      refine x_iload_n hO 0 rfl rfl dX11_book_47 ?_
      refine x_if_ne hO (tg := 58) dX11_book_48 (by decide) ?_ ?_
      · refine x_aload_n hO 1 rfl rfl dX11_book_58 ?_
        refine x_getR hO fl_RX11_22 hx0 dX11_book_59 ?_
        refine x_getR hO fl_RX11_207 (gr_11_2 hx0) dX11_book_62 ?_
        refine x_aload_n hO 1 rfl rfl dX11_book_65 ?_
        refine x_getR hO fl_RX11_33 hx0 dX11_book_66 ?_
        refine x_getR hO fl_RX11_211 (gr_11_4 hx0) dX11_book_69 ?_
        refine y_HV (x_callV hO lv_RX11_212 (gr_2_8 (gr_11_2 hx0)) vc_0 (by decide) (As := [rf Γ (GR (GR x0 4) 1)]) rfl (Nat.le_of_ble_eq_true rfl) (ok_X0_copyFrom (cG Γ) r3 (GR (GR x0 2) 8) (GR (GR x0 4) 1) (gr_2_8 (gr_11_2 hx0)) (gr_1_1 (gr_11_4 hx0))) dX11_book_72 rfl (Nat.le_of_ble_eq_true rfl)) (fun r4 => ?_)
        refine x_aload_n hO 1 rfl rfl dX11_book_75 ?_
        refine x_aload_n hO 1 rfl rfl dX11_book_76 ?_
        refine x_getR hO fl_RX11_22 hx0 dX11_book_77 ?_
        refine x_getR hO fl_RX11_207 (gr_11_2 hx0) dX11_book_80 ?_
        refine x_getI hO fl_RX11_218 (gr_2_8 (gr_11_2 hx0)) dX11_book_83 ?_
        refine y_HI (x_callV hO lv_RX11_157 hx0 vc_11 (by decide) (As := [.int (hI r4 (GR (GR x0 2) 8) 1)]) rfl (Nat.le_of_ble_eq_true rfl) (ok_X11_answer (cG Γ) r4 x0 (hI r4 (GR (GR x0 2) 8) 1) hx0) dX11_book_86 rfl (Nat.le_of_ble_eq_true rfl)) (fun r5 => ?_)
        exact x_iret hO rfl dX11_book_89 (hR _)
      · refine x_aload_n hO 1 rfl rfl dX11_book_51 ?_
        refine x_bipush hO (v := 9) (by decide) dX11_book_52 ?_
        refine y_HI (x_callV hO lv_RX11_119 hx0 vc_11 (by decide) (As := [.int ((9 : Int32))]) rfl (Nat.le_of_ble_eq_true rfl) (ok_X11_refuse (cG Γ) r3 x0 ((9 : Int32)) hx0) dX11_book_54 rfl (Nat.le_of_ble_eq_true rfl)) (fun r6 => ?_)
        exact x_iret hO rfl dX11_book_57 (hR _)
    · refine x_aload_n hO 0 rfl rfl dX11_book_12 ?_
      refine x_iconst hO (v := 1) (by decide) dX11_book_13 ?_
      refine y_HI (x_callV hO lv_RX11_119 hx0 vc_11 (by decide) (As := [.int ((1 : Int32))]) rfl (Nat.le_of_ble_eq_true rfl) (ok_X11_refuse (cG Γ) h x0 ((1 : Int32)) hx0) dX11_book_14 rfl (Nat.le_of_ble_eq_true rfl)) (fun r7 => ?_)
      exact x_iret hO rfl dX11_book_17 (hR _)
theorem ok_X11_book (G : Gl) (h : Hp) (x0 : Nat) (x1 : Int32) (hx0 : Is x0 11) : CN G mX11_book [.ref (gb G + x0), .int x1] h ((F_X11_book h x0 x1).map (emHI)) := CN.fn pn_RX11 (Nat.le_of_ble_eq_true rfl) (fun Γ hG hO => by subst hG; exact go_X11_book hO h x0 x1 hx0 (fun _ q => q))
noncomputable def F_X11_program (h : Hp) (x0 : Nat) (x1 : Int32) : Option (Hp × Int32) :=
  if x1 < 0 then (F_X11_refuse h x0 ((1 : Int32))).bind (fun r1 => some ((r1.1, r1.2))) else if (hI h x0 13) < x1 then (F_X11_refuse h x0 ((1 : Int32))).bind (fun r2 => some ((r2.1, r2.2))) else if x1 ≤ ((300 : Int32)) then (F_X8_parse (uI h x0 13 ((0 : Int32))) (GR x0 5) (GR x0 1) x1).bind (fun r3 => (F_X11_keepFault r3.1 x0 (GR (GR x0 5) 0)).bind (fun r4 => if r3.2 = 0 then (F_X11_refuse r4 x0 ((9 : Int32))).bind (fun r7 => some ((r7.1, r7.2))) else (F_X9_copyFrom r4 (GR (GR x0 2) 9) (GR (GR x0 5) 1)).bind (fun r5 => (F_X11_answer r5 x0 (hI r5 (GR (GR x0 2) 9) 0)).bind (fun r6 => some ((r6.1, r6.2)))))) else (F_X11_refuse h x0 ((1 : Int32))).bind (fun r8 => some ((r8.1, r8.2)))
set_option maxHeartbeats 4000000 in
set_option maxRecDepth 100000 in
theorem go_X11_program {Γ : Cx} (hO : Ok Γ mX11_program) (h : Hp) (x0 : Nat) (x1 : Int32) (hx0 : Is x0 11) {K : Hp × Int32 → Prop} (hR : ∀ r, K r → emHI r = tgt Γ) : EG Γ mX11_program 0 [(0, rf Γ x0), (1, .int x1)] [] h (F_X11_program h x0 x1) K := by
  unfold F_X11_program
  refine x_iload_n hO 1 rfl rfl dX11_program_0 ?_
  refine x_if_lt hO (tg := 19) dX11_program_1 (by decide) ?_ ?_
  · refine x_aload_n hO 0 rfl rfl dX11_program_19 ?_
    refine x_iconst hO (v := 1) (by decide) dX11_program_20 ?_
    refine y_HI (x_callV hO lv_RX11_119 hx0 vc_11 (by decide) (As := [.int ((1 : Int32))]) rfl (Nat.le_of_ble_eq_true rfl) (ok_X11_refuse (cG Γ) h x0 ((1 : Int32)) hx0) dX11_program_21 rfl (Nat.le_of_ble_eq_true rfl)) (fun r1 => ?_)
    exact x_iret hO rfl dX11_program_24 (hR _)
  · refine x_iload_n hO 1 rfl rfl dX11_program_4 ?_
    refine x_aload_n hO 0 rfl rfl dX11_program_5 ?_
    refine x_getI hO fl_RX11_83 hx0 dX11_program_6 ?_
    refine x_icmp_gt hO (tg := 19) dX11_program_9 (by decide) ?_ ?_
    · refine x_aload_n hO 0 rfl rfl dX11_program_19 ?_
      refine x_iconst hO (v := 1) (by decide) dX11_program_20 ?_
      refine y_HI (x_callV hO lv_RX11_119 hx0 vc_11 (by decide) (As := [.int ((1 : Int32))]) rfl (Nat.le_of_ble_eq_true rfl) (ok_X11_refuse (cG Γ) h x0 ((1 : Int32)) hx0) dX11_program_21 rfl (Nat.le_of_ble_eq_true rfl)) (fun r2 => ?_)
      exact x_iret hO rfl dX11_program_24 (hR _)
    · refine x_iload_n hO 1 rfl rfl dX11_program_12 ?_
      refine x_sipush hO (v := 300) (by decide) dX11_program_13 ?_
      refine x_icmp_le hO (tg := 25) dX11_program_16 (by decide) ?_ ?_
      · refine x_aload_n hO 0 rfl rfl dX11_program_25 ?_
        refine x_iconst hO (v := 0) (by decide) dX11_program_26 ?_
        refine x_putI hO fl_RX11_83 hx0 dX11_program_27 ?_
        refine x_aload_n hO 0 rfl rfl dX11_program_30 ?_
        refine x_getR hO fl_RX11_40 hx0 dX11_program_31 ?_
        refine x_aload_n hO 0 rfl rfl dX11_program_34 ?_
        refine x_getR hO fl_RX11_15 hx0 dX11_program_35 ?_
        refine x_iload_n hO 1 rfl rfl dX11_program_38 ?_
        refine y_HI (x_callV hO lv_RX11_310 (gr_11_5 hx0) vc_8 (by decide) (As := [rf Γ (GR x0 1), .int x1]) rfl (Nat.le_of_ble_eq_true rfl) (ok_X8_parse (cG Γ) (uI h x0 13 ((0 : Int32))) (GR x0 5) (GR x0 1) x1 (gr_11_5 hx0) (gr_11_1 hx0)) dX11_program_39 rfl (Nat.le_of_ble_eq_true rfl)) (fun r3 => ?_)
        refine x_istore_n hO rfl [(2, .int r3.2), (0, rf Γ x0), (1, .int x1)] dX11_program_42 (by decide) rfl ?_
        refine x_aload_n hO 1 rfl rfl dX11_program_43 ?_
        refine x_aload_n hO 1 rfl rfl dX11_program_44 ?_
        refine x_getR hO fl_RX11_40 hx0 dX11_program_45 ?_
        refine x_getR hO fl_RX11_311 (gr_11_5 hx0) dX11_program_48 ?_
        refine y_HV (x_callV hO lv_RX11_203 hx0 vc_11 (by decide) (As := [rf Γ (GR (GR x0 5) 0)]) rfl (Nat.le_of_ble_eq_true rfl) (ok_X11_keepFault (cG Γ) r3.1 x0 (GR (GR x0 5) 0) hx0 (gr_8_0 (gr_11_5 hx0))) dX11_program_51 rfl (Nat.le_of_ble_eq_true rfl)) (fun r4 => ?_)
        refine x_iload_n hO 0 rfl rfl dX11_program_54 ?_
        refine x_if_ne hO (tg := 65) dX11_program_55 (by decide) ?_ ?_
        · refine x_aload_n hO 1 rfl rfl dX11_program_65 ?_
          refine x_getR hO fl_RX11_22 hx0 dX11_program_66 ?_
          refine x_getR hO fl_RX11_312 (gr_11_2 hx0) dX11_program_69 ?_
          refine x_aload_n hO 1 rfl rfl dX11_program_72 ?_
          refine x_getR hO fl_RX11_40 hx0 dX11_program_73 ?_
          refine x_getR hO fl_RX11_316 (gr_11_5 hx0) dX11_program_76 ?_
          refine y_HV (x_callV hO lv_RX11_317 (gr_2_9 (gr_11_2 hx0)) vc_9 (by decide) (As := [rf Γ (GR (GR x0 5) 1)]) rfl (Nat.le_of_ble_eq_true rfl) (ok_X9_copyFrom (cG Γ) r4 (GR (GR x0 2) 9) (GR (GR x0 5) 1) (gr_2_9 (gr_11_2 hx0)) (gr_8_1 (gr_11_5 hx0))) dX11_program_79 rfl (Nat.le_of_ble_eq_true rfl)) (fun r5 => ?_)
          refine x_aload_n hO 1 rfl rfl dX11_program_82 ?_
          refine x_aload_n hO 1 rfl rfl dX11_program_83 ?_
          refine x_getR hO fl_RX11_22 hx0 dX11_program_84 ?_
          refine x_getR hO fl_RX11_312 (gr_11_2 hx0) dX11_program_87 ?_
          refine x_getI hO fl_RX11_322 (gr_2_9 (gr_11_2 hx0)) dX11_program_90 ?_
          refine y_HI (x_callV hO lv_RX11_157 hx0 vc_11 (by decide) (As := [.int (hI r5 (GR (GR x0 2) 9) 0)]) rfl (Nat.le_of_ble_eq_true rfl) (ok_X11_answer (cG Γ) r5 x0 (hI r5 (GR (GR x0 2) 9) 0) hx0) dX11_program_93 rfl (Nat.le_of_ble_eq_true rfl)) (fun r6 => ?_)
          exact x_iret hO rfl dX11_program_96 (hR _)
        · refine x_aload_n hO 1 rfl rfl dX11_program_58 ?_
          refine x_bipush hO (v := 9) (by decide) dX11_program_59 ?_
          refine y_HI (x_callV hO lv_RX11_119 hx0 vc_11 (by decide) (As := [.int ((9 : Int32))]) rfl (Nat.le_of_ble_eq_true rfl) (ok_X11_refuse (cG Γ) r4 x0 ((9 : Int32)) hx0) dX11_program_61 rfl (Nat.le_of_ble_eq_true rfl)) (fun r7 => ?_)
          exact x_iret hO rfl dX11_program_64 (hR _)
      · refine x_aload_n hO 0 rfl rfl dX11_program_19 ?_
        refine x_iconst hO (v := 1) (by decide) dX11_program_20 ?_
        refine y_HI (x_callV hO lv_RX11_119 hx0 vc_11 (by decide) (As := [.int ((1 : Int32))]) rfl (Nat.le_of_ble_eq_true rfl) (ok_X11_refuse (cG Γ) h x0 ((1 : Int32)) hx0) dX11_program_21 rfl (Nat.le_of_ble_eq_true rfl)) (fun r8 => ?_)
        exact x_iret hO rfl dX11_program_24 (hR _)
theorem ok_X11_program (G : Gl) (h : Hp) (x0 : Nat) (x1 : Int32) (hx0 : Is x0 11) : CN G mX11_program [.ref (gb G + x0), .int x1] h ((F_X11_program h x0 x1).map (emHI)) := CN.fn pn_RX11 (Nat.le_of_ble_eq_true rfl) (fun Γ hG hO => by subst hG; exact go_X11_program hO h x0 x1 hx0 (fun _ q => q))
