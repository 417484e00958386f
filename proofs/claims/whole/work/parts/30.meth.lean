noncomputable def F_J6_bitCount_0f7a4 (h : Hp) (x0 : Int32) : Option (Int32) :=
  bnd (x0 - (((x0.toUInt32 >>> (((1 : Int32)).toUInt32 &&& Int32.toUInt32 31)).toInt32) &&& ((1431655765 : Int32)))) (fun v1 => bnd ((v1 &&& ((858993459 : Int32))) + (((v1.toUInt32 >>> (((2 : Int32)).toUInt32 &&& Int32.toUInt32 31)).toInt32) &&& ((858993459 : Int32)))) (fun v2 => bnd ((v2 + ((v2.toUInt32 >>> (((4 : Int32)).toUInt32 &&& Int32.toUInt32 31)).toInt32)) &&& ((252645135 : Int32))) (fun v3 => bnd (v3 + ((v3.toUInt32 >>> (((8 : Int32)).toUInt32 &&& Int32.toUInt32 31)).toInt32)) (fun v4 => bnd (v4 + ((v4.toUInt32 >>> (((16 : Int32)).toUInt32 &&& Int32.toUInt32 31)).toInt32)) (fun v5 => some (v5 &&& ((63 : Int32))))))))
set_option maxHeartbeats 4000000 in
set_option maxRecDepth 100000 in
theorem go_J6_bitCount_0f7a4 {Γ : Cx} (hO : Ok Γ mJ6_bitCount_0f7a4) (h : Hp) (x0 : Int32) {K : Int32 → Prop} (hR : ∀ r, K r → emPI h r = tgt Γ) : EG Γ mJ6_bitCount_0f7a4 0 [(0, .int x0)] [] h (F_J6_bitCount_0f7a4 h x0) K := by
  unfold F_J6_bitCount_0f7a4
  refine x_iload_n hO 0 rfl rfl dJ6_bitCount_0f7a4_0 ?_
  refine x_iload_n hO 0 rfl rfl dJ6_bitCount_0f7a4_1 ?_
  refine x_iconst hO (v := 1) (by decide) dJ6_bitCount_0f7a4_2 ?_
  refine x_iushr hO dJ6_bitCount_0f7a4_3 ?_
  refine x_ldcw hO cn_RJ6_265 dJ6_bitCount_0f7a4_4 ?_
  refine x_iand hO dJ6_bitCount_0f7a4_7 ?_
  refine x_isub hO dJ6_bitCount_0f7a4_8 ?_
  refine x_bnd ?_
  generalize x0 - (((x0.toUInt32 >>> (((1 : Int32)).toUInt32 &&& Int32.toUInt32 31)).toInt32) &&& ((1431655765 : Int32))) = v1
  refine x_istore_n hO rfl [(0, .int v1)] dJ6_bitCount_0f7a4_9 (by decide) rfl ?_
  refine x_iload_n hO 0 rfl rfl dJ6_bitCount_0f7a4_10 ?_
  refine x_ldcw hO cn_RJ6_266 dJ6_bitCount_0f7a4_11 ?_
  refine x_iand hO dJ6_bitCount_0f7a4_14 ?_
  refine x_iload_n hO 0 rfl rfl dJ6_bitCount_0f7a4_15 ?_
  refine x_iconst hO (v := 2) (by decide) dJ6_bitCount_0f7a4_16 ?_
  refine x_iushr hO dJ6_bitCount_0f7a4_17 ?_
  refine x_ldcw hO cn_RJ6_266 dJ6_bitCount_0f7a4_18 ?_
  refine x_iand hO dJ6_bitCount_0f7a4_21 ?_
  refine x_iadd hO dJ6_bitCount_0f7a4_22 ?_
  refine x_bnd ?_
  generalize (v1 &&& ((858993459 : Int32))) + (((v1.toUInt32 >>> (((2 : Int32)).toUInt32 &&& Int32.toUInt32 31)).toInt32) &&& ((858993459 : Int32))) = v2
  refine x_istore_n hO rfl [(0, .int v2)] dJ6_bitCount_0f7a4_23 (by decide) rfl ?_
  refine x_iload_n hO 0 rfl rfl dJ6_bitCount_0f7a4_24 ?_
  refine x_iload_n hO 0 rfl rfl dJ6_bitCount_0f7a4_25 ?_
  refine x_iconst hO (v := 4) (by decide) dJ6_bitCount_0f7a4_26 ?_
  refine x_iushr hO dJ6_bitCount_0f7a4_27 ?_
  refine x_iadd hO dJ6_bitCount_0f7a4_28 ?_
  refine x_ldcw hO cn_RJ6_267 dJ6_bitCount_0f7a4_29 ?_
  refine x_iand hO dJ6_bitCount_0f7a4_32 ?_
  refine x_bnd ?_
  generalize (v2 + ((v2.toUInt32 >>> (((4 : Int32)).toUInt32 &&& Int32.toUInt32 31)).toInt32)) &&& ((252645135 : Int32)) = v3
  refine x_istore_n hO rfl [(0, .int v3)] dJ6_bitCount_0f7a4_33 (by decide) rfl ?_
  refine x_iload_n hO 0 rfl rfl dJ6_bitCount_0f7a4_34 ?_
  refine x_iload_n hO 0 rfl rfl dJ6_bitCount_0f7a4_35 ?_
  refine x_bipush hO (v := 8) (by decide) dJ6_bitCount_0f7a4_36 ?_
  refine x_iushr hO dJ6_bitCount_0f7a4_38 ?_
  refine x_iadd hO dJ6_bitCount_0f7a4_39 ?_
  refine x_bnd ?_
  generalize v3 + ((v3.toUInt32 >>> (((8 : Int32)).toUInt32 &&& Int32.toUInt32 31)).toInt32) = v4
  refine x_istore_n hO rfl [(0, .int v4)] dJ6_bitCount_0f7a4_40 (by decide) rfl ?_
  refine x_iload_n hO 0 rfl rfl dJ6_bitCount_0f7a4_41 ?_
  refine x_iload_n hO 0 rfl rfl dJ6_bitCount_0f7a4_42 ?_
  refine x_bipush hO (v := 16) (by decide) dJ6_bitCount_0f7a4_43 ?_
  refine x_iushr hO dJ6_bitCount_0f7a4_45 ?_
  refine x_iadd hO dJ6_bitCount_0f7a4_46 ?_
  refine x_bnd ?_
  generalize v4 + ((v4.toUInt32 >>> (((16 : Int32)).toUInt32 &&& Int32.toUInt32 31)).toInt32) = v5
  refine x_istore_n hO rfl [(0, .int v5)] dJ6_bitCount_0f7a4_47 (by decide) rfl ?_
  refine x_iload_n hO 0 rfl rfl dJ6_bitCount_0f7a4_48 ?_
  refine x_bipush hO (v := 63) (by decide) dJ6_bitCount_0f7a4_49 ?_
  refine x_iand hO dJ6_bitCount_0f7a4_51 ?_
  exact x_iret hO rfl dJ6_bitCount_0f7a4_52 (hR _)
theorem ok_J6_bitCount_0f7a4 (G : Gl) (h : Hp) (x0 : Int32) : CN G mJ6_bitCount_0f7a4 [.int x0] h ((F_J6_bitCount_0f7a4 h x0).map (emPI h)) := CN.fn pn_RJ6 (Nat.le_of_ble_eq_true rfl) (fun Γ hG hO => by subst hG; exact go_J6_bitCount_0f7a4 hO h x0 (fun _ q => q))
noncomputable def B_J7_fill_53178_5 (h : Hp) (x0 : Nat) (x1 : Int32) (x3 : Int32) (x2 : Int32) : Option ((Hp × Int32) ⊕ (Hp)) :=
  if x3 ≤ x2 then some (.inr h) else gd (ib x2 (LEN x0)) (some (.inl (uI h x0 (nx x2) x1, x2 + (1 : Int32))))
noncomputable def L_J7_fill_53178_5 (h : Hp) (x0 : Nat) (x1 : Int32) (x3 : Int32) (x2 : Int32) : Option (Hp) := iterW (fun s : Hp × Int32 => B_J7_fill_53178_5 s.1 x0 x1 x3 s.2) (h, x2)
set_option maxHeartbeats 4000000 in
set_option maxRecDepth 100000 in
theorem go_J7_fill_53178_B5 {Γ : Cx} (hO : Ok Γ mJ7_fill_53178) (h : Hp) (x0 : Nat) (x1 : Int32) (x3 : Int32) (x2 : Int32) (hx0 : Is x0 14) {K : (Hp × Int32) ⊕ (Hp) → Prop} (hC : ∀ (h : Hp) (x2 : Int32), K (.inl (h, x2)) → EW Γ mJ7_fill_53178 5 [(0, rf Γ x0), (1, .int x1), (2, .int x2), (3, .int x3)] [] h) (hR : ∀ r, K (.inr r) → emHV r = tgt Γ) : EG Γ mJ7_fill_53178 5 [(0, rf Γ x0), (1, .int x1), (2, .int x2), (3, .int x3)] [] h (B_J7_fill_53178_5 h x0 x1 x3 x2) K := by
  unfold B_J7_fill_53178_5
  refine x_iload_n hO 2 rfl rfl dJ7_fill_53178_5 ?_
  refine x_iload_n hO 3 rfl rfl dJ7_fill_53178_6 ?_
  refine x_icmp_ge hO (tg := 20) dJ7_fill_53178_7 (by decide) ?_ ?_
  · exact x_vret hO rfl dJ7_fill_53178_20 (hR _)
  · refine x_aload_n hO 0 rfl rfl dJ7_fill_53178_10 ?_
    refine x_iload_n hO 2 rfl rfl dJ7_fill_53178_11 ?_
    refine x_iload_n hO 1 rfl rfl dJ7_fill_53178_12 ?_
    refine x_iast hO hx0 dJ7_fill_53178_13 ?_
    refine x_iinc hO 2 (v := 1) [(2, .int (x2 + (1 : Int32))), (0, rf Γ x0), (1, .int x1), (3, .int x3)] dJ7_fill_53178_14 rfl (by decide) (by decide) rfl ?_
    refine x_goto hO (tg := 5) dJ7_fill_53178_17 (by decide) ?_
    exact x_leafs [1, 2, 0, 3] rfl (hC (uI h x0 (nx x2) x1) (x2 + (1 : Int32)))
set_option maxHeartbeats 4000000 in
set_option maxRecDepth 100000 in
theorem go_J7_fill_53178_L5 {Γ : Cx} (hO : Ok Γ mJ7_fill_53178) (h : Hp) (x0 : Nat) (x1 : Int32) (x3 : Int32) (x2 : Int32) (hx0 : Is x0 14) {K : Hp → Prop} (hR : ∀ r, K (r) → emHV r = tgt Γ) : EG Γ mJ7_fill_53178 5 [(0, rf Γ x0), (1, .int x1), (2, .int x2), (3, .int x3)] [] h (L_J7_fill_53178_5 h x0 x1 x3 x2) K := by
  have q := x_loop (Γ := Γ) (M := mJ7_fill_53178) (pc := 5) (B := fun s : Hp × Int32 => B_J7_fill_53178_5 s.1 x0 x1 x3 s.2) (lvf := fun s => [(0, rf Γ x0), (1, .int x1), (2, .int s.2), (3, .int x3)]) (hf := fun s => s.1) (Ky := K) (fun s => go_J7_fill_53178_B5 hO s.1 x0 x1 x3 s.2 hx0 (fun _ _ => id) hR) (h, x2)
  exact q
noncomputable def F_J7_fill_53178 (h : Hp) (x0 : Nat) (x1 : Int32) : Option (Hp) :=
  L_J7_fill_53178_5 h x0 x1 (nI (LEN x0)) ((0 : Int32))
set_option maxHeartbeats 4000000 in
set_option maxRecDepth 100000 in
theorem go_J7_fill_53178 {Γ : Cx} (hO : Ok Γ mJ7_fill_53178) (h : Hp) (x0 : Nat) (x1 : Int32) (hx0 : Is x0 14) {K : Hp → Prop} (hR : ∀ r, K r → emHV r = tgt Γ) : EG Γ mJ7_fill_53178 0 [(0, rf Γ x0), (1, .int x1)] [] h (F_J7_fill_53178 h x0 x1) K := by
  unfold F_J7_fill_53178
  refine x_iconst hO (v := 0) (by decide) dJ7_fill_53178_0 ?_
  refine x_istore_n hO rfl [(2, .int ((0 : Int32))), (0, rf Γ x0), (1, .int x1)] dJ7_fill_53178_1 (by decide) rfl ?_
  refine x_aload_n hO 1 rfl rfl dJ7_fill_53178_2 ?_
  refine x_alenI hO hx0 dJ7_fill_53178_3 ?_
  refine x_istore_n hO rfl [(3, .int (nI (LEN x0))), (2, .int ((0 : Int32))), (0, rf Γ x0), (1, .int x1)] dJ7_fill_53178_4 (by decide) rfl ?_
  exact x_sub [2, 3, 1, 0] rfl (go_J7_fill_53178_L5 hO h x0 x1 (nI (LEN x0)) ((0 : Int32)) hx0 hR)
theorem ok_J7_fill_53178 (G : Gl) (h : Hp) (x0 : Nat) (x1 : Int32) (hx0 : Is x0 14) : CN G mJ7_fill_53178 [.ref (gb G + x0), .int x1] h ((F_J7_fill_53178 h x0 x1).map (emHV)) := CN.fn pn_RJ7 (Nat.le_of_ble_eq_true rfl) (fun Γ hG hO => by subst hG; exact go_J7_fill_53178 hO h x0 x1 hx0 (fun _ q => q))
noncomputable def B_J7_fill_d0a16_6 (h : Hp) (x0 : Nat) (x1 : Int64) (x4 : Int32) (x3 : Int32) : Option ((Hp × Int32) ⊕ (Hp)) :=
  if x4 ≤ x3 then some (.inr h) else gd (ib x3 (LEN x0)) (some (.inl (uL h x0 (nx x3) x1, x3 + (1 : Int32))))
noncomputable def L_J7_fill_d0a16_6 (h : Hp) (x0 : Nat) (x1 : Int64) (x4 : Int32) (x3 : Int32) : Option (Hp) := iterW (fun s : Hp × Int32 => B_J7_fill_d0a16_6 s.1 x0 x1 x4 s.2) (h, x3)
set_option maxHeartbeats 4000000 in
set_option maxRecDepth 100000 in
theorem go_J7_fill_d0a16_B6 {Γ : Cx} (hO : Ok Γ mJ7_fill_d0a16) (h : Hp) (x0 : Nat) (x1 : Int64) (x4 : Int32) (x3 : Int32) (hx0 : Is x0 15) {K : (Hp × Int32) ⊕ (Hp) → Prop} (hC : ∀ (h : Hp) (x3 : Int32), K (.inl (h, x3)) → EW Γ mJ7_fill_d0a16 6 [(0, rf Γ x0), (1, .long x1), (3, .int x3), (4, .int x4)] [] h) (hR : ∀ r, K (.inr r) → emHV r = tgt Γ) : EG Γ mJ7_fill_d0a16 6 [(0, rf Γ x0), (1, .long x1), (3, .int x3), (4, .int x4)] [] h (B_J7_fill_d0a16_6 h x0 x1 x4 x3) K := by
  unfold B_J7_fill_d0a16_6
  refine x_iload_n hO 2 rfl rfl dJ7_fill_d0a16_6 ?_
  refine x_iload hO 3 rfl dJ7_fill_d0a16_7 ?_
  refine x_icmp_ge hO (tg := 22) dJ7_fill_d0a16_9 (by decide) ?_ ?_
  · exact x_vret hO rfl dJ7_fill_d0a16_22 (hR _)
  · refine x_aload_n hO 0 rfl rfl dJ7_fill_d0a16_12 ?_
    refine x_iload_n hO 2 rfl rfl dJ7_fill_d0a16_13 ?_
    refine x_lload_n hO 1 rfl rfl dJ7_fill_d0a16_14 ?_
    refine x_last hO hx0 dJ7_fill_d0a16_15 ?_
    refine x_iinc hO 2 (v := 1) [(3, .int (x3 + (1 : Int32))), (0, rf Γ x0), (1, .long x1), (4, .int x4)] dJ7_fill_d0a16_16 rfl (by decide) (by decide) rfl ?_
    refine x_goto hO (tg := 6) dJ7_fill_d0a16_19 (by decide) ?_
    exact x_leafs [1, 2, 0, 3] rfl (hC (uL h x0 (nx x3) x1) (x3 + (1 : Int32)))
set_option maxHeartbeats 4000000 in
set_option maxRecDepth 100000 in
theorem go_J7_fill_d0a16_L6 {Γ : Cx} (hO : Ok Γ mJ7_fill_d0a16) (h : Hp) (x0 : Nat) (x1 : Int64) (x4 : Int32) (x3 : Int32) (hx0 : Is x0 15) {K : Hp → Prop} (hR : ∀ r, K (r) → emHV r = tgt Γ) : EG Γ mJ7_fill_d0a16 6 [(0, rf Γ x0), (1, .long x1), (3, .int x3), (4, .int x4)] [] h (L_J7_fill_d0a16_6 h x0 x1 x4 x3) K := by
  have q := x_loop (Γ := Γ) (M := mJ7_fill_d0a16) (pc := 6) (B := fun s : Hp × Int32 => B_J7_fill_d0a16_6 s.1 x0 x1 x4 s.2) (lvf := fun s => [(0, rf Γ x0), (1, .long x1), (3, .int s.2), (4, .int x4)]) (hf := fun s => s.1) (Ky := K) (fun s => go_J7_fill_d0a16_B6 hO s.1 x0 x1 x4 s.2 hx0 (fun _ _ => id) hR) (h, x3)
  exact q
noncomputable def F_J7_fill_d0a16 (h : Hp) (x0 : Nat) (x1 : Int64) : Option (Hp) :=
  L_J7_fill_d0a16_6 h x0 x1 (nI (LEN x0)) ((0 : Int32))
set_option maxHeartbeats 4000000 in
set_option maxRecDepth 100000 in
theorem go_J7_fill_d0a16 {Γ : Cx} (hO : Ok Γ mJ7_fill_d0a16) (h : Hp) (x0 : Nat) (x1 : Int64) (hx0 : Is x0 15) {K : Hp → Prop} (hR : ∀ r, K r → emHV r = tgt Γ) : EG Γ mJ7_fill_d0a16 0 [(0, rf Γ x0), (1, .long x1)] [] h (F_J7_fill_d0a16 h x0 x1) K := by
  unfold F_J7_fill_d0a16
  refine x_iconst hO (v := 0) (by decide) dJ7_fill_d0a16_0 ?_
  refine x_istore_n hO rfl [(3, .int ((0 : Int32))), (0, rf Γ x0), (1, .long x1)] dJ7_fill_d0a16_1 (by decide) rfl ?_
  refine x_aload_n hO 1 rfl rfl dJ7_fill_d0a16_2 ?_
  refine x_alenL hO hx0 dJ7_fill_d0a16_3 ?_
  refine x_istore hO [(4, .int (nI (LEN x0))), (3, .int ((0 : Int32))), (0, rf Γ x0), (1, .long x1)] dJ7_fill_d0a16_4 (by decide) rfl ?_
  exact x_sub [2, 3, 1, 0] rfl (go_J7_fill_d0a16_L6 hO h x0 x1 (nI (LEN x0)) ((0 : Int32)) hx0 hR)
theorem ok_J7_fill_d0a16 (G : Gl) (h : Hp) (x0 : Nat) (x1 : Int64) (hx0 : Is x0 15) : CN G mJ7_fill_d0a16 [.ref (gb G + x0), .long x1] h ((F_J7_fill_d0a16 h x0 x1).map (emHV)) := CN.fn pn_RJ7 (Nat.le_of_ble_eq_true rfl) (fun Γ hG hO => by subst hG; exact go_J7_fill_d0a16 hO h x0 x1 hx0 (fun _ q => q))
noncomputable def F_J7_rangeCheck_23922 (h : Hp) (x0 : Int32) (x1 : Int32) (x2 : Int32) : Option (Unit) :=
  if x1 ≤ x2 then if 0 ≤ x1 then if x2 ≤ x0 then some (()) else none else none else none
set_option maxHeartbeats 4000000 in
set_option maxRecDepth 100000 in
theorem go_J7_rangeCheck_23922 {Γ : Cx} (hO : Ok Γ mJ7_rangeCheck_23922) (h : Hp) (x0 : Int32) (x1 : Int32) (x2 : Int32) {K : Unit → Prop} (hR : ∀ r, K r → emPV h r = tgt Γ) : EG Γ mJ7_rangeCheck_23922 0 [(0, .int x0), (1, .int x1), (2, .int x2)] [] h (F_J7_rangeCheck_23922 h x0 x1 x2) K := by
  unfold F_J7_rangeCheck_23922
  refine x_iload_n hO 1 rfl rfl dJ7_rangeCheck_23922_0 ?_
  refine x_iload_n hO 2 rfl rfl dJ7_rangeCheck_23922_1 ?_
  refine x_icmp_le hO (tg := 46) dJ7_rangeCheck_23922_2 (by decide) ?_ ?_
  · refine x_iload_n hO 1 rfl rfl dJ7_rangeCheck_23922_46 ?_
    refine x_if_ge hO (tg := 59) dJ7_rangeCheck_23922_47 (by decide) ?_ ?_
    · refine x_iload_n hO 2 rfl rfl dJ7_rangeCheck_23922_59 ?_
      refine x_iload_n hO 0 rfl rfl dJ7_rangeCheck_23922_60 ?_
      refine x_icmp_le hO (tg := 73) dJ7_rangeCheck_23922_61 (by decide) ?_ ?_
      · exact x_vret hO rfl dJ7_rangeCheck_23922_73 (hR _)
      · exact x_none
    · exact x_none
  · exact x_none
theorem ok_J7_rangeCheck_23922 (G : Gl) (h : Hp) (x0 : Int32) (x1 : Int32) (x2 : Int32) : CN G mJ7_rangeCheck_23922 [.int x0, .int x1, .int x2] h ((F_J7_rangeCheck_23922 h x0 x1 x2).map (emPV h)) := CN.fn pn_RJ7 (Nat.le_of_ble_eq_true rfl) (fun Γ hG hO => by subst hG; exact go_J7_rangeCheck_23922 hO h x0 x1 x2 (fun _ q => q))
noncomputable def F_X0_addCode (h : Hp) (x0 : Nat) (x1 : Int32) : Option (Hp) :=
  if ((4 : Int32)) ≤ (hI h x0 0) then some h else gd (ib (hI h x0 0) (LEN (GR x0 2))) (some (uI (uI h (GR x0 2) (nx (hI h x0 0)) x1) x0 0 ((hI (uI h (GR x0 2) (nx (hI h x0 0)) x1) x0 0) + ((1 : Int32)))))
set_option maxHeartbeats 4000000 in
set_option maxRecDepth 100000 in
theorem go_X0_addCode {Γ : Cx} (hO : Ok Γ mX0_addCode) (h : Hp) (x0 : Nat) (x1 : Int32) (hx0 : Is x0 0) {K : Hp → Prop} (hR : ∀ r, K r → emHV r = tgt Γ) : EG Γ mX0_addCode 0 [(0, rf Γ x0), (1, .int x1)] [] h (F_X0_addCode h x0 x1) K := by
  unfold F_X0_addCode
  refine x_aload_n hO 0 rfl rfl dX0_addCode_0 ?_
  refine x_getI hO fl_RX0_9 hx0 dX0_addCode_1 ?_
  refine x_iconst hO (v := 4) (by decide) dX0_addCode_4 ?_
  refine x_icmp_ge hO (tg := 28) dX0_addCode_5 (by decide) ?_ ?_
  · exact x_vret hO rfl dX0_addCode_28 (hR _)
  · refine x_aload_n hO 0 rfl rfl dX0_addCode_8 ?_
    refine x_getR hO fl_RX0_18 hx0 dX0_addCode_9 ?_
    refine x_aload_n hO 0 rfl rfl dX0_addCode_12 ?_
    refine x_getI hO fl_RX0_9 hx0 dX0_addCode_13 ?_
    refine x_iload_n hO 1 rfl rfl dX0_addCode_16 ?_
    refine x_iast hO (gr_0_2 hx0) dX0_addCode_17 ?_
    refine x_aload_n hO 0 rfl rfl dX0_addCode_18 ?_
    refine x_dup_r hO dX0_addCode_19 ?_
    refine x_getI hO fl_RX0_9 hx0 dX0_addCode_20 ?_
    refine x_iconst hO (v := 1) (by decide) dX0_addCode_23 ?_
    refine x_iadd hO dX0_addCode_24 ?_
    refine x_putI hO fl_RX0_9 hx0 dX0_addCode_25 ?_
    exact x_vret hO rfl dX0_addCode_28 (hR _)
theorem ok_X0_addCode (G : Gl) (h : Hp) (x0 : Nat) (x1 : Int32) (hx0 : Is x0 0) : CN G mX0_addCode [.ref (gb G + x0), .int x1] h ((F_X0_addCode h x0 x1).map (emHV)) := CN.fn pn_RX0 (Nat.le_of_ble_eq_true rfl) (fun Γ hG hO => by subst hG; exact go_X0_addCode hO h x0 x1 hx0 (fun _ q => q))
noncomputable def F_X0_addJoin (h : Hp) (x0 : Nat) (x1 : Int32) (x2 : Int32) : Option (Hp) :=
  gd (ib x2 (LEN (GR x0 3))) (gd (ib ((x1 * ((4 : Int32))) + (hI h (GR x0 3) (nx x2))) (LEN (GR x0 5))) (some (uI h (GR x0 5) (nx ((x1 * ((4 : Int32))) + (hI h (GR x0 3) (nx x2)))) x2)))
set_option maxHeartbeats 4000000 in
set_option maxRecDepth 100000 in
theorem go_X0_addJoin {Γ : Cx} (hO : Ok Γ mX0_addJoin) (h : Hp) (x0 : Nat) (x1 : Int32) (x2 : Int32) (hx0 : Is x0 0) {K : Hp → Prop} (hR : ∀ r, K r → emHV r = tgt Γ) : EG Γ mX0_addJoin 0 [(0, rf Γ x0), (1, .int x1), (2, .int x2)] [] h (F_X0_addJoin h x0 x1 x2) K := by
  unfold F_X0_addJoin
  refine x_aload_n hO 0 rfl rfl dX0_addJoin_0 ?_
  refine x_getR hO fl_RX0_28 hx0 dX0_addJoin_1 ?_
  refine x_iload_n hO 1 rfl rfl dX0_addJoin_4 ?_
  refine x_iconst hO (v := 4) (by decide) dX0_addJoin_5 ?_
  refine x_imul hO dX0_addJoin_6 ?_
  refine x_aload_n hO 0 rfl rfl dX0_addJoin_7 ?_
  refine x_getR hO fl_RX0_22 hx0 dX0_addJoin_8 ?_
  refine x_iload_n hO 2 rfl rfl dX0_addJoin_11 ?_
  refine x_iald hO (gr_0_3 hx0) dX0_addJoin_12 ?_
  refine x_iadd hO dX0_addJoin_13 ?_
  refine x_iload_n hO 2 rfl rfl dX0_addJoin_14 ?_
  refine x_iast hO (gr_0_5 hx0) dX0_addJoin_15 ?_
  exact x_vret hO rfl dX0_addJoin_16 (hR _)
theorem ok_X0_addJoin (G : Gl) (h : Hp) (x0 : Nat) (x1 : Int32) (x2 : Int32) (hx0 : Is x0 0) : CN G mX0_addJoin [.ref (gb G + x0), .int x1, .int x2] h ((F_X0_addJoin h x0 x1 x2).map (emHV)) := CN.fn pn_RX0 (Nat.le_of_ble_eq_true rfl) (fun Γ hG hO => by subst hG; exact go_X0_addJoin hO h x0 x1 x2 hx0 (fun _ q => q))
noncomputable def B_X0_firstMeanOf_2 (h : Hp) (x0 : Nat) (x1 : Int32) (x2 : Int32) : Option ((Int32) ⊕ (Int32)) :=
  if (hI h x0 1) ≤ x2 then some (.inr ((-1 : Int32))) else gd (ib x2 (LEN (GR x0 3))) (if (hI h (GR x0 3) (nx x2)) = x1 then some (.inr x2) else some (.inl (x2 + (1 : Int32))))
noncomputable def L_X0_firstMeanOf_2 (h : Hp) (x0 : Nat) (x1 : Int32) (x2 : Int32) : Option (Int32) := iterW (fun s : Int32 => B_X0_firstMeanOf_2 h x0 x1 s) x2
set_option maxHeartbeats 4000000 in
set_option maxRecDepth 100000 in
theorem go_X0_firstMeanOf_B2 {Γ : Cx} (hO : Ok Γ mX0_firstMeanOf) (h : Hp) (x0 : Nat) (x1 : Int32) (x2 : Int32) (hx0 : Is x0 0) {K : (Int32) ⊕ (Int32) → Prop} (hC : ∀ (x2 : Int32), K (.inl x2) → EW Γ mX0_firstMeanOf 2 [(0, rf Γ x0), (1, .int x1), (2, .int x2)] [] h) (hR : ∀ r, K (.inr r) → emPI h r = tgt Γ) : EG Γ mX0_firstMeanOf 2 [(0, rf Γ x0), (1, .int x1), (2, .int x2)] [] h (B_X0_firstMeanOf_2 h x0 x1 x2) K := by
  unfold B_X0_firstMeanOf_2
  refine x_iload_n hO 2 rfl rfl dX0_firstMeanOf_2 ?_
  refine x_aload_n hO 0 rfl rfl dX0_firstMeanOf_3 ?_
  refine x_getI hO fl_RX0_15 hx0 dX0_firstMeanOf_4 ?_
  refine x_icmp_ge hO (tg := 28) dX0_firstMeanOf_7 (by decide) ?_ ?_
  · refine x_iconst hO (v := -1) (by decide) dX0_firstMeanOf_28 ?_
    exact x_iret hO rfl dX0_firstMeanOf_29 (hR _)
  · refine x_aload_n hO 0 rfl rfl dX0_firstMeanOf_10 ?_
    refine x_getR hO fl_RX0_22 hx0 dX0_firstMeanOf_11 ?_
    refine x_iload_n hO 2 rfl rfl dX0_firstMeanOf_14 ?_
    refine x_iald hO (gr_0_3 hx0) dX0_firstMeanOf_15 ?_
    refine x_iload_n hO 1 rfl rfl dX0_firstMeanOf_16 ?_
    refine x_icmp_ne hO (tg := 22) dX0_firstMeanOf_17 (by decide) ?_ ?_
    · refine x_iinc hO 2 (v := 1) [(2, .int (x2 + (1 : Int32))), (0, rf Γ x0), (1, .int x1)] dX0_firstMeanOf_22 rfl (by decide) (by decide) rfl ?_
      refine x_goto hO (tg := 2) dX0_firstMeanOf_25 (by decide) ?_
      exact x_leafs [1, 2, 0] rfl (hC (x2 + (1 : Int32)))
    · refine x_iload_n hO 2 rfl rfl dX0_firstMeanOf_20 ?_
      exact x_iret hO rfl dX0_firstMeanOf_21 (hR _)
set_option maxHeartbeats 4000000 in
set_option maxRecDepth 100000 in
theorem go_X0_firstMeanOf_L2 {Γ : Cx} (hO : Ok Γ mX0_firstMeanOf) (h : Hp) (x0 : Nat) (x1 : Int32) (x2 : Int32) (hx0 : Is x0 0) {K : Int32 → Prop} (hR : ∀ r, K (r) → emPI h r = tgt Γ) : EG Γ mX0_firstMeanOf 2 [(0, rf Γ x0), (1, .int x1), (2, .int x2)] [] h (L_X0_firstMeanOf_2 h x0 x1 x2) K := by
  have q := x_loop (Γ := Γ) (M := mX0_firstMeanOf) (pc := 2) (B := fun s : Int32 => B_X0_firstMeanOf_2 h x0 x1 s) (lvf := fun s => [(0, rf Γ x0), (1, .int x1), (2, .int s)]) (hf := fun s => h) (Ky := K) (fun s => go_X0_firstMeanOf_B2 hO h x0 x1 s hx0 (fun _ => id) hR) x2
  exact q
noncomputable def F_X0_firstMeanOf (h : Hp) (x0 : Nat) (x1 : Int32) : Option (Int32) :=
  L_X0_firstMeanOf_2 h x0 x1 ((0 : Int32))
set_option maxHeartbeats 4000000 in
set_option maxRecDepth 100000 in
theorem go_X0_firstMeanOf {Γ : Cx} (hO : Ok Γ mX0_firstMeanOf) (h : Hp) (x0 : Nat) (x1 : Int32) (hx0 : Is x0 0) {K : Int32 → Prop} (hR : ∀ r, K r → emPI h r = tgt Γ) : EG Γ mX0_firstMeanOf 0 [(0, rf Γ x0), (1, .int x1)] [] h (F_X0_firstMeanOf h x0 x1) K := by
  unfold F_X0_firstMeanOf
  refine x_iconst hO (v := 0) (by decide) dX0_firstMeanOf_0 ?_
  refine x_istore_n hO rfl [(2, .int ((0 : Int32))), (0, rf Γ x0), (1, .int x1)] dX0_firstMeanOf_1 (by decide) rfl ?_
  exact x_sub [1, 2, 0] rfl (go_X0_firstMeanOf_L2 hO h x0 x1 ((0 : Int32)) hx0 hR)
theorem ok_X0_firstMeanOf (G : Gl) (h : Hp) (x0 : Nat) (x1 : Int32) (hx0 : Is x0 0) : CN G mX0_firstMeanOf [.ref (gb G + x0), .int x1] h ((F_X0_firstMeanOf h x0 x1).map (emPI h)) := CN.fn pn_RX0 (Nat.le_of_ble_eq_true rfl) (fun Γ hG hO => by subst hG; exact go_X0_firstMeanOf hO h x0 x1 hx0 (fun _ q => q))
noncomputable def F_X0_isCode (h : Hp) (x0 : Nat) (x1 : Int32) : Option (Int32) :=
  if x1 < 0 then some ((0 : Int32)) else if (hI h x0 0) ≤ x1 then some ((0 : Int32)) else some ((1 : Int32))
set_option maxHeartbeats 4000000 in
set_option maxRecDepth 100000 in
theorem go_X0_isCode {Γ : Cx} (hO : Ok Γ mX0_isCode) (h : Hp) (x0 : Nat) (x1 : Int32) (hx0 : Is x0 0) {K : Int32 → Prop} (hR : ∀ r, K r → emPI h r = tgt Γ) : EG Γ mX0_isCode 0 [(0, rf Γ x0), (1, .int x1)] [] h (F_X0_isCode h x0 x1) K := by
  unfold F_X0_isCode
  refine x_iload_n hO 1 rfl rfl dX0_isCode_0 ?_
  refine x_if_lt hO (tg := 16) dX0_isCode_1 (by decide) ?_ ?_
  · refine x_iconst hO (v := 0) (by decide) dX0_isCode_16 ?_
    exact x_zretv hO rfl (by decide) dX0_isCode_17 (hR _)
  · refine x_iload_n hO 1 rfl rfl dX0_isCode_4 ?_
    refine x_aload_n hO 0 rfl rfl dX0_isCode_5 ?_
    refine x_getI hO fl_RX0_9 hx0 dX0_isCode_6 ?_
    refine x_icmp_ge hO (tg := 16) dX0_isCode_9 (by decide) ?_ ?_
    · refine x_iconst hO (v := 0) (by decide) dX0_isCode_16 ?_
      exact x_zretv hO rfl (by decide) dX0_isCode_17 (hR _)
    · refine x_iconst hO (v := 1) (by decide) dX0_isCode_12 ?_
      refine x_goto hO (tg := 17) dX0_isCode_13 (by decide) ?_
      exact x_zretv hO rfl (by decide) dX0_isCode_17 (hR _)
theorem ok_X0_isCode (G : Gl) (h : Hp) (x0 : Nat) (x1 : Int32) (hx0 : Is x0 0) : CN G mX0_isCode [.ref (gb G + x0), .int x1] h ((F_X0_isCode h x0 x1).map (emPI h)) := CN.fn pn_RX0 (Nat.le_of_ble_eq_true rfl) (fun Γ hG hO => by subst hG; exact go_X0_isCode hO h x0 x1 hx0 (fun _ q => q))
noncomputable def F_X0_isMean (h : Hp) (x0 : Nat) (x1 : Int32) : Option (Int32) :=
  if x1 < 0 then some ((0 : Int32)) else if (hI h x0 1) ≤ x1 then some ((0 : Int32)) else some ((1 : Int32))
set_option maxHeartbeats 4000000 in
set_option maxRecDepth 100000 in
theorem go_X0_isMean {Γ : Cx} (hO : Ok Γ mX0_isMean) (h : Hp) (x0 : Nat) (x1 : Int32) (hx0 : Is x0 0) {K : Int32 → Prop} (hR : ∀ r, K r → emPI h r = tgt Γ) : EG Γ mX0_isMean 0 [(0, rf Γ x0), (1, .int x1)] [] h (F_X0_isMean h x0 x1) K := by
  unfold F_X0_isMean
  refine x_iload_n hO 1 rfl rfl dX0_isMean_0 ?_
  refine x_if_lt hO (tg := 16) dX0_isMean_1 (by decide) ?_ ?_
  · refine x_iconst hO (v := 0) (by decide) dX0_isMean_16 ?_
    exact x_zretv hO rfl (by decide) dX0_isMean_17 (hR _)
  · refine x_iload_n hO 1 rfl rfl dX0_isMean_4 ?_
    refine x_aload_n hO 0 rfl rfl dX0_isMean_5 ?_
    refine x_getI hO fl_RX0_15 hx0 dX0_isMean_6 ?_
    refine x_icmp_ge hO (tg := 16) dX0_isMean_9 (by decide) ?_ ?_
    · refine x_iconst hO (v := 0) (by decide) dX0_isMean_16 ?_
      exact x_zretv hO rfl (by decide) dX0_isMean_17 (hR _)
    · refine x_iconst hO (v := 1) (by decide) dX0_isMean_12 ?_
      refine x_goto hO (tg := 17) dX0_isMean_13 (by decide) ?_
      exact x_zretv hO rfl (by decide) dX0_isMean_17 (hR _)
theorem ok_X0_isMean (G : Gl) (h : Hp) (x0 : Nat) (x1 : Int32) (hx0 : Is x0 0) : CN G mX0_isMean [.ref (gb G + x0), .int x1] h ((F_X0_isMean h x0 x1).map (emPI h)) := CN.fn pn_RX0 (Nat.le_of_ble_eq_true rfl) (fun Γ hG hO => by subst hG; exact go_X0_isMean hO h x0 x1 hx0 (fun _ q => q))
noncomputable def F_X0_joinOf (h : Hp) (x0 : Nat) (x1 : Int32) (x2 : Int32) : Option (Int32) :=
  gd (ib ((x1 * ((4 : Int32))) + x2) (LEN (GR x0 5))) (some (hI h (GR x0 5) (nx ((x1 * ((4 : Int32))) + x2))))
set_option maxHeartbeats 4000000 in
set_option maxRecDepth 100000 in
theorem go_X0_joinOf {Γ : Cx} (hO : Ok Γ mX0_joinOf) (h : Hp) (x0 : Nat) (x1 : Int32) (x2 : Int32) (hx0 : Is x0 0) {K : Int32 → Prop} (hR : ∀ r, K r → emPI h r = tgt Γ) : EG Γ mX0_joinOf 0 [(0, rf Γ x0), (1, .int x1), (2, .int x2)] [] h (F_X0_joinOf h x0 x1 x2) K := by
  unfold F_X0_joinOf
  refine x_aload_n hO 0 rfl rfl dX0_joinOf_0 ?_
  refine x_getR hO fl_RX0_28 hx0 dX0_joinOf_1 ?_
  refine x_iload_n hO 1 rfl rfl dX0_joinOf_4 ?_
  refine x_iconst hO (v := 4) (by decide) dX0_joinOf_5 ?_
  refine x_imul hO dX0_joinOf_6 ?_
  refine x_iload_n hO 2 rfl rfl dX0_joinOf_7 ?_
  refine x_iadd hO dX0_joinOf_8 ?_
  refine x_iald hO (gr_0_5 hx0) dX0_joinOf_9 ?_
  exact x_iret hO rfl dX0_joinOf_10 (hR _)
theorem ok_X0_joinOf (G : Gl) (h : Hp) (x0 : Nat) (x1 : Int32) (x2 : Int32) (hx0 : Is x0 0) : CN G mX0_joinOf [.ref (gb G + x0), .int x1, .int x2] h ((F_X0_joinOf h x0 x1 x2).map (emPI h)) := CN.fn pn_RX0 (Nat.le_of_ble_eq_true rfl) (fun Γ hG hO => by subst hG; exact go_X0_joinOf hO h x0 x1 x2 hx0 (fun _ q => q))
noncomputable def F_X0_makeEmpty (h : Hp) (x0 : Nat) : Option (Hp) :=
  some (uI (uI h x0 0 ((0 : Int32))) x0 1 ((0 : Int32)))
set_option maxHeartbeats 4000000 in
set_option maxRecDepth 100000 in
theorem go_X0_makeEmpty {Γ : Cx} (hO : Ok Γ mX0_makeEmpty) (h : Hp) (x0 : Nat) (hx0 : Is x0 0) {K : Hp → Prop} (hR : ∀ r, K r → emHV r = tgt Γ) : EG Γ mX0_makeEmpty 0 [(0, rf Γ x0)] [] h (F_X0_makeEmpty h x0) K := by
  unfold F_X0_makeEmpty
  refine x_aload_n hO 0 rfl rfl dX0_makeEmpty_0 ?_
  refine x_iconst hO (v := 0) (by decide) dX0_makeEmpty_1 ?_
  refine x_putI hO fl_RX0_9 hx0 dX0_makeEmpty_2 ?_
  refine x_aload_n hO 0 rfl rfl dX0_makeEmpty_5 ?_
  refine x_iconst hO (v := 0) (by decide) dX0_makeEmpty_6 ?_
  refine x_putI hO fl_RX0_15 hx0 dX0_makeEmpty_7 ?_
  exact x_vret hO rfl dX0_makeEmpty_10 (hR _)
theorem ok_X0_makeEmpty (G : Gl) (h : Hp) (x0 : Nat) (hx0 : Is x0 0) : CN G mX0_makeEmpty [.ref (gb G + x0)] h ((F_X0_makeEmpty h x0).map (emHV)) := CN.fn pn_RX0 (Nat.le_of_ble_eq_true rfl) (fun Γ hG hO => by subst hG; exact go_X0_makeEmpty hO h x0 hx0 (fun _ q => q))
noncomputable def B_X0_meanWith_2 (h : Hp) (x0 : Nat) (x1 : Int32) (x2 : Int32) (x3 : Int32) : Option ((Int32) ⊕ (Int32)) :=
  if (hI h x0 1) ≤ x3 then some (.inr ((-1 : Int32))) else gd (ib x3 (LEN (GR x0 3))) (if (hI h (GR x0 3) (nx x3)) = x1 then gd (ib x3 (LEN (GR x0 4))) (if (hI h (GR x0 4) (nx x3)) = x2 then some (.inr x3) else some (.inl (x3 + (1 : Int32)))) else some (.inl (x3 + (1 : Int32))))
noncomputable def L_X0_meanWith_2 (h : Hp) (x0 : Nat) (x1 : Int32) (x2 : Int32) (x3 : Int32) : Option (Int32) := iterW (fun s : Int32 => B_X0_meanWith_2 h x0 x1 x2 s) x3
set_option maxHeartbeats 4000000 in
set_option maxRecDepth 100000 in
theorem go_X0_meanWith_B2 {Γ : Cx} (hO : Ok Γ mX0_meanWith) (h : Hp) (x0 : Nat) (x1 : Int32) (x2 : Int32) (x3 : Int32) (hx0 : Is x0 0) {K : (Int32) ⊕ (Int32) → Prop} (hC : ∀ (x3 : Int32), K (.inl x3) → EW Γ mX0_meanWith 2 [(0, rf Γ x0), (1, .int x1), (2, .int x2), (3, .int x3)] [] h) (hR : ∀ r, K (.inr r) → emPI h r = tgt Γ) : EG Γ mX0_meanWith 2 [(0, rf Γ x0), (1, .int x1), (2, .int x2), (3, .int x3)] [] h (B_X0_meanWith_2 h x0 x1 x2 x3) K := by
  unfold B_X0_meanWith_2
  refine x_iload_n hO 3 rfl rfl dX0_meanWith_2 ?_
  refine x_aload_n hO 0 rfl rfl dX0_meanWith_3 ?_
  refine x_getI hO fl_RX0_15 hx0 dX0_meanWith_4 ?_
  refine x_icmp_ge hO (tg := 38) dX0_meanWith_7 (by decide) ?_ ?_
  · refine x_iconst hO (v := -1) (by decide) dX0_meanWith_38 ?_
    exact x_iret hO rfl dX0_meanWith_39 (hR _)
  · refine x_aload_n hO 0 rfl rfl dX0_meanWith_10 ?_
    refine x_getR hO fl_RX0_22 hx0 dX0_meanWith_11 ?_
    refine x_iload_n hO 3 rfl rfl dX0_meanWith_14 ?_
    refine x_iald hO (gr_0_3 hx0) dX0_meanWith_15 ?_
    refine x_iload_n hO 1 rfl rfl dX0_meanWith_16 ?_
    refine x_icmp_ne hO (tg := 32) dX0_meanWith_17 (by decide) ?_ ?_
    · refine x_iinc hO 3 (v := 1) [(3, .int (x3 + (1 : Int32))), (0, rf Γ x0), (1, .int x1), (2, .int x2)] dX0_meanWith_32 rfl (by decide) (by decide) rfl ?_
      refine x_goto hO (tg := 2) dX0_meanWith_35 (by decide) ?_
      exact x_leafs [1, 2, 3, 0] rfl (hC (x3 + (1 : Int32)))
    · refine x_aload_n hO 0 rfl rfl dX0_meanWith_20 ?_
      refine x_getR hO fl_RX0_25 hx0 dX0_meanWith_21 ?_
      refine x_iload_n hO 3 rfl rfl dX0_meanWith_24 ?_
      refine x_iald hO (gr_0_4 hx0) dX0_meanWith_25 ?_
      refine x_iload_n hO 2 rfl rfl dX0_meanWith_26 ?_
      refine x_icmp_ne hO (tg := 32) dX0_meanWith_27 (by decide) ?_ ?_
      · refine x_iinc hO 3 (v := 1) [(3, .int (x3 + (1 : Int32))), (0, rf Γ x0), (1, .int x1), (2, .int x2)] dX0_meanWith_32 rfl (by decide) (by decide) rfl ?_
        refine x_goto hO (tg := 2) dX0_meanWith_35 (by decide) ?_
        exact x_leafs [1, 2, 3, 0] rfl (hC (x3 + (1 : Int32)))
      · refine x_iload_n hO 3 rfl rfl dX0_meanWith_30 ?_
        exact x_iret hO rfl dX0_meanWith_31 (hR _)
set_option maxHeartbeats 4000000 in
set_option maxRecDepth 100000 in
theorem go_X0_meanWith_L2 {Γ : Cx} (hO : Ok Γ mX0_meanWith) (h : Hp) (x0 : Nat) (x1 : Int32) (x2 : Int32) (x3 : Int32) (hx0 : Is x0 0) {K : Int32 → Prop} (hR : ∀ r, K (r) → emPI h r = tgt Γ) : EG Γ mX0_meanWith 2 [(0, rf Γ x0), (1, .int x1), (2, .int x2), (3, .int x3)] [] h (L_X0_meanWith_2 h x0 x1 x2 x3) K := by
  have q := x_loop (Γ := Γ) (M := mX0_meanWith) (pc := 2) (B := fun s : Int32 => B_X0_meanWith_2 h x0 x1 x2 s) (lvf := fun s => [(0, rf Γ x0), (1, .int x1), (2, .int x2), (3, .int s)]) (hf := fun s => h) (Ky := K) (fun s => go_X0_meanWith_B2 hO h x0 x1 x2 s hx0 (fun _ => id) hR) x3
  exact q
noncomputable def F_X0_meanWith (h : Hp) (x0 : Nat) (x1 : Int32) (x2 : Int32) : Option (Int32) :=
  L_X0_meanWith_2 h x0 x1 x2 ((0 : Int32))
set_option maxHeartbeats 4000000 in
set_option maxRecDepth 100000 in
theorem go_X0_meanWith {Γ : Cx} (hO : Ok Γ mX0_meanWith) (h : Hp) (x0 : Nat) (x1 : Int32) (x2 : Int32) (hx0 : Is x0 0) {K : Int32 → Prop} (hR : ∀ r, K r → emPI h r = tgt Γ) : EG Γ mX0_meanWith 0 [(0, rf Γ x0), (1, .int x1), (2, .int x2)] [] h (F_X0_meanWith h x0 x1 x2) K := by
  unfold F_X0_meanWith
  refine x_iconst hO (v := 0) (by decide) dX0_meanWith_0 ?_
  refine x_istore_n hO rfl [(3, .int ((0 : Int32))), (0, rf Γ x0), (1, .int x1), (2, .int x2)] dX0_meanWith_1 (by decide) rfl ?_
  exact x_sub [1, 2, 3, 0] rfl (go_X0_meanWith_L2 hO h x0 x1 x2 ((0 : Int32)) hx0 hR)
theorem ok_X0_meanWith (G : Gl) (h : Hp) (x0 : Nat) (x1 : Int32) (x2 : Int32) (hx0 : Is x0 0) : CN G mX0_meanWith [.ref (gb G + x0), .int x1, .int x2] h ((F_X0_meanWith h x0 x1 x2).map (emPI h)) := CN.fn pn_RX0 (Nat.le_of_ble_eq_true rfl) (fun Γ hG hO => by subst hG; exact go_X0_meanWith hO h x0 x1 x2 hx0 (fun _ q => q))
noncomputable def B_X0_meansOf_4 (h : Hp) (x0 : Nat) (x1 : Int32) (x2 : Int32) (x3 : Int32) : Option ((Int32 × Int32) ⊕ (Int32)) :=
  if (hI h x0 1) ≤ x3 then some (.inr x2) else gd (ib x3 (LEN (GR x0 3))) (if (hI h (GR x0 3) (nx x3)) = x1 then some (.inl (x2 + (1 : Int32), x3 + (1 : Int32))) else some (.inl (x2, x3 + (1 : Int32))))
noncomputable def L_X0_meansOf_4 (h : Hp) (x0 : Nat) (x1 : Int32) (x2 : Int32) (x3 : Int32) : Option (Int32) := iterW (fun s : Int32 × Int32 => B_X0_meansOf_4 h x0 x1 s.1 s.2) (x2, x3)
set_option maxHeartbeats 4000000 in
set_option maxRecDepth 100000 in
theorem go_X0_meansOf_B4 {Γ : Cx} (hO : Ok Γ mX0_meansOf) (h : Hp) (x0 : Nat) (x1 : Int32) (x2 : Int32) (x3 : Int32) (hx0 : Is x0 0) {K : (Int32 × Int32) ⊕ (Int32) → Prop} (hC : ∀ (x2 : Int32) (x3 : Int32), K (.inl (x2, x3)) → EW Γ mX0_meansOf 4 [(0, rf Γ x0), (1, .int x1), (2, .int x2), (3, .int x3)] [] h) (hR : ∀ r, K (.inr r) → emPI h r = tgt Γ) : EG Γ mX0_meansOf 4 [(0, rf Γ x0), (1, .int x1), (2, .int x2), (3, .int x3)] [] h (B_X0_meansOf_4 h x0 x1 x2 x3) K := by
  unfold B_X0_meansOf_4
  refine x_iload_n hO 3 rfl rfl dX0_meansOf_4 ?_
  refine x_aload_n hO 0 rfl rfl dX0_meansOf_5 ?_
  refine x_getI hO fl_RX0_15 hx0 dX0_meansOf_6 ?_
  refine x_icmp_ge hO (tg := 31) dX0_meansOf_9 (by decide) ?_ ?_
  · refine x_iload_n hO 2 rfl rfl dX0_meansOf_31 ?_
    exact x_iret hO rfl dX0_meansOf_32 (hR _)
  · refine x_aload_n hO 0 rfl rfl dX0_meansOf_12 ?_
    refine x_getR hO fl_RX0_22 hx0 dX0_meansOf_13 ?_
    refine x_iload_n hO 3 rfl rfl dX0_meansOf_16 ?_
    refine x_iald hO (gr_0_3 hx0) dX0_meansOf_17 ?_
    refine x_iload_n hO 1 rfl rfl dX0_meansOf_18 ?_
    refine x_icmp_ne hO (tg := 25) dX0_meansOf_19 (by decide) ?_ ?_
    · refine x_iinc hO 3 (v := 1) [(3, .int (x3 + (1 : Int32))), (0, rf Γ x0), (1, .int x1), (2, .int x2)] dX0_meansOf_25 rfl (by decide) (by decide) rfl ?_
      refine x_goto hO (tg := 4) dX0_meansOf_28 (by decide) ?_
      exact x_leafs [1, 2, 3, 0] rfl (hC x2 (x3 + (1 : Int32)))
    · refine x_iinc hO 2 (v := 1) [(2, .int (x2 + (1 : Int32))), (0, rf Γ x0), (1, .int x1), (3, .int x3)] dX0_meansOf_22 rfl (by decide) (by decide) rfl ?_
      refine x_iinc hO 3 (v := 1) [(3, .int (x3 + (1 : Int32))), (2, .int (x2 + (1 : Int32))), (0, rf Γ x0), (1, .int x1)] dX0_meansOf_25 rfl (by decide) (by decide) rfl ?_
      refine x_goto hO (tg := 4) dX0_meansOf_28 (by decide) ?_
      exact x_leafs [2, 3, 1, 0] rfl (hC (x2 + (1 : Int32)) (x3 + (1 : Int32)))
set_option maxHeartbeats 4000000 in
set_option maxRecDepth 100000 in
theorem go_X0_meansOf_L4 {Γ : Cx} (hO : Ok Γ mX0_meansOf) (h : Hp) (x0 : Nat) (x1 : Int32) (x2 : Int32) (x3 : Int32) (hx0 : Is x0 0) {K : Int32 → Prop} (hR : ∀ r, K (r) → emPI h r = tgt Γ) : EG Γ mX0_meansOf 4 [(0, rf Γ x0), (1, .int x1), (2, .int x2), (3, .int x3)] [] h (L_X0_meansOf_4 h x0 x1 x2 x3) K := by
  have q := x_loop (Γ := Γ) (M := mX0_meansOf) (pc := 4) (B := fun s : Int32 × Int32 => B_X0_meansOf_4 h x0 x1 s.1 s.2) (lvf := fun s => [(0, rf Γ x0), (1, .int x1), (2, .int s.1), (3, .int s.2)]) (hf := fun s => h) (Ky := K) (fun s => go_X0_meansOf_B4 hO h x0 x1 s.1 s.2 hx0 (fun _ _ => id) hR) (x2, x3)
  exact q
noncomputable def F_X0_meansOf (h : Hp) (x0 : Nat) (x1 : Int32) : Option (Int32) :=
  L_X0_meansOf_4 h x0 x1 ((0 : Int32)) ((0 : Int32))
set_option maxHeartbeats 4000000 in
set_option maxRecDepth 100000 in
theorem go_X0_meansOf {Γ : Cx} (hO : Ok Γ mX0_meansOf) (h : Hp) (x0 : Nat) (x1 : Int32) (hx0 : Is x0 0) {K : Int32 → Prop} (hR : ∀ r, K r → emPI h r = tgt Γ) : EG Γ mX0_meansOf 0 [(0, rf Γ x0), (1, .int x1)] [] h (F_X0_meansOf h x0 x1) K := by
  unfold F_X0_meansOf
  refine x_iconst hO (v := 0) (by decide) dX0_meansOf_0 ?_
  refine x_istore_n hO rfl [(2, .int ((0 : Int32))), (0, rf Γ x0), (1, .int x1)] dX0_meansOf_1 (by decide) rfl ?_
  refine x_iconst hO (v := 0) (by decide) dX0_meansOf_2 ?_
  refine x_istore_n hO rfl [(3, .int ((0 : Int32))), (2, .int ((0 : Int32))), (0, rf Γ x0), (1, .int x1)] dX0_meansOf_3 (by decide) rfl ?_
  exact x_sub [2, 3, 1, 0] rfl (go_X0_meansOf_L4 hO h x0 x1 ((0 : Int32)) ((0 : Int32)) hx0 hR)
theorem ok_X0_meansOf (G : Gl) (h : Hp) (x0 : Nat) (x1 : Int32) (hx0 : Is x0 0) : CN G mX0_meansOf [.ref (gb G + x0), .int x1] h ((F_X0_meansOf h x0 x1).map (emPI h)) := CN.fn pn_RX0 (Nat.le_of_ble_eq_true rfl) (fun Γ hG hO => by subst hG; exact go_X0_meansOf hO h x0 x1 hx0 (fun _ q => q))
noncomputable def B_X10_allWithin_2 (h : Hp) (x0 : Nat) (x1 : Int32) (x2 : Int32) (x3 : Int32) : Option ((Int32) ⊕ (Int32)) :=
  if x1 ≤ x3 then some (.inr ((1 : Int32))) else if (hI h x0 2) ≤ x3 then some (.inr ((1 : Int32))) else gd (ib x3 (LEN (GR x0 3))) (if (lg_cmp (hL h (GR x0 3) (nx x3)) ((0 : Int64))) < 0 then some (.inr ((0 : Int32))) else gd (ib x3 (LEN (GR x0 3))) (if (lg_cmp (hL h (GR x0 3) (nx x3)) x2.toInt64) ≤ 0 then some (.inl (x3 + (1 : Int32))) else some (.inr ((0 : Int32)))))
noncomputable def L_X10_allWithin_2 (h : Hp) (x0 : Nat) (x1 : Int32) (x2 : Int32) (x3 : Int32) : Option (Int32) := iterW (fun s : Int32 => B_X10_allWithin_2 h x0 x1 x2 s) x3
set_option maxHeartbeats 4000000 in
set_option maxRecDepth 100000 in
theorem go_X10_allWithin_B2 {Γ : Cx} (hO : Ok Γ mX10_allWithin) (h : Hp) (x0 : Nat) (x1 : Int32) (x2 : Int32) (x3 : Int32) (hx0 : Is x0 10) {K : (Int32) ⊕ (Int32) → Prop} (hC : ∀ (x3 : Int32), K (.inl x3) → EW Γ mX10_allWithin 2 [(0, rf Γ x0), (1, .int x1), (2, .int x2), (3, .int x3)] [] h) (hR : ∀ r, K (.inr r) → emPI h r = tgt Γ) : EG Γ mX10_allWithin 2 [(0, rf Γ x0), (1, .int x1), (2, .int x2), (3, .int x3)] [] h (B_X10_allWithin_2 h x0 x1 x2 x3) K := by
  unfold B_X10_allWithin_2
  refine x_iload_n hO 3 rfl rfl dX10_allWithin_2 ?_
  refine x_iload_n hO 1 rfl rfl dX10_allWithin_3 ?_
  refine x_icmp_ge hO (tg := 46) dX10_allWithin_4 (by decide) ?_ ?_
  · refine x_iconst hO (v := 1) (by decide) dX10_allWithin_46 ?_
    exact x_zretv hO rfl (by decide) dX10_allWithin_47 (hR _)
  · refine x_iload_n hO 3 rfl rfl dX10_allWithin_7 ?_
    refine x_aload_n hO 0 rfl rfl dX10_allWithin_8 ?_
    refine x_getI hO fl_RX10_19 hx0 dX10_allWithin_9 ?_
    refine x_icmp_ge hO (tg := 46) dX10_allWithin_12 (by decide) ?_ ?_
    · refine x_iconst hO (v := 1) (by decide) dX10_allWithin_46 ?_
      exact x_zretv hO rfl (by decide) dX10_allWithin_47 (hR _)
    · refine x_aload_n hO 0 rfl rfl dX10_allWithin_15 ?_
      refine x_getR hO fl_RX10_22 hx0 dX10_allWithin_16 ?_
      refine x_iload_n hO 3 rfl rfl dX10_allWithin_19 ?_
      refine x_lald hO (gr_10_3 hx0) dX10_allWithin_20 ?_
      refine x_lconst hO (v := 0) (by decide) dX10_allWithin_21 ?_
      refine x_lcmp hO dX10_allWithin_22 ?_
      refine x_if_lt hO (tg := 38) dX10_allWithin_23 (by decide) ?_ ?_
      · refine x_iconst hO (v := 0) (by decide) dX10_allWithin_38 ?_
        exact x_zretv hO rfl (by decide) dX10_allWithin_39 (hR _)
      · refine x_aload_n hO 0 rfl rfl dX10_allWithin_26 ?_
        refine x_getR hO fl_RX10_22 hx0 dX10_allWithin_27 ?_
        refine x_iload_n hO 3 rfl rfl dX10_allWithin_30 ?_
        refine x_lald hO (gr_10_3 hx0) dX10_allWithin_31 ?_
        refine x_iload_n hO 2 rfl rfl dX10_allWithin_32 ?_
        refine x_i2l hO dX10_allWithin_33 ?_
        refine x_lcmp hO dX10_allWithin_34 ?_
        refine x_if_le hO (tg := 40) dX10_allWithin_35 (by decide) ?_ ?_
        · refine x_iinc hO 3 (v := 1) [(3, .int (x3 + (1 : Int32))), (0, rf Γ x0), (1, .int x1), (2, .int x2)] dX10_allWithin_40 rfl (by decide) (by decide) rfl ?_
          refine x_goto hO (tg := 2) dX10_allWithin_43 (by decide) ?_
          exact x_leafs [1, 2, 3, 0] rfl (hC (x3 + (1 : Int32)))
        · refine x_iconst hO (v := 0) (by decide) dX10_allWithin_38 ?_
          exact x_zretv hO rfl (by decide) dX10_allWithin_39 (hR _)
set_option maxHeartbeats 4000000 in
set_option maxRecDepth 100000 in
theorem go_X10_allWithin_L2 {Γ : Cx} (hO : Ok Γ mX10_allWithin) (h : Hp) (x0 : Nat) (x1 : Int32) (x2 : Int32) (x3 : Int32) (hx0 : Is x0 10) {K : Int32 → Prop} (hR : ∀ r, K (r) → emPI h r = tgt Γ) : EG Γ mX10_allWithin 2 [(0, rf Γ x0), (1, .int x1), (2, .int x2), (3, .int x3)] [] h (L_X10_allWithin_2 h x0 x1 x2 x3) K := by
  have q := x_loop (Γ := Γ) (M := mX10_allWithin) (pc := 2) (B := fun s : Int32 => B_X10_allWithin_2 h x0 x1 x2 s) (lvf := fun s => [(0, rf Γ x0), (1, .int x1), (2, .int x2), (3, .int s)]) (hf := fun s => h) (Ky := K) (fun s => go_X10_allWithin_B2 hO h x0 x1 x2 s hx0 (fun _ => id) hR) x3
  exact q
noncomputable def F_X10_allWithin (h : Hp) (x0 : Nat) (x1 : Int32) (x2 : Int32) : Option (Int32) :=
  L_X10_allWithin_2 h x0 x1 x2 ((0 : Int32))
set_option maxHeartbeats 4000000 in
set_option maxRecDepth 100000 in
theorem go_X10_allWithin {Γ : Cx} (hO : Ok Γ mX10_allWithin) (h : Hp) (x0 : Nat) (x1 : Int32) (x2 : Int32) (hx0 : Is x0 10) {K : Int32 → Prop} (hR : ∀ r, K r → emPI h r = tgt Γ) : EG Γ mX10_allWithin 0 [(0, rf Γ x0), (1, .int x1), (2, .int x2)] [] h (F_X10_allWithin h x0 x1 x2) K := by
  unfold F_X10_allWithin
  refine x_iconst hO (v := 0) (by decide) dX10_allWithin_0 ?_
  refine x_istore_n hO rfl [(3, .int ((0 : Int32))), (0, rf Γ x0), (1, .int x1), (2, .int x2)] dX10_allWithin_1 (by decide) rfl ?_
  exact x_sub [1, 2, 3, 0] rfl (go_X10_allWithin_L2 hO h x0 x1 x2 ((0 : Int32)) hx0 hR)
theorem ok_X10_allWithin (G : Gl) (h : Hp) (x0 : Nat) (x1 : Int32) (x2 : Int32) (hx0 : Is x0 10) : CN G mX10_allWithin [.ref (gb G + x0), .int x1, .int x2] h ((F_X10_allWithin h x0 x1 x2).map (emPI h)) := CN.fn pn_RX10 (Nat.le_of_ble_eq_true rfl) (fun Γ hG hO => by subst hG; exact go_X10_allWithin hO h x0 x1 x2 hx0 (fun _ q => q))
noncomputable def F_X10_cut (h : Hp) (x0 : Nat) (x1 : Int64) : Option (Int64) :=
  swt (hI h x0 1) 0 [some x1.toInt32.toInt8.toInt32.toInt64, some x1.toInt32.toInt16.toInt32.toInt64, some x1.toInt32.toInt64] (some x1)
set_option maxHeartbeats 4000000 in
set_option maxRecDepth 100000 in
theorem go_X10_cut {Γ : Cx} (hO : Ok Γ mX10_cut) (h : Hp) (x0 : Nat) (x1 : Int64) (hx0 : Is x0 10) {K : Int64 → Prop} (hR : ∀ r, K r → emPL h r = tgt Γ) : EG Γ mX10_cut 0 [(0, rf Γ x0), (1, .long x1)] [] h (F_X10_cut h x0 x1) K := by
  unfold F_X10_cut
  refine x_aload_n hO 0 rfl rfl dX10_cut_0 ?_
  refine x_getI hO fl_RX10_15 hx0 dX10_cut_1 ?_
  refine x_tsw hO (tgs := [32, 37, 42]) (dt := 46) dX10_cut_4 rfl (by decide) (by decide) ⟨?_, ?_, ?_, trivial⟩ ?_
  · refine x_lload_n hO 1 rfl rfl dX10_cut_32 ?_
    refine x_l2i hO dX10_cut_33 ?_
    refine x_i2b hO dX10_cut_34 ?_
    refine x_i2l hO dX10_cut_35 ?_
    exact x_lret hO rfl dX10_cut_36 (hR _)
  · refine x_lload_n hO 1 rfl rfl dX10_cut_37 ?_
    refine x_l2i hO dX10_cut_38 ?_
    refine x_i2s hO dX10_cut_39 ?_
    refine x_i2l hO dX10_cut_40 ?_
    exact x_lret hO rfl dX10_cut_41 (hR _)
  · refine x_lload_n hO 1 rfl rfl dX10_cut_42 ?_
    refine x_l2i hO dX10_cut_43 ?_
    refine x_i2l hO dX10_cut_44 ?_
    exact x_lret hO rfl dX10_cut_45 (hR _)
  · refine x_lload_n hO 1 rfl rfl dX10_cut_46 ?_
    exact x_lret hO rfl dX10_cut_47 (hR _)
theorem ok_X10_cut (G : Gl) (h : Hp) (x0 : Nat) (x1 : Int64) (hx0 : Is x0 10) : CN G mX10_cut [.ref (gb G + x0), .long x1] h ((F_X10_cut h x0 x1).map (emPL h)) := CN.fn pn_RX10 (Nat.le_of_ble_eq_true rfl) (fun Γ hG hO => by subst hG; exact go_X10_cut hO h x0 x1 hx0 (fun _ q => q))
noncomputable def F_X10_holds (h : Hp) (x0 : Nat) (x1 : Int32) (x2 : Int32) : Option (Int32) :=
  if 0 < (lg_cmp (x1.toInt64 + x2.toInt64) ((hI h x0 2).toInt64)) then some ((0 : Int32)) else some ((1 : Int32))
set_option maxHeartbeats 4000000 in
set_option maxRecDepth 100000 in
theorem go_X10_holds {Γ : Cx} (hO : Ok Γ mX10_holds) (h : Hp) (x0 : Nat) (x1 : Int32) (x2 : Int32) (hx0 : Is x0 10) {K : Int32 → Prop} (hR : ∀ r, K r → emPI h r = tgt Γ) : EG Γ mX10_holds 0 [(0, rf Γ x0), (1, .int x1), (2, .int x2)] [] h (F_X10_holds h x0 x1 x2) K := by
  unfold F_X10_holds
  refine x_iload_n hO 1 rfl rfl dX10_holds_0 ?_
  refine x_i2l hO dX10_holds_1 ?_
  refine x_iload_n hO 2 rfl rfl dX10_holds_2 ?_
  refine x_i2l hO dX10_holds_3 ?_
  refine x_ladd hO dX10_holds_4 ?_
  refine x_aload_n hO 0 rfl rfl dX10_holds_5 ?_
  refine x_getI hO fl_RX10_19 hx0 dX10_holds_6 ?_
  refine x_i2l hO dX10_holds_9 ?_
  refine x_lcmp hO dX10_holds_10 ?_
  refine x_if_gt hO (tg := 18) dX10_holds_11 (by decide) ?_ ?_
  · refine x_iconst hO (v := 0) (by decide) dX10_holds_18 ?_
    exact x_zretv hO rfl (by decide) dX10_holds_19 (hR _)
  · refine x_iconst hO (v := 1) (by decide) dX10_holds_14 ?_
    refine x_goto hO (tg := 19) dX10_holds_15 (by decide) ?_
    exact x_zretv hO rfl (by decide) dX10_holds_19 (hR _)
theorem ok_X10_holds (G : Gl) (h : Hp) (x0 : Nat) (x1 : Int32) (x2 : Int32) (hx0 : Is x0 10) : CN G mX10_holds [.ref (gb G + x0), .int x1, .int x2] h ((F_X10_holds h x0 x1 x2).map (emPI h)) := CN.fn pn_RX10 (Nat.le_of_ble_eq_true rfl) (fun Γ hG hO => by subst hG; exact go_X10_holds hO h x0 x1 x2 hx0 (fun _ q => q))
noncomputable def F_X11_agree (h : Hp) (x0 : Nat) : Option (Hp × Int32) :=
  some ((uI h x0 10 ((0 : Int32)), (1 : Int32)))
set_option maxHeartbeats 4000000 in
set_option maxRecDepth 100000 in
theorem go_X11_agree {Γ : Cx} (hO : Ok Γ mX11_agree) (h : Hp) (x0 : Nat) (hx0 : Is x0 11) {K : Hp × Int32 → Prop} (hR : ∀ r, K r → emHI r = tgt Γ) : EG Γ mX11_agree 0 [(0, rf Γ x0)] [] h (F_X11_agree h x0) K := by
  unfold F_X11_agree
  refine x_aload_n hO 0 rfl rfl dX11_agree_0 ?_
  refine x_iconst hO (v := 0) (by decide) dX11_agree_1 ?_
  refine x_putI hO fl_RX11_72 hx0 dX11_agree_2 ?_
  refine x_iconst hO (v := 1) (by decide) dX11_agree_5 ?_
  exact x_zretv hO rfl (by decide) dX11_agree_6 (hR _)
theorem ok_X11_agree (G : Gl) (h : Hp) (x0 : Nat) (hx0 : Is x0 11) : CN G mX11_agree [.ref (gb G + x0)] h ((F_X11_agree h x0).map (emHI)) := CN.fn pn_RX11 (Nat.le_of_ble_eq_true rfl) (fun Γ hG hO => by subst hG; exact go_X11_agree hO h x0 hx0 (fun _ q => q))
noncomputable def F_X11_answer (h : Hp) (x0 : Nat) (x1 : Int32) : Option (Hp × Int32) :=
  some ((uI h x0 10 ((0 : Int32)), x1))
set_option maxHeartbeats 4000000 in
set_option maxRecDepth 100000 in
theorem go_X11_answer {Γ : Cx} (hO : Ok Γ mX11_answer) (h : Hp) (x0 : Nat) (x1 : Int32) (hx0 : Is x0 11) {K : Hp × Int32 → Prop} (hR : ∀ r, K r → emHI r = tgt Γ) : EG Γ mX11_answer 0 [(0, rf Γ x0), (1, .int x1)] [] h (F_X11_answer h x0 x1) K := by
  unfold F_X11_answer
  refine x_aload_n hO 0 rfl rfl dX11_answer_0 ?_
  refine x_iconst hO (v := 0) (by decide) dX11_answer_1 ?_
  refine x_putI hO fl_RX11_72 hx0 dX11_answer_2 ?_
  refine x_iload_n hO 1 rfl rfl dX11_answer_5 ?_
  exact x_iret hO rfl dX11_answer_6 (hR _)
theorem ok_X11_answer (G : Gl) (h : Hp) (x0 : Nat) (x1 : Int32) (hx0 : Is x0 11) : CN G mX11_answer [.ref (gb G + x0), .int x1] h ((F_X11_answer h x0 x1).map (emHI)) := CN.fn pn_RX11 (Nat.le_of_ble_eq_true rfl) (fun Γ hG hO => by subst hG; exact go_X11_answer hO h x0 x1 hx0 (fun _ q => q))
noncomputable def F_X11_bottom (h : Hp) (x0 : Nat) : Option (Int64) :=
  some (hL h x0 12)
set_option maxHeartbeats 4000000 in
set_option maxRecDepth 100000 in
theorem go_X11_bottom {Γ : Cx} (hO : Ok Γ mX11_bottom) (h : Hp) (x0 : Nat) (hx0 : Is x0 11) {K : Int64 → Prop} (hR : ∀ r, K r → emPL h r = tgt Γ) : EG Γ mX11_bottom 0 [(0, rf Γ x0)] [] h (F_X11_bottom h x0) K := by
  unfold F_X11_bottom
  refine x_aload_n hO 0 rfl rfl dX11_bottom_0 ?_
  refine x_getL hO fl_RX11_80 hx0 dX11_bottom_1 ?_
  exact x_lret hO rfl dX11_bottom_4 (hR _)
theorem ok_X11_bottom (G : Gl) (h : Hp) (x0 : Nat) (hx0 : Is x0 11) : CN G mX11_bottom [.ref (gb G + x0)] h ((F_X11_bottom h x0).map (emPL h)) := CN.fn pn_RX11 (Nat.le_of_ble_eq_true rfl) (fun Γ hG hO => by subst hG; exact go_X11_bottom hO h x0 hx0 (fun _ q => q))
noncomputable def F_X11_deny (h : Hp) (x0 : Nat) (x1 : Int32) : Option (Hp × Int32) :=
  some ((uI h x0 10 x1, (0 : Int32)))
set_option maxHeartbeats 4000000 in
set_option maxRecDepth 100000 in
theorem go_X11_deny {Γ : Cx} (hO : Ok Γ mX11_deny) (h : Hp) (x0 : Nat) (x1 : Int32) (hx0 : Is x0 11) {K : Hp × Int32 → Prop} (hR : ∀ r, K r → emHI r = tgt Γ) : EG Γ mX11_deny 0 [(0, rf Γ x0), (1, .int x1)] [] h (F_X11_deny h x0 x1) K := by
  unfold F_X11_deny
  refine x_aload_n hO 0 rfl rfl dX11_deny_0 ?_
  refine x_iload_n hO 1 rfl rfl dX11_deny_1 ?_
  refine x_putI hO fl_RX11_72 hx0 dX11_deny_2 ?_
  refine x_iconst hO (v := 0) (by decide) dX11_deny_5 ?_
  exact x_zretv hO rfl (by decide) dX11_deny_6 (hR _)
theorem ok_X11_deny (G : Gl) (h : Hp) (x0 : Nat) (x1 : Int32) (hx0 : Is x0 11) : CN G mX11_deny [.ref (gb G + x0), .int x1] h ((F_X11_deny h x0 x1).map (emHI)) := CN.fn pn_RX11 (Nat.le_of_ble_eq_true rfl) (fun Γ hG hO => by subst hG; exact go_X11_deny hO h x0 x1 hx0 (fun _ q => q))
noncomputable def F_X11_fault (h : Hp) (x0 : Nat) (x1 : Int32) : Option (Int32) :=
  if x1 = 0 then some (hI h x0 15) else if x1 = ((1 : Int32)) then some (hI h x0 16) else some ((-1 : Int32))
set_option maxHeartbeats 4000000 in
set_option maxRecDepth 100000 in
theorem go_X11_fault {Γ : Cx} (hO : Ok Γ mX11_fault) (h : Hp) (x0 : Nat) (x1 : Int32) (hx0 : Is x0 11) {K : Int32 → Prop} (hR : ∀ r, K r → emPI h r = tgt Γ) : EG Γ mX11_fault 0 [(0, rf Γ x0), (1, .int x1)] [] h (F_X11_fault h x0 x1) K := by
  unfold F_X11_fault
  refine x_iload_n hO 1 rfl rfl dX11_fault_0 ?_
  refine x_if_ne hO (tg := 9) dX11_fault_1 (by decide) ?_ ?_
  · refine x_iload_n hO 1 rfl rfl dX11_fault_9 ?_
    refine x_iconst hO (v := 1) (by decide) dX11_fault_10 ?_
    refine x_icmp_ne hO (tg := 21) dX11_fault_11 (by decide) ?_ ?_
    · refine x_iconst hO (v := -1) (by decide) dX11_fault_21 ?_
      exact x_iret hO rfl dX11_fault_22 (hR _)
    · refine x_aload_n hO 0 rfl rfl dX11_fault_14 ?_
      refine x_getI hO fl_RX11_92 hx0 dX11_fault_15 ?_
      refine x_goto hO (tg := 22) dX11_fault_18 (by decide) ?_
      exact x_iret hO rfl dX11_fault_22 (hR _)
  · refine x_aload_n hO 0 rfl rfl dX11_fault_4 ?_
    refine x_getI hO fl_RX11_89 hx0 dX11_fault_5 ?_
    exact x_iret hO rfl dX11_fault_8 (hR _)
theorem ok_X11_fault (G : Gl) (h : Hp) (x0 : Nat) (x1 : Int32) (hx0 : Is x0 11) : CN G mX11_fault [.ref (gb G + x0), .int x1] h ((F_X11_fault h x0 x1).map (emPI h)) := CN.fn pn_RX11 (Nat.le_of_ble_eq_true rfl) (fun Γ hG hO => by subst hG; exact go_X11_fault hO h x0 x1 hx0 (fun _ q => q))
noncomputable def B_X11_feedInt_3 (h : Hp) (x0 : Nat) (x1 : Int32) (x2 : Int32) : Option ((Hp × Int32) ⊕ (Hp)) :=
  if x2 < 0 then some (.inr h) else if ((500 : Int32)) ≤ (hI h x0 13) then some (.inl (h, x2 + (-8 : Int32))) else gd (ib (hI h x0 13) (LEN (GR x0 1))) (bnd (uI (uI h (GR x0 1) (nx (hI h x0 13)) ((x1 >>> (x2 &&& 31)) &&& ((255 : Int32)))) x0 13 ((hI (uI h (GR x0 1) (nx (hI h x0 13)) ((x1 >>> (x2 &&& 31)) &&& ((255 : Int32)))) x0 13) + ((1 : Int32)))) (fun h1 => some (.inl (h1, x2 + (-8 : Int32)))))
noncomputable def L_X11_feedInt_3 (h : Hp) (x0 : Nat) (x1 : Int32) (x2 : Int32) : Option (Hp) := iterW (fun s : Hp × Int32 => B_X11_feedInt_3 s.1 x0 x1 s.2) (h, x2)
set_option maxHeartbeats 4000000 in
set_option maxRecDepth 100000 in
theorem go_X11_feedInt_B3 {Γ : Cx} (hO : Ok Γ mX11_feedInt) (h : Hp) (x0 : Nat) (x1 : Int32) (x2 : Int32) (hx0 : Is x0 11) {K : (Hp × Int32) ⊕ (Hp) → Prop} (hC : ∀ (h : Hp) (x2 : Int32), K (.inl (h, x2)) → EW Γ mX11_feedInt 3 [(0, rf Γ x0), (1, .int x1), (2, .int x2)] [] h) (hR : ∀ r, K (.inr r) → emHV r = tgt Γ) : EG Γ mX11_feedInt 3 [(0, rf Γ x0), (1, .int x1), (2, .int x2)] [] h (B_X11_feedInt_3 h x0 x1 x2) K := by
  unfold B_X11_feedInt_3
  refine x_iload_n hO 2 rfl rfl dX11_feedInt_3 ?_
  refine x_if_lt hO (tg := 49) dX11_feedInt_4 (by decide) ?_ ?_
  · exact x_vret hO rfl dX11_feedInt_49 (hR _)
  · refine x_aload_n hO 0 rfl rfl dX11_feedInt_7 ?_
    refine x_getI hO fl_RX11_83 hx0 dX11_feedInt_8 ?_
    refine x_sipush hO (v := 500) (by decide) dX11_feedInt_11 ?_
    refine x_icmp_ge hO (tg := 43) dX11_feedInt_14 (by decide) ?_ ?_
    · refine x_iinc hO 2 (v := -8) [(2, .int (x2 + (-8 : Int32))), (0, rf Γ x0), (1, .int x1)] dX11_feedInt_43 rfl (by decide) (by decide) rfl ?_
      refine x_goto hO (tg := 3) dX11_feedInt_46 (by decide) ?_
      exact x_leafs [1, 2, 0] rfl (hC h (x2 + (-8 : Int32)))
    · refine x_aload_n hO 0 rfl rfl dX11_feedInt_17 ?_
      refine x_getR hO fl_RX11_15 hx0 dX11_feedInt_18 ?_
      refine x_aload_n hO 0 rfl rfl dX11_feedInt_21 ?_
      refine x_getI hO fl_RX11_83 hx0 dX11_feedInt_22 ?_
      refine x_iload_n hO 1 rfl rfl dX11_feedInt_25 ?_
      refine x_iload_n hO 2 rfl rfl dX11_feedInt_26 ?_
      refine x_ishr hO dX11_feedInt_27 ?_
      refine x_sipush hO (v := 255) (by decide) dX11_feedInt_28 ?_
      refine x_iand hO dX11_feedInt_31 ?_
      refine x_iast hO (gr_11_1 hx0) dX11_feedInt_32 ?_
      refine x_aload_n hO 0 rfl rfl dX11_feedInt_33 ?_
      refine x_dup_r hO dX11_feedInt_34 ?_
      refine x_getI hO fl_RX11_83 hx0 dX11_feedInt_35 ?_
      refine x_iconst hO (v := 1) (by decide) dX11_feedInt_38 ?_
      refine x_iadd hO dX11_feedInt_39 ?_
      refine x_putI hO fl_RX11_83 hx0 dX11_feedInt_40 ?_
      refine x_bnd ?_
      generalize uI (uI h (GR x0 1) (nx (hI h x0 13)) ((x1 >>> (x2 &&& 31)) &&& ((255 : Int32)))) x0 13 ((hI (uI h (GR x0 1) (nx (hI h x0 13)) ((x1 >>> (x2 &&& 31)) &&& ((255 : Int32)))) x0 13) + ((1 : Int32))) = h1
      refine x_iinc hO 2 (v := -8) [(2, .int (x2 + (-8 : Int32))), (0, rf Γ x0), (1, .int x1)] dX11_feedInt_43 rfl (by decide) (by decide) rfl ?_
      refine x_goto hO (tg := 3) dX11_feedInt_46 (by decide) ?_
      exact x_leafs [1, 2, 0] rfl (hC h1 (x2 + (-8 : Int32)))
set_option maxHeartbeats 4000000 in
set_option maxRecDepth 100000 in
theorem go_X11_feedInt_L3 {Γ : Cx} (hO : Ok Γ mX11_feedInt) (h : Hp) (x0 : Nat) (x1 : Int32) (x2 : Int32) (hx0 : Is x0 11) {K : Hp → Prop} (hR : ∀ r, K (r) → emHV r = tgt Γ) : EG Γ mX11_feedInt 3 [(0, rf Γ x0), (1, .int x1), (2, .int x2)] [] h (L_X11_feedInt_3 h x0 x1 x2) K := by
  have q := x_loop (Γ := Γ) (M := mX11_feedInt) (pc := 3) (B := fun s : Hp × Int32 => B_X11_feedInt_3 s.1 x0 x1 s.2) (lvf := fun s => [(0, rf Γ x0), (1, .int x1), (2, .int s.2)]) (hf := fun s => s.1) (Ky := K) (fun s => go_X11_feedInt_B3 hO s.1 x0 x1 s.2 hx0 (fun _ _ => id) hR) (h, x2)
  exact q
noncomputable def F_X11_feedInt (h : Hp) (x0 : Nat) (x1 : Int32) : Option (Hp) :=
  L_X11_feedInt_3 h x0 x1 ((24 : Int32))
set_option maxHeartbeats 4000000 in
set_option maxRecDepth 100000 in
theorem go_X11_feedInt {Γ : Cx} (hO : Ok Γ mX11_feedInt) (h : Hp) (x0 : Nat) (x1 : Int32) (hx0 : Is x0 11) {K : Hp → Prop} (hR : ∀ r, K r → emHV r = tgt Γ) : EG Γ mX11_feedInt 0 [(0, rf Γ x0), (1, .int x1)] [] h (F_X11_feedInt h x0 x1) K := by
  unfold F_X11_feedInt
  refine x_bipush hO (v := 24) (by decide) dX11_feedInt_0 ?_
  refine x_istore_n hO rfl [(2, .int ((24 : Int32))), (0, rf Γ x0), (1, .int x1)] dX11_feedInt_2 (by decide) rfl ?_
  exact x_sub [1, 2, 0] rfl (go_X11_feedInt_L3 hO h x0 x1 ((24 : Int32)) hx0 hR)
theorem ok_X11_feedInt (G : Gl) (h : Hp) (x0 : Nat) (x1 : Int32) (hx0 : Is x0 11) : CN G mX11_feedInt [.ref (gb G + x0), .int x1] h ((F_X11_feedInt h x0 x1).map (emHV)) := CN.fn pn_RX11 (Nat.le_of_ble_eq_true rfl) (fun Γ hG hO => by subst hG; exact go_X11_feedInt hO h x0 x1 hx0 (fun _ q => q))
noncomputable def F_X11_isColumn (h : Hp) (x0 : Int32) : Option (Int32) :=
  if x0 < 0 then some ((0 : Int32)) else if ((8 : Int32)) ≤ x0 then some ((0 : Int32)) else some ((1 : Int32))
set_option maxHeartbeats 4000000 in
set_option maxRecDepth 100000 in
theorem go_X11_isColumn {Γ : Cx} (hO : Ok Γ mX11_isColumn) (h : Hp) (x0 : Int32) {K : Int32 → Prop} (hR : ∀ r, K r → emPI h r = tgt Γ) : EG Γ mX11_isColumn 0 [(0, .int x0)] [] h (F_X11_isColumn h x0) K := by
  unfold F_X11_isColumn
  refine x_iload_n hO 0 rfl rfl dX11_isColumn_0 ?_
  refine x_if_lt hO (tg := 14) dX11_isColumn_1 (by decide) ?_ ?_
  · refine x_iconst hO (v := 0) (by decide) dX11_isColumn_14 ?_
    exact x_zretv hO rfl (by decide) dX11_isColumn_15 (hR _)
  · refine x_iload_n hO 0 rfl rfl dX11_isColumn_4 ?_
    refine x_bipush hO (v := 8) (by decide) dX11_isColumn_5 ?_
    refine x_icmp_ge hO (tg := 14) dX11_isColumn_7 (by decide) ?_ ?_
    · refine x_iconst hO (v := 0) (by decide) dX11_isColumn_14 ?_
      exact x_zretv hO rfl (by decide) dX11_isColumn_15 (hR _)
    · refine x_iconst hO (v := 1) (by decide) dX11_isColumn_10 ?_
      refine x_goto hO (tg := 15) dX11_isColumn_11 (by decide) ?_
      exact x_zretv hO rfl (by decide) dX11_isColumn_15 (hR _)
theorem ok_X11_isColumn (G : Gl) (h : Hp) (x0 : Int32) : CN G mX11_isColumn [.int x0] h ((F_X11_isColumn h x0).map (emPI h)) := CN.fn pn_RX11 (Nat.le_of_ble_eq_true rfl) (fun Γ hG hO => by subst hG; exact go_X11_isColumn hO h x0 (fun _ q => q))
noncomputable def F_X11_isReading (h : Hp) (x0 : Int32) : Option (Int32) :=
  if x0 < 0 then some ((0 : Int32)) else if ((12 : Int32)) ≤ x0 then some ((0 : Int32)) else some ((1 : Int32))
set_option maxHeartbeats 4000000 in
set_option maxRecDepth 100000 in
theorem go_X11_isReading {Γ : Cx} (hO : Ok Γ mX11_isReading) (h : Hp) (x0 : Int32) {K : Int32 → Prop} (hR : ∀ r, K r → emPI h r = tgt Γ) : EG Γ mX11_isReading 0 [(0, .int x0)] [] h (F_X11_isReading h x0) K := by
  unfold F_X11_isReading
  refine x_iload_n hO 0 rfl rfl dX11_isReading_0 ?_
  refine x_if_lt hO (tg := 14) dX11_isReading_1 (by decide) ?_ ?_
  · refine x_iconst hO (v := 0) (by decide) dX11_isReading_14 ?_
    exact x_zretv hO rfl (by decide) dX11_isReading_15 (hR _)
  · refine x_iload_n hO 0 rfl rfl dX11_isReading_4 ?_
    refine x_bipush hO (v := 12) (by decide) dX11_isReading_5 ?_
    refine x_icmp_ge hO (tg := 14) dX11_isReading_7 (by decide) ?_ ?_
    · refine x_iconst hO (v := 0) (by decide) dX11_isReading_14 ?_
      exact x_zretv hO rfl (by decide) dX11_isReading_15 (hR _)
    · refine x_iconst hO (v := 1) (by decide) dX11_isReading_10 ?_
      refine x_goto hO (tg := 15) dX11_isReading_11 (by decide) ?_
      exact x_zretv hO rfl (by decide) dX11_isReading_15 (hR _)
theorem ok_X11_isReading (G : Gl) (h : Hp) (x0 : Int32) : CN G mX11_isReading [.int x0] h ((F_X11_isReading h x0).map (emPI h)) := CN.fn pn_RX11 (Nat.le_of_ble_eq_true rfl) (fun Γ hG hO => by subst hG; exact go_X11_isReading hO h x0 (fun _ q => q))
noncomputable def F_X11_isTray (h : Hp) (x0 : Int32) : Option (Int32) :=
  if x0 < 0 then some ((0 : Int32)) else if ((4 : Int32)) ≤ x0 then some ((0 : Int32)) else some ((1 : Int32))
set_option maxHeartbeats 4000000 in
set_option maxRecDepth 100000 in
theorem go_X11_isTray {Γ : Cx} (hO : Ok Γ mX11_isTray) (h : Hp) (x0 : Int32) {K : Int32 → Prop} (hR : ∀ r, K r → emPI h r = tgt Γ) : EG Γ mX11_isTray 0 [(0, .int x0)] [] h (F_X11_isTray h x0) K := by
  unfold F_X11_isTray
  refine x_iload_n hO 0 rfl rfl dX11_isTray_0 ?_
  refine x_if_lt hO (tg := 13) dX11_isTray_1 (by decide) ?_ ?_
  · refine x_iconst hO (v := 0) (by decide) dX11_isTray_13 ?_
    exact x_zretv hO rfl (by decide) dX11_isTray_14 (hR _)
  · refine x_iload_n hO 0 rfl rfl dX11_isTray_4 ?_
    refine x_iconst hO (v := 4) (by decide) dX11_isTray_5 ?_
    refine x_icmp_ge hO (tg := 13) dX11_isTray_6 (by decide) ?_ ?_
    · refine x_iconst hO (v := 0) (by decide) dX11_isTray_13 ?_
      exact x_zretv hO rfl (by decide) dX11_isTray_14 (hR _)
    · refine x_iconst hO (v := 1) (by decide) dX11_isTray_9 ?_
      refine x_goto hO (tg := 14) dX11_isTray_10 (by decide) ?_
      exact x_zretv hO rfl (by decide) dX11_isTray_14 (hR _)
theorem ok_X11_isTray (G : Gl) (h : Hp) (x0 : Int32) : CN G mX11_isTray [.int x0] h ((F_X11_isTray h x0).map (emPI h)) := CN.fn pn_RX11 (Nat.le_of_ble_eq_true rfl) (fun Γ hG hO => by subst hG; exact go_X11_isTray hO h x0 (fun _ q => q))
noncomputable def F_X11_isWheel (h : Hp) (x0 : Int32) : Option (Int32) :=
  if x0 < ((1 : Int32)) then some ((0 : Int32)) else if ((9 : Int32)) < x0 then some ((0 : Int32)) else some ((1 : Int32))
set_option maxHeartbeats 4000000 in
set_option maxRecDepth 100000 in
theorem go_X11_isWheel {Γ : Cx} (hO : Ok Γ mX11_isWheel) (h : Hp) (x0 : Int32) {K : Int32 → Prop} (hR : ∀ r, K r → emPI h r = tgt Γ) : EG Γ mX11_isWheel 0 [(0, .int x0)] [] h (F_X11_isWheel h x0) K := by
  unfold F_X11_isWheel
  refine x_iload_n hO 0 rfl rfl dX11_isWheel_0 ?_
  refine x_iconst hO (v := 1) (by decide) dX11_isWheel_1 ?_
  refine x_icmp_lt hO (tg := 15) dX11_isWheel_2 (by decide) ?_ ?_
  · refine x_iconst hO (v := 0) (by decide) dX11_isWheel_15 ?_
    exact x_zretv hO rfl (by decide) dX11_isWheel_16 (hR _)
  · refine x_iload_n hO 0 rfl rfl dX11_isWheel_5 ?_
    refine x_bipush hO (v := 9) (by decide) dX11_isWheel_6 ?_
    refine x_icmp_gt hO (tg := 15) dX11_isWheel_8 (by decide) ?_ ?_
    · refine x_iconst hO (v := 0) (by decide) dX11_isWheel_15 ?_
      exact x_zretv hO rfl (by decide) dX11_isWheel_16 (hR _)
    · refine x_iconst hO (v := 1) (by decide) dX11_isWheel_11 ?_
      refine x_goto hO (tg := 16) dX11_isWheel_12 (by decide) ?_
      exact x_zretv hO rfl (by decide) dX11_isWheel_16 (hR _)
theorem ok_X11_isWheel (G : Gl) (h : Hp) (x0 : Int32) : CN G mX11_isWheel [.int x0] h ((F_X11_isWheel h x0).map (emPI h)) := CN.fn pn_RX11 (Nat.le_of_ble_eq_true rfl) (fun Γ hG hO => by subst hG; exact go_X11_isWheel hO h x0 (fun _ q => q))
noncomputable def F_X11_keepFault (h : Hp) (x0 : Nat) (x1 : Nat) : Option (Hp) :=
  some (uI (uI h x0 15 (hI h x1 5)) x0 16 (hI (uI h x0 15 (hI h x1 5)) x1 6))
set_option maxHeartbeats 4000000 in
set_option maxRecDepth 100000 in
theorem go_X11_keepFault {Γ : Cx} (hO : Ok Γ mX11_keepFault) (h : Hp) (x0 : Nat) (x1 : Nat) (hx0 : Is x0 11) (hx1 : Is x1 7) {K : Hp → Prop} (hR : ∀ r, K r → emHV r = tgt Γ) : EG Γ mX11_keepFault 0 [(0, rf Γ x0), (1, rf Γ x1)] [] h (F_X11_keepFault h x0 x1) K := by
  unfold F_X11_keepFault
  refine x_aload_n hO 0 rfl rfl dX11_keepFault_0 ?_
  refine x_aload_n hO 1 rfl rfl dX11_keepFault_1 ?_
  refine x_getI hO fl_RX11_401 hx1 dX11_keepFault_2 ?_
  refine x_putI hO fl_RX11_89 hx0 dX11_keepFault_5 ?_
  refine x_aload_n hO 0 rfl rfl dX11_keepFault_8 ?_
  refine x_aload_n hO 1 rfl rfl dX11_keepFault_9 ?_
  refine x_getI hO fl_RX11_406 hx1 dX11_keepFault_10 ?_
  refine x_putI hO fl_RX11_92 hx0 dX11_keepFault_13 ?_
  exact x_vret hO rfl dX11_keepFault_16 (hR _)
theorem ok_X11_keepFault (G : Gl) (h : Hp) (x0 : Nat) (x1 : Nat) (hx0 : Is x0 11) (hx1 : Is x1 7) : CN G mX11_keepFault [.ref (gb G + x0), .ref (gb G + x1)] h ((F_X11_keepFault h x0 x1).map (emHV)) := CN.fn pn_RX11 (Nat.le_of_ble_eq_true rfl) (fun Γ hG hO => by subst hG; exact go_X11_keepFault hO h x0 x1 hx0 hx1 (fun _ q => q))
noncomputable def F_X11_refuse (h : Hp) (x0 : Nat) (x1 : Int32) : Option (Hp × Int32) :=
  some ((uI h x0 10 x1, (-1 : Int32)))
set_option maxHeartbeats 4000000 in
set_option maxRecDepth 100000 in
theorem go_X11_refuse {Γ : Cx} (hO : Ok Γ mX11_refuse) (h : Hp) (x0 : Nat) (x1 : Int32) (hx0 : Is x0 11) {K : Hp × Int32 → Prop} (hR : ∀ r, K r → emHI r = tgt Γ) : EG Γ mX11_refuse 0 [(0, rf Γ x0), (1, .int x1)] [] h (F_X11_refuse h x0 x1) K := by
  unfold F_X11_refuse
  refine x_aload_n hO 0 rfl rfl dX11_refuse_0 ?_
  refine x_iload_n hO 1 rfl rfl dX11_refuse_1 ?_
  refine x_putI hO fl_RX11_72 hx0 dX11_refuse_2 ?_
  refine x_iconst hO (v := -1) (by decide) dX11_refuse_5 ?_
  exact x_iret hO rfl dX11_refuse_6 (hR _)
theorem ok_X11_refuse (G : Gl) (h : Hp) (x0 : Nat) (x1 : Int32) (hx0 : Is x0 11) : CN G mX11_refuse [.ref (gb G + x0), .int x1] h ((F_X11_refuse h x0 x1).map (emHI)) := CN.fn pn_RX11 (Nat.le_of_ble_eq_true rfl) (fun Γ hG hO => by subst hG; exact go_X11_refuse hO h x0 x1 hx0 (fun _ q => q))
noncomputable def F_X11_rowStatus (h : Hp) (x0 : Nat) (x1 : Int32) (x2 : Int32) : Option (Int32) :=
  gd (ib x1 (LEN (GR x0 0))) (if (hI h (GR (GR x0 0) (nx x1)) 0) = 0 then gd (ib x1 (LEN (GR x0 0))) (if x2 ≤ (hI h (GR (GR x0 0) (nx x1)) 2) then some ((0 : Int32)) else some ((3 : Int32))) else some ((2 : Int32)))
set_option maxHeartbeats 4000000 in
set_option maxRecDepth 100000 in
theorem go_X11_rowStatus {Γ : Cx} (hO : Ok Γ mX11_rowStatus) (h : Hp) (x0 : Nat) (x1 : Int32) (x2 : Int32) (hx0 : Is x0 11) {K : Int32 → Prop} (hR : ∀ r, K r → emPI h r = tgt Γ) : EG Γ mX11_rowStatus 0 [(0, rf Γ x0), (1, .int x1), (2, .int x2)] [] h (F_X11_rowStatus h x0 x1 x2) K := by
  unfold F_X11_rowStatus
  refine x_aload_n hO 0 rfl rfl dX11_rowStatus_0 ?_
  refine x_getR hO fl_RX11_11 hx0 dX11_rowStatus_1 ?_
  refine x_iload_n hO 1 rfl rfl dX11_rowStatus_4 ?_
  refine x_aaldT hO (gr_11_0 hx0) dX11_rowStatus_5 (fun q1 => ?_)
  refine x_getI hO fl_RX11_127 q1 dX11_rowStatus_6 ?_
  refine x_if_eq hO (tg := 14) dX11_rowStatus_9 (by decide) ?_ ?_
  · refine x_aload_n hO 0 rfl rfl dX11_rowStatus_14 ?_
    refine x_getR hO fl_RX11_11 hx0 dX11_rowStatus_15 ?_
    refine x_iload_n hO 1 rfl rfl dX11_rowStatus_18 ?_
    refine x_aaldT hO (gr_11_0 hx0) dX11_rowStatus_19 (fun q2 => ?_)
    refine x_getI hO fl_RX11_398 q2 dX11_rowStatus_20 ?_
    refine x_iload_n hO 2 rfl rfl dX11_rowStatus_23 ?_
    refine x_icmp_ge hO (tg := 31) dX11_rowStatus_24 (by decide) ?_ ?_
    · refine x_iconst hO (v := 0) (by decide) dX11_rowStatus_31 ?_
      exact x_iret hO rfl dX11_rowStatus_32 (hR _)
    · refine x_iconst hO (v := 3) (by decide) dX11_rowStatus_27 ?_
      refine x_goto hO (tg := 32) dX11_rowStatus_28 (by decide) ?_
      exact x_iret hO rfl dX11_rowStatus_32 (hR _)
  · refine x_iconst hO (v := 2) (by decide) dX11_rowStatus_12 ?_
    exact x_iret hO rfl dX11_rowStatus_13 (hR _)
theorem ok_X11_rowStatus (G : Gl) (h : Hp) (x0 : Nat) (x1 : Int32) (x2 : Int32) (hx0 : Is x0 11) : CN G mX11_rowStatus [.ref (gb G + x0), .int x1, .int x2] h ((F_X11_rowStatus h x0 x1 x2).map (emPI h)) := CN.fn pn_RX11 (Nat.le_of_ble_eq_true rfl) (fun Γ hG hO => by subst hG; exact go_X11_rowStatus hO h x0 x1 x2 hx0 (fun _ q => q))
noncomputable def F_X11_status (h : Hp) (x0 : Nat) : Option (Int32) :=
  some (hI h x0 10)
set_option maxHeartbeats 4000000 in
set_option maxRecDepth 100000 in
theorem go_X11_status {Γ : Cx} (hO : Ok Γ mX11_status) (h : Hp) (x0 : Nat) (hx0 : Is x0 11) {K : Int32 → Prop} (hR : ∀ r, K r → emPI h r = tgt Γ) : EG Γ mX11_status 0 [(0, rf Γ x0)] [] h (F_X11_status h x0) K := by
  unfold F_X11_status
  refine x_aload_n hO 0 rfl rfl dX11_status_0 ?_
  refine x_getI hO fl_RX11_72 hx0 dX11_status_1 ?_
  exact x_iret hO rfl dX11_status_4 (hR _)
theorem ok_X11_status (G : Gl) (h : Hp) (x0 : Nat) (hx0 : Is x0 11) : CN G mX11_status [.ref (gb G + x0)] h ((F_X11_status h x0).map (emPI h)) := CN.fn pn_RX11 (Nat.le_of_ble_eq_true rfl) (fun Γ hG hO => by subst hG; exact go_X11_status hO h x0 hx0 (fun _ q => q))
noncomputable def B_X11_tenTo_4 (h : Hp) (x0 : Int32) (x1 : Int32) (x2 : Int32) : Option ((Int32 × Int32) ⊕ (Int32)) :=
  if x0 ≤ x2 then some (.inr x1) else if ((9 : Int32)) ≤ x2 then some (.inr x1) else some (.inl (x1 * ((10 : Int32)), x2 + (1 : Int32)))
noncomputable def L_X11_tenTo_4 (h : Hp) (x0 : Int32) (x1 : Int32) (x2 : Int32) : Option (Int32) := iterW (fun s : Int32 × Int32 => B_X11_tenTo_4 h x0 s.1 s.2) (x1, x2)
set_option maxHeartbeats 4000000 in
set_option maxRecDepth 100000 in
theorem go_X11_tenTo_B4 {Γ : Cx} (hO : Ok Γ mX11_tenTo) (h : Hp) (x0 : Int32) (x1 : Int32) (x2 : Int32) {K : (Int32 × Int32) ⊕ (Int32) → Prop} (hC : ∀ (x1 : Int32) (x2 : Int32), K (.inl (x1, x2)) → EW Γ mX11_tenTo 4 [(0, .int x0), (1, .int x1), (2, .int x2)] [] h) (hR : ∀ r, K (.inr r) → emPI h r = tgt Γ) : EG Γ mX11_tenTo 4 [(0, .int x0), (1, .int x1), (2, .int x2)] [] h (B_X11_tenTo_4 h x0 x1 x2) K := by
  unfold B_X11_tenTo_4
  refine x_iload_n hO 2 rfl rfl dX11_tenTo_4 ?_
  refine x_iload_n hO 0 rfl rfl dX11_tenTo_5 ?_
  refine x_icmp_ge hO (tg := 26) dX11_tenTo_6 (by decide) ?_ ?_
  · refine x_iload_n hO 1 rfl rfl dX11_tenTo_26 ?_
    exact x_iret hO rfl dX11_tenTo_27 (hR _)
  · refine x_iload_n hO 2 rfl rfl dX11_tenTo_9 ?_
    refine x_bipush hO (v := 9) (by decide) dX11_tenTo_10 ?_
    refine x_icmp_ge hO (tg := 26) dX11_tenTo_12 (by decide) ?_ ?_
    · refine x_iload_n hO 1 rfl rfl dX11_tenTo_26 ?_
      exact x_iret hO rfl dX11_tenTo_27 (hR _)
    · refine x_iload_n hO 1 rfl rfl dX11_tenTo_15 ?_
      refine x_bipush hO (v := 10) (by decide) dX11_tenTo_16 ?_
      refine x_imul hO dX11_tenTo_18 ?_
      refine x_istore_n hO rfl [(1, .int (x1 * ((10 : Int32)))), (0, .int x0), (2, .int x2)] dX11_tenTo_19 (by decide) rfl ?_
      refine x_iinc hO 2 (v := 1) [(2, .int (x2 + (1 : Int32))), (1, .int (x1 * ((10 : Int32)))), (0, .int x0)] dX11_tenTo_20 rfl (by decide) (by decide) rfl ?_
      refine x_goto hO (tg := 4) dX11_tenTo_23 (by decide) ?_
      exact x_leafs [2, 1, 0] rfl (hC (x1 * ((10 : Int32))) (x2 + (1 : Int32)))
set_option maxHeartbeats 4000000 in
set_option maxRecDepth 100000 in
theorem go_X11_tenTo_L4 {Γ : Cx} (hO : Ok Γ mX11_tenTo) (h : Hp) (x0 : Int32) (x1 : Int32) (x2 : Int32) {K : Int32 → Prop} (hR : ∀ r, K (r) → emPI h r = tgt Γ) : EG Γ mX11_tenTo 4 [(0, .int x0), (1, .int x1), (2, .int x2)] [] h (L_X11_tenTo_4 h x0 x1 x2) K := by
  have q := x_loop (Γ := Γ) (M := mX11_tenTo) (pc := 4) (B := fun s : Int32 × Int32 => B_X11_tenTo_4 h x0 s.1 s.2) (lvf := fun s => [(0, .int x0), (1, .int s.1), (2, .int s.2)]) (hf := fun s => h) (Ky := K) (fun s => go_X11_tenTo_B4 hO h x0 s.1 s.2 (fun _ _ => id) hR) (x1, x2)
  exact q
noncomputable def F_X11_tenTo (h : Hp) (x0 : Int32) : Option (Int32) :=
  L_X11_tenTo_4 h x0 ((1 : Int32)) ((0 : Int32))
set_option maxHeartbeats 4000000 in
set_option maxRecDepth 100000 in
theorem go_X11_tenTo {Γ : Cx} (hO : Ok Γ mX11_tenTo) (h : Hp) (x0 : Int32) {K : Int32 → Prop} (hR : ∀ r, K r → emPI h r = tgt Γ) : EG Γ mX11_tenTo 0 [(0, .int x0)] [] h (F_X11_tenTo h x0) K := by
  unfold F_X11_tenTo
  refine x_iconst hO (v := 1) (by decide) dX11_tenTo_0 ?_
  refine x_istore_n hO rfl [(1, .int ((1 : Int32))), (0, .int x0)] dX11_tenTo_1 (by decide) rfl ?_
  refine x_iconst hO (v := 0) (by decide) dX11_tenTo_2 ?_
  refine x_istore_n hO rfl [(2, .int ((0 : Int32))), (1, .int ((1 : Int32))), (0, .int x0)] dX11_tenTo_3 (by decide) rfl ?_
  exact x_sub [2, 1, 0] rfl (go_X11_tenTo_L4 hO h x0 ((1 : Int32)) ((0 : Int32)) hR)
theorem ok_X11_tenTo (G : Gl) (h : Hp) (x0 : Int32) : CN G mX11_tenTo [.int x0] h ((F_X11_tenTo h x0).map (emPI h)) := CN.fn pn_RX11 (Nat.le_of_ble_eq_true rfl) (fun Γ hG hO => by subst hG; exact go_X11_tenTo hO h x0 (fun _ q => q))
noncomputable def F_X11_top (h : Hp) (x0 : Nat) : Option (Int64) :=
  some (hL h x0 11)
set_option maxHeartbeats 4000000 in
set_option maxRecDepth 100000 in
theorem go_X11_top {Γ : Cx} (hO : Ok Γ mX11_top) (h : Hp) (x0 : Nat) (hx0 : Is x0 11) {K : Int64 → Prop} (hR : ∀ r, K r → emPL h r = tgt Γ) : EG Γ mX11_top 0 [(0, rf Γ x0)] [] h (F_X11_top h x0) K := by
  unfold F_X11_top
  refine x_aload_n hO 0 rfl rfl dX11_top_0 ?_
  refine x_getL hO fl_RX11_76 hx0 dX11_top_1 ?_
  exact x_lret hO rfl dX11_top_4 (hR _)
theorem ok_X11_top (G : Gl) (h : Hp) (x0 : Nat) (hx0 : Is x0 11) : CN G mX11_top [.ref (gb G + x0)] h ((F_X11_top h x0).map (emPL h)) := CN.fn pn_RX11 (Nat.le_of_ble_eq_true rfl) (fun Γ hG hO => by subst hG; exact go_X11_top hO h x0 hx0 (fun _ q => q))
noncomputable def J_X12_behindEnds_92 (h : Hp) (x0 : Nat) (x2 : Int32) (x3 : Int32) (x4 : Int32) : Option ((Hp × Int32) ⊕ (Hp × Int32)) :=
  if x4 = 0 then some (.inl (h, x2 + ((1 : Int32)))) else some (.inl (h, x3 + ((1 : Int32))))
set_option maxHeartbeats 4000000 in
set_option maxRecDepth 100000 in
theorem go_X12_behindEnds_J92 {Γ : Cx} (hO : Ok Γ mX12_behindEnds) (h : Hp) (x0 : Nat) (x2 : Int32) (x3 : Int32) (x4 : Int32) (hx0 : Is x0 12) {K : (Hp × Int32) ⊕ (Hp × Int32) → Prop} (hC : ∀ (h : Hp) (x2 : Int32), K (.inl (h, x2)) → EW Γ mX12_behindEnds 2 [(0, rf Γ x0), (2, .int x2)] [] h) (hR : ∀ r, K (.inr r) → emHI r = tgt Γ) : EG Γ mX12_behindEnds 92 [(0, rf Γ x0), (2, .int x2), (3, .int x3), (4, .int x4)] [] h (J_X12_behindEnds_92 h x0 x2 x3 x4) K := by
  unfold J_X12_behindEnds_92
  refine x_iload hO 3 rfl dX12_behindEnds_92 ?_
  refine x_if_eq hO (tg := 103) dX12_behindEnds_94 (by decide) ?_ ?_
  · refine x_iload_n hO 1 rfl rfl dX12_behindEnds_103 ?_
    refine x_iconst hO (v := 1) (by decide) dX12_behindEnds_104 ?_
    refine x_iadd hO dX12_behindEnds_105 ?_
    refine x_istore_n hO rfl [(2, .int (x2 + ((1 : Int32)))), (0, rf Γ x0), (3, .int x3), (4, .int x4)] dX12_behindEnds_106 (by decide) rfl ?_
    refine x_goto hO (tg := 2) dX12_behindEnds_107 (by decide) ?_
    exact x_leafs [1, 0] rfl (hC h (x2 + ((1 : Int32))))
  · refine x_iload_n hO 2 rfl rfl dX12_behindEnds_97 ?_
    refine x_iconst hO (v := 1) (by decide) dX12_behindEnds_98 ?_
    refine x_iadd hO dX12_behindEnds_99 ?_
    refine x_goto hO (tg := 106) dX12_behindEnds_100 (by decide) ?_
    refine x_istore_n hO rfl [(2, .int (x3 + ((1 : Int32)))), (0, rf Γ x0), (3, .int x3), (4, .int x4)] dX12_behindEnds_106 (by decide) rfl ?_
    refine x_goto hO (tg := 2) dX12_behindEnds_107 (by decide) ?_
    exact x_leafs [1, 0] rfl (hC h (x3 + ((1 : Int32))))
noncomputable def J_X12_behindEnds_75 (h : Hp) (x0 : Nat) (x2 : Int32) (x3 : Int32) (s0 : Int32) : Option ((Hp × Int32) ⊕ (Hp × Int32)) :=
  if s0 = 0 then J_X12_behindEnds_92 h x0 x2 x3 s0 else gd (ib x3 (LEN (GR x0 21))) (gd (ib x3 (LEN (GR x0 21))) (J_X12_behindEnds_92 (uI h (GR x0 21) (nx x3) ((hI h (GR x0 21) (nx x3)) - ((1 : Int32)))) x0 x2 x3 s0))
set_option maxHeartbeats 4000000 in
set_option maxRecDepth 100000 in
theorem go_X12_behindEnds_J75 {Γ : Cx} (hO : Ok Γ mX12_behindEnds) (h : Hp) (x0 : Nat) (x2 : Int32) (x3 : Int32) (s0 : Int32) (hx0 : Is x0 12) {K : (Hp × Int32) ⊕ (Hp × Int32) → Prop} (hC : ∀ (h : Hp) (x2 : Int32), K (.inl (h, x2)) → EW Γ mX12_behindEnds 2 [(0, rf Γ x0), (2, .int x2)] [] h) (hR : ∀ r, K (.inr r) → emHI r = tgt Γ) : EG Γ mX12_behindEnds 75 [(0, rf Γ x0), (2, .int x2), (3, .int x3)] [.int s0] h (J_X12_behindEnds_75 h x0 x2 x3 s0) K := by
  unfold J_X12_behindEnds_75
  refine x_istore hO [(4, .int s0), (0, rf Γ x0), (2, .int x2), (3, .int x3)] dX12_behindEnds_75 (by decide) rfl ?_
  refine x_iload hO 0 rfl dX12_behindEnds_77 ?_
  refine x_if_eq hO (tg := 92) dX12_behindEnds_79 (by decide) ?_ ?_
  · exact x_sub [1, 2, 3, 0] rfl (go_X12_behindEnds_J92 hO h x0 x2 x3 s0 hx0 hC hR)
  · refine x_aload_n hO 1 rfl rfl dX12_behindEnds_82 ?_
    refine x_getR hO fl_RX12_50 hx0 dX12_behindEnds_83 ?_
    refine x_iload_n hO 3 rfl rfl dX12_behindEnds_86 ?_
    refine x_dup2_ri hO dX12_behindEnds_87 ?_
    refine x_iald hO (gr_12_21 hx0) dX12_behindEnds_88 ?_
    refine x_iconst hO (v := 1) (by decide) dX12_behindEnds_89 ?_
    refine x_isub hO dX12_behindEnds_90 ?_
    refine x_iast hO (gr_12_21 hx0) dX12_behindEnds_91 ?_
    exact x_sub [1, 2, 3, 0] rfl (go_X12_behindEnds_J92 hO (uI h (GR x0 21) (nx x3) ((hI h (GR x0 21) (nx x3)) - ((1 : Int32)))) x0 x2 x3 s0 hx0 hC hR)
noncomputable def J_X12_behindEnds_74 (h : Hp) (x0 : Nat) (x2 : Int32) (x3 : Int32) : Option ((Hp × Int32) ⊕ (Hp × Int32)) :=
  J_X12_behindEnds_75 h x0 x2 x3 ((0 : Int32))
set_option maxHeartbeats 4000000 in
set_option maxRecDepth 100000 in
theorem go_X12_behindEnds_J74 {Γ : Cx} (hO : Ok Γ mX12_behindEnds) (h : Hp) (x0 : Nat) (x2 : Int32) (x3 : Int32) (hx0 : Is x0 12) {K : (Hp × Int32) ⊕ (Hp × Int32) → Prop} (hC : ∀ (h : Hp) (x2 : Int32), K (.inl (h, x2)) → EW Γ mX12_behindEnds 2 [(0, rf Γ x0), (2, .int x2)] [] h) (hR : ∀ r, K (.inr r) → emHI r = tgt Γ) : EG Γ mX12_behindEnds 74 [(0, rf Γ x0), (2, .int x2), (3, .int x3)] [] h (J_X12_behindEnds_74 h x0 x2 x3) K := by
  unfold J_X12_behindEnds_74
  refine x_iconst hO (v := 0) (by decide) dX12_behindEnds_74 ?_
  exact x_sub [0, 1, 2] rfl (go_X12_behindEnds_J75 hO h x0 x2 x3 ((0 : Int32)) hx0 hC hR)
noncomputable def B_X12_behindEnds_2 (h : Hp) (x0 : Nat) (x2 : Int32) : Option ((Hp × Int32) ⊕ (Hp × Int32)) :=
  gd (ib ((5 : Int32)) (LEN (GR x0 0))) (if (hI h (GR x0 0) (nx ((5 : Int32)))) ≤ x2 then some (.inr ((h, x2))) else gd (ib (((436 : Int32)) + (((4 : Int32)) * x2)) (LEN (GR x0 0))) (if (hI h (GR x0 0) (nx (((436 : Int32)) + (((4 : Int32)) * x2)))) = ((7 : Int32)) then gd (ib ((((436 : Int32)) + (((4 : Int32)) * x2)) + ((3 : Int32))) (LEN (GR x0 0))) (bnd (hI h (GR x0 0) (nx ((((436 : Int32)) + (((4 : Int32)) * x2)) + ((3 : Int32))))) (fun v1 => gd (ib (((436 : Int32)) + (((4 : Int32)) * v1)) (LEN (GR x0 0))) (if (hI h (GR x0 0) (nx (((436 : Int32)) + (((4 : Int32)) * v1)))) = ((5 : Int32)) then gd (ib v1 (LEN (GR x0 21))) (if (hI h (GR x0 21) (nx v1)) ≤ ((1 : Int32)) then J_X12_behindEnds_74 h x0 x2 v1 else J_X12_behindEnds_75 h x0 x2 v1 ((1 : Int32))) else J_X12_behindEnds_74 h x0 x2 v1))) else some (.inr ((h, x2)))))
noncomputable def L_X12_behindEnds_2 (h : Hp) (x0 : Nat) (x2 : Int32) : Option (Hp × Int32) := iterW (fun s : Hp × Int32 => B_X12_behindEnds_2 s.1 x0 s.2) (h, x2)
set_option maxHeartbeats 4000000 in
set_option maxRecDepth 100000 in
theorem go_X12_behindEnds_B2 {Γ : Cx} (hO : Ok Γ mX12_behindEnds) (h : Hp) (x0 : Nat) (x2 : Int32) (hx0 : Is x0 12) {K : (Hp × Int32) ⊕ (Hp × Int32) → Prop} (hC : ∀ (h : Hp) (x2 : Int32), K (.inl (h, x2)) → EW Γ mX12_behindEnds 2 [(0, rf Γ x0), (2, .int x2)] [] h) (hR : ∀ r, K (.inr r) → emHI r = tgt Γ) : EG Γ mX12_behindEnds 2 [(0, rf Γ x0), (2, .int x2)] [] h (B_X12_behindEnds_2 h x0 x2) K := by
  unfold B_X12_behindEnds_2
  refine x_iload_n hO 1 rfl rfl dX12_behindEnds_2 ?_
  refine x_aload_n hO 0 rfl rfl dX12_behindEnds_3 ?_
  refine x_getR hO fl_RX12_7 hx0 dX12_behindEnds_4 ?_
  refine x_iconst hO (v := 5) (by decide) dX12_behindEnds_7 ?_
  refine x_iald hO (gr_12_0 hx0) dX12_behindEnds_8 ?_
  refine x_icmp_ge hO (tg := 110) dX12_behindEnds_9 (by decide) ?_ ?_
  · refine x_iload_n hO 1 rfl rfl dX12_behindEnds_110 ?_
    exact x_iret hO rfl dX12_behindEnds_111 (hR _)
  · refine x_aload_n hO 0 rfl rfl dX12_behindEnds_12 ?_
    refine x_getR hO fl_RX12_7 hx0 dX12_behindEnds_13 ?_
    refine x_sipush hO (v := 436) (by decide) dX12_behindEnds_16 ?_
    refine x_iconst hO (v := 4) (by decide) dX12_behindEnds_19 ?_
    refine x_iload_n hO 1 rfl rfl dX12_behindEnds_20 ?_
    refine x_imul hO dX12_behindEnds_21 ?_
    refine x_iadd hO dX12_behindEnds_22 ?_
    refine x_iald hO (gr_12_0 hx0) dX12_behindEnds_23 ?_
    refine x_bipush hO (v := 7) (by decide) dX12_behindEnds_24 ?_
    refine x_icmp_ne hO (tg := 110) dX12_behindEnds_26 (by decide) ?_ ?_
    · refine x_iload_n hO 1 rfl rfl dX12_behindEnds_110 ?_
      exact x_iret hO rfl dX12_behindEnds_111 (hR _)
    · refine x_aload_n hO 0 rfl rfl dX12_behindEnds_29 ?_
      refine x_getR hO fl_RX12_7 hx0 dX12_behindEnds_30 ?_
      refine x_sipush hO (v := 436) (by decide) dX12_behindEnds_33 ?_
      refine x_iconst hO (v := 4) (by decide) dX12_behindEnds_36 ?_
      refine x_iload_n hO 1 rfl rfl dX12_behindEnds_37 ?_
      refine x_imul hO dX12_behindEnds_38 ?_
      refine x_iadd hO dX12_behindEnds_39 ?_
      refine x_iconst hO (v := 3) (by decide) dX12_behindEnds_40 ?_
      refine x_iadd hO dX12_behindEnds_41 ?_
      refine x_iald hO (gr_12_0 hx0) dX12_behindEnds_42 ?_
      refine x_bnd ?_
      generalize hI h (GR x0 0) (nx ((((436 : Int32)) + (((4 : Int32)) * x2)) + ((3 : Int32)))) = v1
      refine x_istore_n hO rfl [(3, .int v1), (0, rf Γ x0), (2, .int x2)] dX12_behindEnds_43 (by decide) rfl ?_
      refine x_aload_n hO 1 rfl rfl dX12_behindEnds_44 ?_
      refine x_getR hO fl_RX12_7 hx0 dX12_behindEnds_45 ?_
      refine x_sipush hO (v := 436) (by decide) dX12_behindEnds_48 ?_
      refine x_iconst hO (v := 4) (by decide) dX12_behindEnds_51 ?_
      refine x_iload_n hO 0 rfl rfl dX12_behindEnds_52 ?_
      refine x_imul hO dX12_behindEnds_53 ?_
      refine x_iadd hO dX12_behindEnds_54 ?_
      refine x_iald hO (gr_12_0 hx0) dX12_behindEnds_55 ?_
      refine x_iconst hO (v := 5) (by decide) dX12_behindEnds_56 ?_
      refine x_icmp_ne hO (tg := 74) dX12_behindEnds_57 (by decide) ?_ ?_
      · exact x_sub [1, 2, 0] rfl (go_X12_behindEnds_J74 hO h x0 x2 v1 hx0 hC hR)
      · refine x_aload_n hO 1 rfl rfl dX12_behindEnds_60 ?_
        refine x_getR hO fl_RX12_50 hx0 dX12_behindEnds_61 ?_
        refine x_iload_n hO 0 rfl rfl dX12_behindEnds_64 ?_
        refine x_iald hO (gr_12_21 hx0) dX12_behindEnds_65 ?_
        refine x_iconst hO (v := 1) (by decide) dX12_behindEnds_66 ?_
        refine x_icmp_le hO (tg := 74) dX12_behindEnds_67 (by decide) ?_ ?_
        · exact x_sub [1, 2, 0] rfl (go_X12_behindEnds_J74 hO h x0 x2 v1 hx0 hC hR)
        · refine x_iconst hO (v := 1) (by decide) dX12_behindEnds_70 ?_
          refine x_goto hO (tg := 75) dX12_behindEnds_71 (by decide) ?_
          exact x_sub [1, 2, 0] rfl (go_X12_behindEnds_J75 hO h x0 x2 v1 ((1 : Int32)) hx0 hC hR)
set_option maxHeartbeats 4000000 in
set_option maxRecDepth 100000 in
theorem go_X12_behindEnds_L2 {Γ : Cx} (hO : Ok Γ mX12_behindEnds) (h : Hp) (x0 : Nat) (x2 : Int32) (hx0 : Is x0 12) {K : Hp × Int32 → Prop} (hR : ∀ r, K (r) → emHI r = tgt Γ) : EG Γ mX12_behindEnds 2 [(0, rf Γ x0), (2, .int x2)] [] h (L_X12_behindEnds_2 h x0 x2) K := by
  have q := x_loop (Γ := Γ) (M := mX12_behindEnds) (pc := 2) (B := fun s : Hp × Int32 => B_X12_behindEnds_2 s.1 x0 s.2) (lvf := fun s => [(0, rf Γ x0), (2, .int s.2)]) (hf := fun s => s.1) (Ky := K) (fun s => go_X12_behindEnds_B2 hO s.1 x0 s.2 hx0 (fun _ _ => id) hR) (h, x2)
  exact q
noncomputable def F_X12_behindEnds (h : Hp) (x0 : Nat) (x1 : Int32) : Option (Hp × Int32) :=
  L_X12_behindEnds_2 h x0 x1
set_option maxHeartbeats 4000000 in
set_option maxRecDepth 100000 in
theorem go_X12_behindEnds {Γ : Cx} (hO : Ok Γ mX12_behindEnds) (h : Hp) (x0 : Nat) (x1 : Int32) (hx0 : Is x0 12) {K : Hp × Int32 → Prop} (hR : ∀ r, K r → emHI r = tgt Γ) : EG Γ mX12_behindEnds 0 [(0, rf Γ x0), (1, .int x1)] [] h (F_X12_behindEnds h x0 x1) K := by
  unfold F_X12_behindEnds
  refine x_iload_n hO 1 rfl rfl dX12_behindEnds_0 ?_
  refine x_istore_n hO rfl [(2, .int x1), (0, rf Γ x0), (1, .int x1)] dX12_behindEnds_1 (by decide) rfl ?_
  exact x_sub [1, 0] rfl (go_X12_behindEnds_L2 hO h x0 x1 hx0 hR)
theorem ok_X12_behindEnds (G : Gl) (h : Hp) (x0 : Nat) (x1 : Int32) (hx0 : Is x0 12) : CN G mX12_behindEnds [.ref (gb G + x0), .int x1] h ((F_X12_behindEnds h x0 x1).map (emHI)) := CN.fn pn_RX12 (Nat.le_of_ble_eq_true rfl) (fun Γ hG hO => by subst hG; exact go_X12_behindEnds hO h x0 x1 hx0 (fun _ q => q))
noncomputable def B_X12_bits_4 (h : Hp) (x1 : Int32) (x2 : Int32) : Option ((Int32 × Int32) ⊕ (Int32)) :=
  if x2 = 0 then some (.inr x1) else some (.inl (x1 + (1 : Int32), x2 &&& (x2 - ((1 : Int32)))))
noncomputable def L_X12_bits_4 (h : Hp) (x1 : Int32) (x2 : Int32) : Option (Int32) := iterW (fun s : Int32 × Int32 => B_X12_bits_4 h s.1 s.2) (x1, x2)
set_option maxHeartbeats 4000000 in
set_option maxRecDepth 100000 in
theorem go_X12_bits_B4 {Γ : Cx} (hO : Ok Γ mX12_bits) (h : Hp) (x1 : Int32) (x2 : Int32) {K : (Int32 × Int32) ⊕ (Int32) → Prop} (hC : ∀ (x1 : Int32) (x2 : Int32), K (.inl (x1, x2)) → EW Γ mX12_bits 4 [(1, .int x1), (2, .int x2)] [] h) (hR : ∀ r, K (.inr r) → emPI h r = tgt Γ) : EG Γ mX12_bits 4 [(1, .int x1), (2, .int x2)] [] h (B_X12_bits_4 h x1 x2) K := by
  unfold B_X12_bits_4
  refine x_iload_n hO 1 rfl rfl dX12_bits_4 ?_
  refine x_if_eq hO (tg := 20) dX12_bits_5 (by decide) ?_ ?_
  · refine x_iload_n hO 0 rfl rfl dX12_bits_20 ?_
    exact x_iret hO rfl dX12_bits_21 (hR _)
  · refine x_iinc hO 0 (v := 1) [(1, .int (x1 + (1 : Int32))), (2, .int x2)] dX12_bits_8 rfl (by decide) (by decide) rfl ?_
    refine x_iload_n hO 1 rfl rfl dX12_bits_11 ?_
    refine x_iload_n hO 1 rfl rfl dX12_bits_12 ?_
    refine x_iconst hO (v := 1) (by decide) dX12_bits_13 ?_
    refine x_isub hO dX12_bits_14 ?_
    refine x_iand hO dX12_bits_15 ?_
    refine x_istore_n hO rfl [(2, .int (x2 &&& (x2 - ((1 : Int32))))), (1, .int (x1 + (1 : Int32)))] dX12_bits_16 (by decide) rfl ?_
    refine x_goto hO (tg := 4) dX12_bits_17 (by decide) ?_
    exact x_leafs [1, 0] rfl (hC (x1 + (1 : Int32)) (x2 &&& (x2 - ((1 : Int32)))))
set_option maxHeartbeats 4000000 in
set_option maxRecDepth 100000 in
theorem go_X12_bits_L4 {Γ : Cx} (hO : Ok Γ mX12_bits) (h : Hp) (x1 : Int32) (x2 : Int32) {K : Int32 → Prop} (hR : ∀ r, K (r) → emPI h r = tgt Γ) : EG Γ mX12_bits 4 [(1, .int x1), (2, .int x2)] [] h (L_X12_bits_4 h x1 x2) K := by
  have q := x_loop (Γ := Γ) (M := mX12_bits) (pc := 4) (B := fun s : Int32 × Int32 => B_X12_bits_4 h s.1 s.2) (lvf := fun s => [(1, .int s.1), (2, .int s.2)]) (hf := fun s => h) (Ky := K) (fun s => go_X12_bits_B4 hO h s.1 s.2 (fun _ _ => id) hR) (x1, x2)
  exact q
noncomputable def F_X12_bits (h : Hp) (x0 : Int32) : Option (Int32) :=
  L_X12_bits_4 h ((0 : Int32)) x0
set_option maxHeartbeats 4000000 in
set_option maxRecDepth 100000 in
theorem go_X12_bits {Γ : Cx} (hO : Ok Γ mX12_bits) (h : Hp) (x0 : Int32) {K : Int32 → Prop} (hR : ∀ r, K r → emPI h r = tgt Γ) : EG Γ mX12_bits 0 [(0, .int x0)] [] h (F_X12_bits h x0) K := by
  unfold F_X12_bits
  refine x_iconst hO (v := 0) (by decide) dX12_bits_0 ?_
  refine x_istore_n hO rfl [(1, .int ((0 : Int32))), (0, .int x0)] dX12_bits_1 (by decide) rfl ?_
  refine x_iload_n hO 1 rfl rfl dX12_bits_2 ?_
  refine x_istore_n hO rfl [(2, .int x0), (1, .int ((0 : Int32))), (0, .int x0)] dX12_bits_3 (by decide) rfl ?_
  exact x_sub [1, 0] rfl (go_X12_bits_L4 hO h ((0 : Int32)) x0 hR)
theorem ok_X12_bits (G : Gl) (h : Hp) (x0 : Int32) : CN G mX12_bits [.int x0] h ((F_X12_bits h x0).map (emPI h)) := CN.fn pn_RX12 (Nat.le_of_ble_eq_true rfl) (fun Γ hG hO => by subst hG; exact go_X12_bits hO h x0 (fun _ q => q))
noncomputable def F_X12_bottom (h : Hp) (x0 : Nat) : Option (Int64) :=
  some (hL h x0 3)
set_option maxHeartbeats 4000000 in
set_option maxRecDepth 100000 in
theorem go_X12_bottom {Γ : Cx} (hO : Ok Γ mX12_bottom) (h : Hp) (x0 : Nat) (hx0 : Is x0 12) {K : Int64 → Prop} (hR : ∀ r, K r → emPL h r = tgt Γ) : EG Γ mX12_bottom 0 [(0, rf Γ x0)] [] h (F_X12_bottom h x0) K := by
  unfold F_X12_bottom
  refine x_aload_n hO 0 rfl rfl dX12_bottom_0 ?_
  refine x_getL hO fl_RX12_13 hx0 dX12_bottom_1 ?_
  exact x_lret hO rfl dX12_bottom_4 (hR _)
theorem ok_X12_bottom (G : Gl) (h : Hp) (x0 : Nat) (hx0 : Is x0 12) : CN G mX12_bottom [.ref (gb G + x0)] h ((F_X12_bottom h x0).map (emPL h)) := CN.fn pn_RX12 (Nat.le_of_ble_eq_true rfl) (fun Γ hG hO => by subst hG; exact go_X12_bottom hO h x0 hx0 (fun _ q => q))
noncomputable def F_X12_byteAt (h : Hp) (x0 : Nat) (x1 : Int32) : Option (Int32) :=
  if (hI h x0 10) ≤ x1 then some ((-1 : Int32)) else gd (ib x1 (LEN (GR x0 8))) (some ((hI h (GR x0 8) (nx x1)) &&& ((255 : Int32))))
set_option maxHeartbeats 4000000 in
set_option maxRecDepth 100000 in
theorem go_X12_byteAt {Γ : Cx} (hO : Ok Γ mX12_byteAt) (h : Hp) (x0 : Nat) (x1 : Int32) (hx0 : Is x0 12) {K : Int32 → Prop} (hR : ∀ r, K r → emPI h r = tgt Γ) : EG Γ mX12_byteAt 0 [(0, rf Γ x0), (1, .int x1)] [] h (F_X12_byteAt h x0 x1) K := by
  unfold F_X12_byteAt
  refine x_iload_n hO 1 rfl rfl dX12_byteAt_0 ?_
  refine x_aload_n hO 0 rfl rfl dX12_byteAt_1 ?_
  refine x_getI hO fl_RX12_168 hx0 dX12_byteAt_2 ?_
  refine x_icmp_ge hO (tg := 21) dX12_byteAt_5 (by decide) ?_ ?_
  · refine x_iconst hO (v := -1) (by decide) dX12_byteAt_21 ?_
    exact x_iret hO rfl dX12_byteAt_22 (hR _)
  · refine x_aload_n hO 0 rfl rfl dX12_byteAt_8 ?_
    refine x_getR hO fl_RX12_31 hx0 dX12_byteAt_9 ?_
    refine x_iload_n hO 1 rfl rfl dX12_byteAt_12 ?_
    refine x_bald hO (gr_12_8 hx0) dX12_byteAt_13 ?_
    refine x_sipush hO (v := 255) (by decide) dX12_byteAt_14 ?_
    refine x_iand hO dX12_byteAt_17 ?_
    refine x_goto hO (tg := 22) dX12_byteAt_18 (by decide) ?_
    exact x_iret hO rfl dX12_byteAt_22 (hR _)
theorem ok_X12_byteAt (G : Gl) (h : Hp) (x0 : Nat) (x1 : Int32) (hx0 : Is x0 12) : CN G mX12_byteAt [.ref (gb G + x0), .int x1] h ((F_X12_byteAt h x0 x1).map (emPI h)) := CN.fn pn_RX12 (Nat.le_of_ble_eq_true rfl) (fun Γ hG hO => by subst hG; exact go_X12_byteAt hO h x0 x1 hx0 (fun _ q => q))
noncomputable def B_X12_copies_2 (h : Hp) (x0 : Nat) (x1 : Int32) (x2 : Int32) (x3 : Int32) : Option ((Hp × Int32) ⊕ (Hp)) :=
  if ((800 : Int32)) ≤ x3 then some (.inr h) else gd (ib (x1 + x3) (LEN (GR x0 0))) (gd (ib (x2 + x3) (LEN (GR x0 0))) (some (.inl (uI h (GR x0 0) (nx (x2 + x3)) (hI h (GR x0 0) (nx (x1 + x3))), x3 + (1 : Int32)))))
noncomputable def L_X12_copies_2 (h : Hp) (x0 : Nat) (x1 : Int32) (x2 : Int32) (x3 : Int32) : Option (Hp) := iterW (fun s : Hp × Int32 => B_X12_copies_2 s.1 x0 x1 x2 s.2) (h, x3)
set_option maxHeartbeats 4000000 in
set_option maxRecDepth 100000 in
theorem go_X12_copies_B2 {Γ : Cx} (hO : Ok Γ mX12_copies) (h : Hp) (x0 : Nat) (x1 : Int32) (x2 : Int32) (x3 : Int32) (hx0 : Is x0 12) {K : (Hp × Int32) ⊕ (Hp) → Prop} (hC : ∀ (h : Hp) (x3 : Int32), K (.inl (h, x3)) → EW Γ mX12_copies 2 [(0, rf Γ x0), (1, .int x1), (2, .int x2), (3, .int x3)] [] h) (hR : ∀ r, K (.inr r) → emHV r = tgt Γ) : EG Γ mX12_copies 2 [(0, rf Γ x0), (1, .int x1), (2, .int x2), (3, .int x3)] [] h (B_X12_copies_2 h x0 x1 x2 x3) K := by
  unfold B_X12_copies_2
  refine x_iload_n hO 3 rfl rfl dX12_copies_2 ?_
  refine x_sipush hO (v := 800) (by decide) dX12_copies_3 ?_
  refine x_icmp_ge hO (tg := 31) dX12_copies_6 (by decide) ?_ ?_
  · exact x_vret hO rfl dX12_copies_31 (hR _)
  · refine x_aload_n hO 0 rfl rfl dX12_copies_9 ?_
    refine x_getR hO fl_RX12_7 hx0 dX12_copies_10 ?_
    refine x_iload_n hO 2 rfl rfl dX12_copies_13 ?_
    refine x_iload_n hO 3 rfl rfl dX12_copies_14 ?_
    refine x_iadd hO dX12_copies_15 ?_
    refine x_aload_n hO 0 rfl rfl dX12_copies_16 ?_
    refine x_getR hO fl_RX12_7 hx0 dX12_copies_17 ?_
    refine x_iload_n hO 1 rfl rfl dX12_copies_20 ?_
    refine x_iload_n hO 3 rfl rfl dX12_copies_21 ?_
    refine x_iadd hO dX12_copies_22 ?_
    refine x_iald hO (gr_12_0 hx0) dX12_copies_23 ?_
    refine x_iast hO (gr_12_0 hx0) dX12_copies_24 ?_
    refine x_iinc hO 3 (v := 1) [(3, .int (x3 + (1 : Int32))), (0, rf Γ x0), (1, .int x1), (2, .int x2)] dX12_copies_25 rfl (by decide) (by decide) rfl ?_
    refine x_goto hO (tg := 2) dX12_copies_28 (by decide) ?_
    exact x_leafs [1, 2, 3, 0] rfl (hC (uI h (GR x0 0) (nx (x2 + x3)) (hI h (GR x0 0) (nx (x1 + x3)))) (x3 + (1 : Int32)))
set_option maxHeartbeats 4000000 in
set_option maxRecDepth 100000 in
theorem go_X12_copies_L2 {Γ : Cx} (hO : Ok Γ mX12_copies) (h : Hp) (x0 : Nat) (x1 : Int32) (x2 : Int32) (x3 : Int32) (hx0 : Is x0 12) {K : Hp → Prop} (hR : ∀ r, K (r) → emHV r = tgt Γ) : EG Γ mX12_copies 2 [(0, rf Γ x0), (1, .int x1), (2, .int x2), (3, .int x3)] [] h (L_X12_copies_2 h x0 x1 x2 x3) K := by
  have q := x_loop (Γ := Γ) (M := mX12_copies) (pc := 2) (B := fun s : Hp × Int32 => B_X12_copies_2 s.1 x0 x1 x2 s.2) (lvf := fun s => [(0, rf Γ x0), (1, .int x1), (2, .int x2), (3, .int s.2)]) (hf := fun s => s.1) (Ky := K) (fun s => go_X12_copies_B2 hO s.1 x0 x1 x2 s.2 hx0 (fun _ _ => id) hR) (h, x3)
  exact q
noncomputable def F_X12_copies (h : Hp) (x0 : Nat) (x1 : Int32) (x2 : Int32) : Option (Hp) :=
  L_X12_copies_2 h x0 x1 x2 ((0 : Int32))
set_option maxHeartbeats 4000000 in
set_option maxRecDepth 100000 in
theorem go_X12_copies {Γ : Cx} (hO : Ok Γ mX12_copies) (h : Hp) (x0 : Nat) (x1 : Int32) (x2 : Int32) (hx0 : Is x0 12) {K : Hp → Prop} (hR : ∀ r, K r → emHV r = tgt Γ) : EG Γ mX12_copies 0 [(0, rf Γ x0), (1, .int x1), (2, .int x2)] [] h (F_X12_copies h x0 x1 x2) K := by
  unfold F_X12_copies
  refine x_iconst hO (v := 0) (by decide) dX12_copies_0 ?_
  refine x_istore_n hO rfl [(3, .int ((0 : Int32))), (0, rf Γ x0), (1, .int x1), (2, .int x2)] dX12_copies_1 (by decide) rfl ?_
  exact x_sub [1, 2, 3, 0] rfl (go_X12_copies_L2 hO h x0 x1 x2 ((0 : Int32)) hx0 hR)
theorem ok_X12_copies (G : Gl) (h : Hp) (x0 : Nat) (x1 : Int32) (x2 : Int32) (hx0 : Is x0 12) : CN G mX12_copies [.ref (gb G + x0), .int x1, .int x2] h ((F_X12_copies h x0 x1 x2).map (emHV)) := CN.fn pn_RX12 (Nat.le_of_ble_eq_true rfl) (fun Γ hG hO => by subst hG; exact go_X12_copies hO h x0 x1 x2 hx0 (fun _ q => q))
noncomputable def F_X12_counts (h : Hp) (x0 : Nat) (x1 : Int32) (x2 : Int32) : Option (Hp) :=
  if 0 ≤ x1 then gd (ib x1 (LEN (GR x0 39))) (gd (ib x1 (LEN (GR x0 39))) (if ((10 : Int32)) ≤ x1 then bnd (uI (uI h (GR x0 39) (nx x1) ((hI h (GR x0 39) (nx x1)) + x2)) x0 44 ((hI (uI h (GR x0 39) (nx x1) ((hI h (GR x0 39) (nx x1)) + x2)) x0 44) + ((0 : Int32)))) (fun h1 => some h1) else bnd (uI (uI h (GR x0 39) (nx x1) ((hI h (GR x0 39) (nx x1)) + x2)) x0 44 ((hI (uI h (GR x0 39) (nx x1) ((hI h (GR x0 39) (nx x1)) + x2)) x0 44) + (x2 * x1))) (fun h2 => some h2))) else some h
set_option maxHeartbeats 4000000 in
set_option maxRecDepth 100000 in
theorem go_X12_counts {Γ : Cx} (hO : Ok Γ mX12_counts) (h : Hp) (x0 : Nat) (x1 : Int32) (x2 : Int32) (hx0 : Is x0 12) {K : Hp → Prop} (hR : ∀ r, K r → emHV r = tgt Γ) : EG Γ mX12_counts 0 [(0, rf Γ x0), (1, .int x1), (2, .int x2)] [] h (F_X12_counts h x0 x1 x2) K := by
  unfold F_X12_counts
  refine x_iload_n hO 1 rfl rfl dX12_counts_0 ?_
  refine x_if_ge hO (tg := 5) dX12_counts_1 (by decide) ?_ ?_
  · refine x_aload_n hO 0 rfl rfl dX12_counts_5 ?_
    refine x_getR hO fl_RX12_80 hx0 dX12_counts_6 ?_
    refine x_iload_n hO 1 rfl rfl dX12_counts_9 ?_
    refine x_dup2_ri hO dX12_counts_10 ?_
    refine x_iald hO (gr_12_39 hx0) dX12_counts_11 ?_
    refine x_iload_n hO 2 rfl rfl dX12_counts_12 ?_
    refine x_iadd hO dX12_counts_13 ?_
    refine x_iast hO (gr_12_39 hx0) dX12_counts_14 ?_
    refine x_aload_n hO 0 rfl rfl dX12_counts_15 ?_
    refine x_dup_r hO dX12_counts_16 ?_
    refine x_getI hO fl_RX12_365 hx0 dX12_counts_17 ?_
    refine x_iload_n hO 1 rfl rfl dX12_counts_20 ?_
    refine x_bipush hO (v := 10) (by decide) dX12_counts_21 ?_
    refine x_icmp_ge hO (tg := 32) dX12_counts_23 (by decide) ?_ ?_
    · refine x_iconst hO (v := 0) (by decide) dX12_counts_32 ?_
      refine x_iadd hO dX12_counts_33 ?_
      refine x_putI hO fl_RX12_365 hx0 dX12_counts_34 ?_
      refine x_bnd ?_
      generalize uI (uI h (GR x0 39) (nx x1) ((hI h (GR x0 39) (nx x1)) + x2)) x0 44 ((hI (uI h (GR x0 39) (nx x1) ((hI h (GR x0 39) (nx x1)) + x2)) x0 44) + ((0 : Int32))) = h1
      exact x_vret hO rfl dX12_counts_37 (hR _)
    · refine x_iload_n hO 2 rfl rfl dX12_counts_26 ?_
      refine x_iload_n hO 1 rfl rfl dX12_counts_27 ?_
      refine x_imul hO dX12_counts_28 ?_
      refine x_goto hO (tg := 33) dX12_counts_29 (by decide) ?_
      refine x_iadd hO dX12_counts_33 ?_
      refine x_putI hO fl_RX12_365 hx0 dX12_counts_34 ?_
      refine x_bnd ?_
      generalize uI (uI h (GR x0 39) (nx x1) ((hI h (GR x0 39) (nx x1)) + x2)) x0 44 ((hI (uI h (GR x0 39) (nx x1) ((hI h (GR x0 39) (nx x1)) + x2)) x0 44) + (x2 * x1)) = h2
      exact x_vret hO rfl dX12_counts_37 (hR _)
  · exact x_vret hO rfl dX12_counts_4 (hR _)
theorem ok_X12_counts (G : Gl) (h : Hp) (x0 : Nat) (x1 : Int32) (x2 : Int32) (hx0 : Is x0 12) : CN G mX12_counts [.ref (gb G + x0), .int x1, .int x2] h ((F_X12_counts h x0 x1 x2).map (emHV)) := CN.fn pn_RX12 (Nat.le_of_ble_eq_true rfl) (fun Γ hG hO => by subst hG; exact go_X12_counts hO h x0 x1 x2 hx0 (fun _ q => q))
noncomputable def F_X12_cutTo (h : Hp) (x0 : Int64) (x2 : Int32) : Option (Int64) :=
  if x2 = 0 then some x0.toInt32.toInt8.toInt32.toInt64 else if x2 = ((1 : Int32)) then some x0.toInt32.toInt16.toInt32.toInt64 else if x2 = ((2 : Int32)) then some x0.toInt32.toInt64 else some x0
set_option maxHeartbeats 4000000 in
set_option maxRecDepth 100000 in
theorem go_X12_cutTo {Γ : Cx} (hO : Ok Γ mX12_cutTo) (h : Hp) (x0 : Int64) (x2 : Int32) {K : Int64 → Prop} (hR : ∀ r, K r → emPL h r = tgt Γ) : EG Γ mX12_cutTo 0 [(0, .long x0), (2, .int x2)] [] h (F_X12_cutTo h x0 x2) K := by
  unfold F_X12_cutTo
  refine x_iload_n hO 1 rfl rfl dX12_cutTo_0 ?_
  refine x_if_ne hO (tg := 11) dX12_cutTo_1 (by decide) ?_ ?_
  · refine x_iload_n hO 1 rfl rfl dX12_cutTo_11 ?_
    refine x_iconst hO (v := 1) (by decide) dX12_cutTo_12 ?_
    refine x_icmp_ne hO (tg := 23) dX12_cutTo_13 (by decide) ?_ ?_
    · refine x_iload_n hO 1 rfl rfl dX12_cutTo_23 ?_
      refine x_iconst hO (v := 2) (by decide) dX12_cutTo_24 ?_
      refine x_icmp_ne hO (tg := 34) dX12_cutTo_25 (by decide) ?_ ?_
      · refine x_lload_n hO 0 rfl rfl dX12_cutTo_34 ?_
        exact x_lret hO rfl dX12_cutTo_35 (hR _)
      · refine x_lload_n hO 0 rfl rfl dX12_cutTo_28 ?_
        refine x_l2i hO dX12_cutTo_29 ?_
        refine x_i2l hO dX12_cutTo_30 ?_
        refine x_goto hO (tg := 35) dX12_cutTo_31 (by decide) ?_
        exact x_lret hO rfl dX12_cutTo_35 (hR _)
    · refine x_lload_n hO 0 rfl rfl dX12_cutTo_16 ?_
      refine x_l2i hO dX12_cutTo_17 ?_
      refine x_i2s hO dX12_cutTo_18 ?_
      refine x_i2l hO dX12_cutTo_19 ?_
      refine x_goto hO (tg := 35) dX12_cutTo_20 (by decide) ?_
      exact x_lret hO rfl dX12_cutTo_35 (hR _)
  · refine x_lload_n hO 0 rfl rfl dX12_cutTo_4 ?_
    refine x_l2i hO dX12_cutTo_5 ?_
    refine x_i2b hO dX12_cutTo_6 ?_
    refine x_i2l hO dX12_cutTo_7 ?_
    refine x_goto hO (tg := 35) dX12_cutTo_8 (by decide) ?_
    exact x_lret hO rfl dX12_cutTo_35 (hR _)
theorem ok_X12_cutTo (G : Gl) (h : Hp) (x0 : Int64) (x2 : Int32) : CN G mX12_cutTo [.long x0, .int x2] h ((F_X12_cutTo h x0 x2).map (emPL h)) := CN.fn pn_RX12 (Nat.le_of_ble_eq_true rfl) (fun Γ hG hO => by subst hG; exact go_X12_cutTo hO h x0 x2 (fun _ q => q))
noncomputable def F_X12_fails (h : Hp) (x0 : Nat) (x1 : Int32) : Option (Hp × Int32) :=
  if (hI h x0 17) = 0 then if (hI h x0 11) = ((1 : Int32)) then some ((uI (uI h x0 17 ((1 : Int32))) x0 16 (hI (uI h x0 17 ((1 : Int32))) x0 12), (0 : Int32))) else some ((uI (uI h x0 17 x1) x0 16 (hI (uI h x0 17 x1) x0 12), (0 : Int32))) else some ((h, (0 : Int32)))
set_option maxHeartbeats 4000000 in
set_option maxRecDepth 100000 in
theorem go_X12_fails {Γ : Cx} (hO : Ok Γ mX12_fails) (h : Hp) (x0 : Nat) (x1 : Int32) (hx0 : Is x0 12) {K : Hp × Int32 → Prop} (hR : ∀ r, K r → emHI r = tgt Γ) : EG Γ mX12_fails 0 [(0, rf Γ x0), (1, .int x1)] [] h (F_X12_fails h x0 x1) K := by
  unfold F_X12_fails
  refine x_aload_n hO 0 rfl rfl dX12_fails_0 ?_
  refine x_getI hO fl_RX12_207 hx0 dX12_fails_1 ?_
  refine x_if_ne hO (tg := 32) dX12_fails_4 (by decide) ?_ ?_
  · refine x_iconst hO (v := 0) (by decide) dX12_fails_32 ?_
    exact x_zretv hO rfl (by decide) dX12_fails_33 (hR _)
  · refine x_aload_n hO 0 rfl rfl dX12_fails_7 ?_
    refine x_aload_n hO 0 rfl rfl dX12_fails_8 ?_
    refine x_getI hO fl_RX12_183 hx0 dX12_fails_9 ?_
    refine x_iconst hO (v := 1) (by decide) dX12_fails_12 ?_
    refine x_icmp_ne hO (tg := 20) dX12_fails_13 (by decide) ?_ ?_
    · refine x_iload_n hO 1 rfl rfl dX12_fails_20 ?_
      refine x_putI hO fl_RX12_207 hx0 dX12_fails_21 ?_
      refine x_aload_n hO 0 rfl rfl dX12_fails_24 ?_
      refine x_aload_n hO 0 rfl rfl dX12_fails_25 ?_
      refine x_getI hO fl_RX12_177 hx0 dX12_fails_26 ?_
      refine x_putI hO fl_RX12_38 hx0 dX12_fails_29 ?_
      refine x_iconst hO (v := 0) (by decide) dX12_fails_32 ?_
      exact x_zretv hO rfl (by decide) dX12_fails_33 (hR _)
    · refine x_iconst hO (v := 1) (by decide) dX12_fails_16 ?_
      refine x_goto hO (tg := 21) dX12_fails_17 (by decide) ?_
      refine x_putI hO fl_RX12_207 hx0 dX12_fails_21 ?_
      refine x_aload_n hO 0 rfl rfl dX12_fails_24 ?_
      refine x_aload_n hO 0 rfl rfl dX12_fails_25 ?_
      refine x_getI hO fl_RX12_177 hx0 dX12_fails_26 ?_
      refine x_putI hO fl_RX12_38 hx0 dX12_fails_29 ?_
      refine x_iconst hO (v := 0) (by decide) dX12_fails_32 ?_
      exact x_zretv hO rfl (by decide) dX12_fails_33 (hR _)
theorem ok_X12_fails (G : Gl) (h : Hp) (x0 : Nat) (x1 : Int32) (hx0 : Is x0 12) : CN G mX12_fails [.ref (gb G + x0), .int x1] h ((F_X12_fails h x0 x1).map (emHI)) := CN.fn pn_RX12 (Nat.le_of_ble_eq_true rfl) (fun Γ hG hO => by subst hG; exact go_X12_fails hO h x0 x1 hx0 (fun _ q => q))
noncomputable def F_X12_fault (h : Hp) (x0 : Nat) (x1 : Int32) : Option (Int32) :=
  if x1 = 0 then some (hI h x0 15) else if x1 = ((1 : Int32)) then some (hI h x0 16) else some ((-1 : Int32))
set_option maxHeartbeats 4000000 in
set_option maxRecDepth 100000 in
theorem go_X12_fault {Γ : Cx} (hO : Ok Γ mX12_fault) (h : Hp) (x0 : Nat) (x1 : Int32) (hx0 : Is x0 12) {K : Int32 → Prop} (hR : ∀ r, K r → emPI h r = tgt Γ) : EG Γ mX12_fault 0 [(0, rf Γ x0), (1, .int x1)] [] h (F_X12_fault h x0 x1) K := by
  unfold F_X12_fault
  refine x_iload_n hO 1 rfl rfl dX12_fault_0 ?_
  refine x_if_ne hO (tg := 11) dX12_fault_1 (by decide) ?_ ?_
  · refine x_iload_n hO 1 rfl rfl dX12_fault_11 ?_
    refine x_iconst hO (v := 1) (by decide) dX12_fault_12 ?_
    refine x_icmp_ne hO (tg := 23) dX12_fault_13 (by decide) ?_ ?_
    · refine x_iconst hO (v := -1) (by decide) dX12_fault_23 ?_
      exact x_iret hO rfl dX12_fault_24 (hR _)
    · refine x_aload_n hO 0 rfl rfl dX12_fault_16 ?_
      refine x_getI hO fl_RX12_38 hx0 dX12_fault_17 ?_
      refine x_goto hO (tg := 24) dX12_fault_20 (by decide) ?_
      exact x_iret hO rfl dX12_fault_24 (hR _)
  · refine x_aload_n hO 0 rfl rfl dX12_fault_4 ?_
    refine x_getI hO fl_RX12_34 hx0 dX12_fault_5 ?_
    refine x_goto hO (tg := 24) dX12_fault_8 (by decide) ?_
    exact x_iret hO rfl dX12_fault_24 (hR _)
theorem ok_X12_fault (G : Gl) (h : Hp) (x0 : Nat) (x1 : Int32) (hx0 : Is x0 12) : CN G mX12_fault [.ref (gb G + x0), .int x1] h ((F_X12_fault h x0 x1).map (emPI h)) := CN.fn pn_RX12 (Nat.le_of_ble_eq_true rfl) (fun Γ hG hO => by subst hG; exact go_X12_fault hO h x0 x1 hx0 (fun _ q => q))
noncomputable def B_X12_find_3 (h : Hp) (x0 : Nat) (x1 : Int32) (x2 : Int64) (x4 : Int32) : Option ((Int32) ⊕ (Int32)) :=
  if x1 ≤ x4 then some (.inr ((-1 : Int32))) else gd (ib x4 (LEN x0)) (if (lg_cmp (hL h x0 (nx x4)) x2) = 0 then some (.inr x4) else some (.inl (x4 + (1 : Int32))))
noncomputable def L_X12_find_3 (h : Hp) (x0 : Nat) (x1 : Int32) (x2 : Int64) (x4 : Int32) : Option (Int32) := iterW (fun s : Int32 => B_X12_find_3 h x0 x1 x2 s) x4
set_option maxHeartbeats 4000000 in
set_option maxRecDepth 100000 in
theorem go_X12_find_B3 {Γ : Cx} (hO : Ok Γ mX12_find) (h : Hp) (x0 : Nat) (x1 : Int32) (x2 : Int64) (x4 : Int32) (hx0 : Is x0 15) {K : (Int32) ⊕ (Int32) → Prop} (hC : ∀ (x4 : Int32), K (.inl x4) → EW Γ mX12_find 3 [(0, rf Γ x0), (1, .int x1), (2, .long x2), (4, .int x4)] [] h) (hR : ∀ r, K (.inr r) → emPI h r = tgt Γ) : EG Γ mX12_find 3 [(0, rf Γ x0), (1, .int x1), (2, .long x2), (4, .int x4)] [] h (B_X12_find_3 h x0 x1 x2 x4) K := by
  unfold B_X12_find_3
  refine x_iload hO 3 rfl dX12_find_3 ?_
  refine x_iload_n hO 1 rfl rfl dX12_find_5 ?_
  refine x_icmp_ge hO (tg := 27) dX12_find_6 (by decide) ?_ ?_
  · refine x_iconst hO (v := -1) (by decide) dX12_find_27 ?_
    exact x_iret hO rfl dX12_find_28 (hR _)
  · refine x_aload_n hO 0 rfl rfl dX12_find_9 ?_
    refine x_iload hO 3 rfl dX12_find_10 ?_
    refine x_lald hO hx0 dX12_find_12 ?_
    refine x_lload_n hO 2 rfl rfl dX12_find_13 ?_
    refine x_lcmp hO dX12_find_14 ?_
    refine x_if_ne hO (tg := 21) dX12_find_15 (by decide) ?_ ?_
    · refine x_iinc hO 3 (v := 1) [(4, .int (x4 + (1 : Int32))), (0, rf Γ x0), (1, .int x1), (2, .long x2)] dX12_find_21 rfl (by decide) (by decide) rfl ?_
      refine x_goto hO (tg := 3) dX12_find_24 (by decide) ?_
      exact x_leafs [1, 2, 3, 0] rfl (hC (x4 + (1 : Int32)))
    · refine x_iload hO 3 rfl dX12_find_18 ?_
      exact x_iret hO rfl dX12_find_20 (hR _)
set_option maxHeartbeats 4000000 in
set_option maxRecDepth 100000 in
theorem go_X12_find_L3 {Γ : Cx} (hO : Ok Γ mX12_find) (h : Hp) (x0 : Nat) (x1 : Int32) (x2 : Int64) (x4 : Int32) (hx0 : Is x0 15) {K : Int32 → Prop} (hR : ∀ r, K (r) → emPI h r = tgt Γ) : EG Γ mX12_find 3 [(0, rf Γ x0), (1, .int x1), (2, .long x2), (4, .int x4)] [] h (L_X12_find_3 h x0 x1 x2 x4) K := by
  have q := x_loop (Γ := Γ) (M := mX12_find) (pc := 3) (B := fun s : Int32 => B_X12_find_3 h x0 x1 x2 s) (lvf := fun s => [(0, rf Γ x0), (1, .int x1), (2, .long x2), (4, .int s)]) (hf := fun s => h) (Ky := K) (fun s => go_X12_find_B3 hO h x0 x1 x2 s hx0 (fun _ => id) hR) x4
  exact q
noncomputable def F_X12_find (h : Hp) (x0 : Nat) (x1 : Int32) (x2 : Int64) : Option (Int32) :=
  L_X12_find_3 h x0 x1 x2 ((0 : Int32))
set_option maxHeartbeats 4000000 in
set_option maxRecDepth 100000 in
theorem go_X12_find {Γ : Cx} (hO : Ok Γ mX12_find) (h : Hp) (x0 : Nat) (x1 : Int32) (x2 : Int64) (hx0 : Is x0 15) {K : Int32 → Prop} (hR : ∀ r, K r → emPI h r = tgt Γ) : EG Γ mX12_find 0 [(0, rf Γ x0), (1, .int x1), (2, .long x2)] [] h (F_X12_find h x0 x1 x2) K := by
  unfold F_X12_find
  refine x_iconst hO (v := 0) (by decide) dX12_find_0 ?_
  refine x_istore hO [(4, .int ((0 : Int32))), (0, rf Γ x0), (1, .int x1), (2, .long x2)] dX12_find_1 (by decide) rfl ?_
  exact x_sub [1, 2, 3, 0] rfl (go_X12_find_L3 hO h x0 x1 x2 ((0 : Int32)) hx0 hR)
theorem ok_X12_find (G : Gl) (h : Hp) (x0 : Nat) (x1 : Int32) (x2 : Int64) (hx0 : Is x0 15) : CN G mX12_find [.ref (gb G + x0), .int x1, .long x2] h ((F_X12_find h x0 x1 x2).map (emPI h)) := CN.fn pn_RX12 (Nat.le_of_ble_eq_true rfl) (fun Γ hG hO => by subst hG; exact go_X12_find hO h x0 x1 x2 hx0 (fun _ q => q))
noncomputable def B_X12_four_3 (h : Hp) (x0 : Nat) (x1 : Int32) (x2 : Int32) : Option ((Hp × Int32) ⊕ (Hp)) :=
  if x2 < 0 then some (.inr h) else gd (ib (hI h x0 9) (LEN (GR x0 7))) (bnd (uI (uI h (GR x0 7) (nx (hI h x0 9)) ((x1 >>> (x2 &&& 31)).toInt8.toInt32).toInt8.toInt32) x0 9 ((hI (uI h (GR x0 7) (nx (hI h x0 9)) ((x1 >>> (x2 &&& 31)).toInt8.toInt32).toInt8.toInt32) x0 9) + ((1 : Int32)))) (fun h1 => some (.inl (h1, x2 + (-8 : Int32)))))
noncomputable def L_X12_four_3 (h : Hp) (x0 : Nat) (x1 : Int32) (x2 : Int32) : Option (Hp) := iterW (fun s : Hp × Int32 => B_X12_four_3 s.1 x0 x1 s.2) (h, x2)
set_option maxHeartbeats 4000000 in
set_option maxRecDepth 100000 in
theorem go_X12_four_B3 {Γ : Cx} (hO : Ok Γ mX12_four) (h : Hp) (x0 : Nat) (x1 : Int32) (x2 : Int32) (hx0 : Is x0 12) {K : (Hp × Int32) ⊕ (Hp) → Prop} (hC : ∀ (h : Hp) (x2 : Int32), K (.inl (h, x2)) → EW Γ mX12_four 3 [(0, rf Γ x0), (1, .int x1), (2, .int x2)] [] h) (hR : ∀ r, K (.inr r) → emHV r = tgt Γ) : EG Γ mX12_four 3 [(0, rf Γ x0), (1, .int x1), (2, .int x2)] [] h (B_X12_four_3 h x0 x1 x2) K := by
  unfold B_X12_four_3
  refine x_iload_n hO 2 rfl rfl dX12_four_3 ?_
  refine x_if_lt hO (tg := 36) dX12_four_4 (by decide) ?_ ?_
  · exact x_vret hO rfl dX12_four_36 (hR _)
  · refine x_aload_n hO 0 rfl rfl dX12_four_7 ?_
    refine x_getR hO fl_RX12_27 hx0 dX12_four_8 ?_
    refine x_aload_n hO 0 rfl rfl dX12_four_11 ?_
    refine x_getI hO fl_RX12_161 hx0 dX12_four_12 ?_
    refine x_iload_n hO 1 rfl rfl dX12_four_15 ?_
    refine x_iload_n hO 2 rfl rfl dX12_four_16 ?_
    refine x_ishr hO dX12_four_17 ?_
    refine x_i2b hO dX12_four_18 ?_
    refine x_bast hO (gr_12_7 hx0) dX12_four_19 ?_
    refine x_aload_n hO 0 rfl rfl dX12_four_20 ?_
    refine x_dup_r hO dX12_four_21 ?_
    refine x_getI hO fl_RX12_161 hx0 dX12_four_22 ?_
    refine x_iconst hO (v := 1) (by decide) dX12_four_25 ?_
    refine x_iadd hO dX12_four_26 ?_
    refine x_putI hO fl_RX12_161 hx0 dX12_four_27 ?_
    refine x_bnd ?_
    generalize uI (uI h (GR x0 7) (nx (hI h x0 9)) ((x1 >>> (x2 &&& 31)).toInt8.toInt32).toInt8.toInt32) x0 9 ((hI (uI h (GR x0 7) (nx (hI h x0 9)) ((x1 >>> (x2 &&& 31)).toInt8.toInt32).toInt8.toInt32) x0 9) + ((1 : Int32))) = h1
    refine x_iinc hO 2 (v := -8) [(2, .int (x2 + (-8 : Int32))), (0, rf Γ x0), (1, .int x1)] dX12_four_30 rfl (by decide) (by decide) rfl ?_
    refine x_goto hO (tg := 3) dX12_four_33 (by decide) ?_
    exact x_leafs [1, 2, 0] rfl (hC h1 (x2 + (-8 : Int32)))
set_option maxHeartbeats 4000000 in
set_option maxRecDepth 100000 in
theorem go_X12_four_L3 {Γ : Cx} (hO : Ok Γ mX12_four) (h : Hp) (x0 : Nat) (x1 : Int32) (x2 : Int32) (hx0 : Is x0 12) {K : Hp → Prop} (hR : ∀ r, K (r) → emHV r = tgt Γ) : EG Γ mX12_four 3 [(0, rf Γ x0), (1, .int x1), (2, .int x2)] [] h (L_X12_four_3 h x0 x1 x2) K := by
  have q := x_loop (Γ := Γ) (M := mX12_four) (pc := 3) (B := fun s : Hp × Int32 => B_X12_four_3 s.1 x0 x1 s.2) (lvf := fun s => [(0, rf Γ x0), (1, .int x1), (2, .int s.2)]) (hf := fun s => s.1) (Ky := K) (fun s => go_X12_four_B3 hO s.1 x0 x1 s.2 hx0 (fun _ _ => id) hR) (h, x2)
  exact q
noncomputable def F_X12_four (h : Hp) (x0 : Nat) (x1 : Int32) : Option (Hp) :=
  L_X12_four_3 h x0 x1 ((24 : Int32))
set_option maxHeartbeats 4000000 in
set_option maxRecDepth 100000 in
theorem go_X12_four {Γ : Cx} (hO : Ok Γ mX12_four) (h : Hp) (x0 : Nat) (x1 : Int32) (hx0 : Is x0 12) {K : Hp → Prop} (hR : ∀ r, K r → emHV r = tgt Γ) : EG Γ mX12_four 0 [(0, rf Γ x0), (1, .int x1)] [] h (F_X12_four h x0 x1) K := by
  unfold F_X12_four
  refine x_bipush hO (v := 24) (by decide) dX12_four_0 ?_
  refine x_istore_n hO rfl [(2, .int ((24 : Int32))), (0, rf Γ x0), (1, .int x1)] dX12_four_2 (by decide) rfl ?_
  exact x_sub [1, 2, 0] rfl (go_X12_four_L3 hO h x0 x1 ((24 : Int32)) hx0 hR)
theorem ok_X12_four (G : Gl) (h : Hp) (x0 : Nat) (x1 : Int32) (hx0 : Is x0 12) : CN G mX12_four [.ref (gb G + x0), .int x1] h ((F_X12_four h x0 x1).map (emHV)) := CN.fn pn_RX12 (Nat.le_of_ble_eq_true rfl) (fun Γ hG hO => by subst hG; exact go_X12_four hO h x0 x1 hx0 (fun _ q => q))
noncomputable def F_X12_gives (h : Hp) (x0 : Nat) (x1 : Int32) : Option (Hp × Int32) :=
  some ((uI h x0 1 ((0 : Int32)), x1))
set_option maxHeartbeats 4000000 in
set_option maxRecDepth 100000 in
theorem go_X12_gives {Γ : Cx} (hO : Ok Γ mX12_gives) (h : Hp) (x0 : Nat) (x1 : Int32) (hx0 : Is x0 12) {K : Hp × Int32 → Prop} (hR : ∀ r, K r → emHI r = tgt Γ) : EG Γ mX12_gives 0 [(0, rf Γ x0), (1, .int x1)] [] h (F_X12_gives h x0 x1) K := by
  unfold F_X12_gives
  refine x_aload_n hO 0 rfl rfl dX12_gives_0 ?_
  refine x_iconst hO (v := 0) (by decide) dX12_gives_1 ?_
  refine x_putI hO fl_RX12_107 hx0 dX12_gives_2 ?_
  refine x_iload_n hO 1 rfl rfl dX12_gives_5 ?_
  exact x_iret hO rfl dX12_gives_6 (hR _)
theorem ok_X12_gives (G : Gl) (h : Hp) (x0 : Nat) (x1 : Int32) (hx0 : Is x0 12) : CN G mX12_gives [.ref (gb G + x0), .int x1] h ((F_X12_gives h x0 x1).map (emHI)) := CN.fn pn_RX12 (Nat.le_of_ble_eq_true rfl) (fun Γ hG hO => by subst hG; exact go_X12_gives hO h x0 x1 hx0 (fun _ q => q))
noncomputable def F_X12_is (h : Hp) (x0 : Nat) (x1 : Int32) : Option (Hp × Int32) :=
  if x1 = 0 then some ((uI h x0 1 x1, (1 : Int32))) else some ((uI h x0 1 x1, (0 : Int32)))
set_option maxHeartbeats 4000000 in
set_option maxRecDepth 100000 in
theorem go_X12_is {Γ : Cx} (hO : Ok Γ mX12_is) (h : Hp) (x0 : Nat) (x1 : Int32) (hx0 : Is x0 12) {K : Hp × Int32 → Prop} (hR : ∀ r, K r → emHI r = tgt Γ) : EG Γ mX12_is 0 [(0, rf Γ x0), (1, .int x1)] [] h (F_X12_is h x0 x1) K := by
  unfold F_X12_is
  refine x_aload_n hO 0 rfl rfl dX12_is_0 ?_
  refine x_iload_n hO 1 rfl rfl dX12_is_1 ?_
  refine x_putI hO fl_RX12_107 hx0 dX12_is_2 ?_
  refine x_iload_n hO 1 rfl rfl dX12_is_5 ?_
  refine x_if_ne hO (tg := 13) dX12_is_6 (by decide) ?_ ?_
  · refine x_iconst hO (v := 0) (by decide) dX12_is_13 ?_
    exact x_zretv hO rfl (by decide) dX12_is_14 (hR _)
  · refine x_iconst hO (v := 1) (by decide) dX12_is_9 ?_
    refine x_goto hO (tg := 14) dX12_is_10 (by decide) ?_
    exact x_zretv hO rfl (by decide) dX12_is_14 (hR _)
theorem ok_X12_is (G : Gl) (h : Hp) (x0 : Nat) (x1 : Int32) (hx0 : Is x0 12) : CN G mX12_is [.ref (gb G + x0), .int x1] h ((F_X12_is h x0 x1).map (emHI)) := CN.fn pn_RX12 (Nat.le_of_ble_eq_true rfl) (fun Γ hG hO => by subst hG; exact go_X12_is hO h x0 x1 hx0 (fun _ q => q))
noncomputable def F_X12_isCard (h : Hp) (x0 : Nat) (x1 : Int32) : Option (Int32) :=
  if x1 < 0 then some ((0 : Int32)) else gd (ib ((0 : Int32)) (LEN (GR x0 0))) (if (hI h (GR x0 0) (nx ((0 : Int32)))) ≤ x1 then some ((0 : Int32)) else some ((1 : Int32)))
set_option maxHeartbeats 4000000 in
set_option maxRecDepth 100000 in
theorem go_X12_isCard {Γ : Cx} (hO : Ok Γ mX12_isCard) (h : Hp) (x0 : Nat) (x1 : Int32) (hx0 : Is x0 12) {K : Int32 → Prop} (hR : ∀ r, K r → emPI h r = tgt Γ) : EG Γ mX12_isCard 0 [(0, rf Γ x0), (1, .int x1)] [] h (F_X12_isCard h x0 x1) K := by
  unfold F_X12_isCard
  refine x_iload_n hO 1 rfl rfl dX12_isCard_0 ?_
  refine x_if_lt hO (tg := 18) dX12_isCard_1 (by decide) ?_ ?_
  · refine x_iconst hO (v := 0) (by decide) dX12_isCard_18 ?_
    exact x_zretv hO rfl (by decide) dX12_isCard_19 (hR _)
  · refine x_iload_n hO 1 rfl rfl dX12_isCard_4 ?_
    refine x_aload_n hO 0 rfl rfl dX12_isCard_5 ?_
    refine x_getR hO fl_RX12_7 hx0 dX12_isCard_6 ?_
    refine x_iconst hO (v := 0) (by decide) dX12_isCard_9 ?_
    refine x_iald hO (gr_12_0 hx0) dX12_isCard_10 ?_
    refine x_icmp_ge hO (tg := 18) dX12_isCard_11 (by decide) ?_ ?_
    · refine x_iconst hO (v := 0) (by decide) dX12_isCard_18 ?_
      exact x_zretv hO rfl (by decide) dX12_isCard_19 (hR _)
    · refine x_iconst hO (v := 1) (by decide) dX12_isCard_14 ?_
      refine x_goto hO (tg := 19) dX12_isCard_15 (by decide) ?_
      exact x_zretv hO rfl (by decide) dX12_isCard_19 (hR _)
theorem ok_X12_isCard (G : Gl) (h : Hp) (x0 : Nat) (x1 : Int32) (hx0 : Is x0 12) : CN G mX12_isCard [.ref (gb G + x0), .int x1] h ((F_X12_isCard h x0 x1).map (emPI h)) := CN.fn pn_RX12 (Nat.le_of_ble_eq_true rfl) (fun Γ hG hO => by subst hG; exact go_X12_isCard hO h x0 x1 hx0 (fun _ q => q))
noncomputable def F_X12_isCode (h : Hp) (x0 : Nat) (x1 : Int32) : Option (Int32) :=
  if x1 < 0 then some ((0 : Int32)) else gd (ib ((2 : Int32)) (LEN (GR x0 0))) (if (hI h (GR x0 0) (nx ((2 : Int32)))) ≤ x1 then some ((0 : Int32)) else some ((1 : Int32)))
set_option maxHeartbeats 4000000 in
set_option maxRecDepth 100000 in
theorem go_X12_isCode {Γ : Cx} (hO : Ok Γ mX12_isCode) (h : Hp) (x0 : Nat) (x1 : Int32) (hx0 : Is x0 12) {K : Int32 → Prop} (hR : ∀ r, K r → emPI h r = tgt Γ) : EG Γ mX12_isCode 0 [(0, rf Γ x0), (1, .int x1)] [] h (F_X12_isCode h x0 x1) K := by
  unfold F_X12_isCode
  refine x_iload_n hO 1 rfl rfl dX12_isCode_0 ?_
  refine x_if_lt hO (tg := 18) dX12_isCode_1 (by decide) ?_ ?_
  · refine x_iconst hO (v := 0) (by decide) dX12_isCode_18 ?_
    exact x_zretv hO rfl (by decide) dX12_isCode_19 (hR _)
  · refine x_iload_n hO 1 rfl rfl dX12_isCode_4 ?_
    refine x_aload_n hO 0 rfl rfl dX12_isCode_5 ?_
    refine x_getR hO fl_RX12_7 hx0 dX12_isCode_6 ?_
    refine x_iconst hO (v := 2) (by decide) dX12_isCode_9 ?_
    refine x_iald hO (gr_12_0 hx0) dX12_isCode_10 ?_
    refine x_icmp_ge hO (tg := 18) dX12_isCode_11 (by decide) ?_ ?_
    · refine x_iconst hO (v := 0) (by decide) dX12_isCode_18 ?_
      exact x_zretv hO rfl (by decide) dX12_isCode_19 (hR _)
    · refine x_iconst hO (v := 1) (by decide) dX12_isCode_14 ?_
      refine x_goto hO (tg := 19) dX12_isCode_15 (by decide) ?_
      exact x_zretv hO rfl (by decide) dX12_isCode_19 (hR _)
theorem ok_X12_isCode (G : Gl) (h : Hp) (x0 : Nat) (x1 : Int32) (hx0 : Is x0 12) : CN G mX12_isCode [.ref (gb G + x0), .int x1] h ((F_X12_isCode h x0 x1).map (emPI h)) := CN.fn pn_RX12 (Nat.le_of_ble_eq_true rfl) (fun Γ hG hO => by subst hG; exact go_X12_isCode hO h x0 x1 hx0 (fun _ q => q))
noncomputable def F_X12_isColumn (h : Hp) (x0 : Int32) : Option (Int32) :=
  if x0 < 0 then some ((0 : Int32)) else if ((8 : Int32)) ≤ x0 then some ((0 : Int32)) else some ((1 : Int32))
set_option maxHeartbeats 4000000 in
set_option maxRecDepth 100000 in
theorem go_X12_isColumn {Γ : Cx} (hO : Ok Γ mX12_isColumn) (h : Hp) (x0 : Int32) {K : Int32 → Prop} (hR : ∀ r, K r → emPI h r = tgt Γ) : EG Γ mX12_isColumn 0 [(0, .int x0)] [] h (F_X12_isColumn h x0) K := by
  unfold F_X12_isColumn
  refine x_iload_n hO 0 rfl rfl dX12_isColumn_0 ?_
  refine x_if_lt hO (tg := 14) dX12_isColumn_1 (by decide) ?_ ?_
  · refine x_iconst hO (v := 0) (by decide) dX12_isColumn_14 ?_
    exact x_zretv hO rfl (by decide) dX12_isColumn_15 (hR _)
  · refine x_iload_n hO 0 rfl rfl dX12_isColumn_4 ?_
    refine x_bipush hO (v := 8) (by decide) dX12_isColumn_5 ?_
    refine x_icmp_ge hO (tg := 14) dX12_isColumn_7 (by decide) ?_ ?_
    · refine x_iconst hO (v := 0) (by decide) dX12_isColumn_14 ?_
      exact x_zretv hO rfl (by decide) dX12_isColumn_15 (hR _)
    · refine x_iconst hO (v := 1) (by decide) dX12_isColumn_10 ?_
      refine x_goto hO (tg := 15) dX12_isColumn_11 (by decide) ?_
      exact x_zretv hO rfl (by decide) dX12_isColumn_15 (hR _)
theorem ok_X12_isColumn (G : Gl) (h : Hp) (x0 : Int32) : CN G mX12_isColumn [.int x0] h ((F_X12_isColumn h x0).map (emPI h)) := CN.fn pn_RX12 (Nat.le_of_ble_eq_true rfl) (fun Γ hG hO => by subst hG; exact go_X12_isColumn hO h x0 (fun _ q => q))
noncomputable def F_X12_isDigit (h : Hp) (x0 : Int32) : Option (Int32) :=
  if x0 < ((48 : Int32)) then some ((0 : Int32)) else if ((57 : Int32)) < x0 then some ((0 : Int32)) else some ((1 : Int32))
set_option maxHeartbeats 4000000 in
set_option maxRecDepth 100000 in
theorem go_X12_isDigit {Γ : Cx} (hO : Ok Γ mX12_isDigit) (h : Hp) (x0 : Int32) {K : Int32 → Prop} (hR : ∀ r, K r → emPI h r = tgt Γ) : EG Γ mX12_isDigit 0 [(0, .int x0)] [] h (F_X12_isDigit h x0) K := by
  unfold F_X12_isDigit
  refine x_iload_n hO 0 rfl rfl dX12_isDigit_0 ?_
  refine x_bipush hO (v := 48) (by decide) dX12_isDigit_1 ?_
  refine x_icmp_lt hO (tg := 16) dX12_isDigit_3 (by decide) ?_ ?_
  · refine x_iconst hO (v := 0) (by decide) dX12_isDigit_16 ?_
    exact x_zretv hO rfl (by decide) dX12_isDigit_17 (hR _)
  · refine x_iload_n hO 0 rfl rfl dX12_isDigit_6 ?_
    refine x_bipush hO (v := 57) (by decide) dX12_isDigit_7 ?_
    refine x_icmp_gt hO (tg := 16) dX12_isDigit_9 (by decide) ?_ ?_
    · refine x_iconst hO (v := 0) (by decide) dX12_isDigit_16 ?_
      exact x_zretv hO rfl (by decide) dX12_isDigit_17 (hR _)
    · refine x_iconst hO (v := 1) (by decide) dX12_isDigit_12 ?_
      refine x_goto hO (tg := 17) dX12_isDigit_13 (by decide) ?_
      exact x_zretv hO rfl (by decide) dX12_isDigit_17 (hR _)
theorem ok_X12_isDigit (G : Gl) (h : Hp) (x0 : Int32) : CN G mX12_isDigit [.int x0] h ((F_X12_isDigit h x0).map (emPI h)) := CN.fn pn_RX12 (Nat.le_of_ble_eq_true rfl) (fun Γ hG hO => by subst hG; exact go_X12_isDigit hO h x0 (fun _ q => q))
noncomputable def F_X12_isFrom (h : Hp) (x0 : Int64) (x2 : Int64) (x4 : Int64) : Option (Int32) :=
  if (lg_cmp x0 x2) < 0 then some ((0 : Int32)) else if 0 < (lg_cmp x0 x4) then some ((0 : Int32)) else some ((1 : Int32))
set_option maxHeartbeats 4000000 in
set_option maxRecDepth 100000 in
theorem go_X12_isFrom {Γ : Cx} (hO : Ok Γ mX12_isFrom) (h : Hp) (x0 : Int64) (x2 : Int64) (x4 : Int64) {K : Int32 → Prop} (hR : ∀ r, K r → emPI h r = tgt Γ) : EG Γ mX12_isFrom 0 [(0, .long x0), (2, .long x2), (4, .long x4)] [] h (F_X12_isFrom h x0 x2 x4) K := by
  unfold F_X12_isFrom
  refine x_lload_n hO 0 rfl rfl dX12_isFrom_0 ?_
  refine x_lload_n hO 1 rfl rfl dX12_isFrom_1 ?_
  refine x_lcmp hO dX12_isFrom_2 ?_
  refine x_if_lt hO (tg := 17) dX12_isFrom_3 (by decide) ?_ ?_
  · refine x_iconst hO (v := 0) (by decide) dX12_isFrom_17 ?_
    exact x_zretv hO rfl (by decide) dX12_isFrom_18 (hR _)
  · refine x_lload_n hO 0 rfl rfl dX12_isFrom_6 ?_
    refine x_lload hO 2 rfl dX12_isFrom_7 ?_
    refine x_lcmp hO dX12_isFrom_9 ?_
    refine x_if_gt hO (tg := 17) dX12_isFrom_10 (by decide) ?_ ?_
    · refine x_iconst hO (v := 0) (by decide) dX12_isFrom_17 ?_
      exact x_zretv hO rfl (by decide) dX12_isFrom_18 (hR _)
    · refine x_iconst hO (v := 1) (by decide) dX12_isFrom_13 ?_
      refine x_goto hO (tg := 18) dX12_isFrom_14 (by decide) ?_
      exact x_zretv hO rfl (by decide) dX12_isFrom_18 (hR _)
theorem ok_X12_isFrom (G : Gl) (h : Hp) (x0 : Int64) (x2 : Int64) (x4 : Int64) : CN G mX12_isFrom [.long x0, .long x2, .long x4] h ((F_X12_isFrom h x0 x2 x4).map (emPI h)) := CN.fn pn_RX12 (Nat.le_of_ble_eq_true rfl) (fun Γ hG hO => by subst hG; exact go_X12_isFrom hO h x0 x2 x4 (fun _ q => q))
noncomputable def F_X12_isMean (h : Hp) (x0 : Nat) (x1 : Int32) : Option (Int32) :=
  if x1 < 0 then some ((0 : Int32)) else gd (ib ((3 : Int32)) (LEN (GR x0 0))) (if (hI h (GR x0 0) (nx ((3 : Int32)))) ≤ x1 then some ((0 : Int32)) else some ((1 : Int32)))
set_option maxHeartbeats 4000000 in
set_option maxRecDepth 100000 in
theorem go_X12_isMean {Γ : Cx} (hO : Ok Γ mX12_isMean) (h : Hp) (x0 : Nat) (x1 : Int32) (hx0 : Is x0 12) {K : Int32 → Prop} (hR : ∀ r, K r → emPI h r = tgt Γ) : EG Γ mX12_isMean 0 [(0, rf Γ x0), (1, .int x1)] [] h (F_X12_isMean h x0 x1) K := by
  unfold F_X12_isMean
  refine x_iload_n hO 1 rfl rfl dX12_isMean_0 ?_
  refine x_if_lt hO (tg := 18) dX12_isMean_1 (by decide) ?_ ?_
  · refine x_iconst hO (v := 0) (by decide) dX12_isMean_18 ?_
    exact x_zretv hO rfl (by decide) dX12_isMean_19 (hR _)
  · refine x_iload_n hO 1 rfl rfl dX12_isMean_4 ?_
    refine x_aload_n hO 0 rfl rfl dX12_isMean_5 ?_
    refine x_getR hO fl_RX12_7 hx0 dX12_isMean_6 ?_
    refine x_iconst hO (v := 3) (by decide) dX12_isMean_9 ?_
    refine x_iald hO (gr_12_0 hx0) dX12_isMean_10 ?_
    refine x_icmp_ge hO (tg := 18) dX12_isMean_11 (by decide) ?_ ?_
    · refine x_iconst hO (v := 0) (by decide) dX12_isMean_18 ?_
      exact x_zretv hO rfl (by decide) dX12_isMean_19 (hR _)
    · refine x_iconst hO (v := 1) (by decide) dX12_isMean_14 ?_
      refine x_goto hO (tg := 19) dX12_isMean_15 (by decide) ?_
      exact x_zretv hO rfl (by decide) dX12_isMean_19 (hR _)
theorem ok_X12_isMean (G : Gl) (h : Hp) (x0 : Nat) (x1 : Int32) (hx0 : Is x0 12) : CN G mX12_isMean [.ref (gb G + x0), .int x1] h ((F_X12_isMean h x0 x1).map (emPI h)) := CN.fn pn_RX12 (Nat.le_of_ble_eq_true rfl) (fun Γ hG hO => by subst hG; exact go_X12_isMean hO h x0 x1 hx0 (fun _ q => q))
noncomputable def F_X12_isSmall (h : Hp) (x0 : Int32) : Option (Int32) :=
  if x0 < ((97 : Int32)) then some ((0 : Int32)) else if ((122 : Int32)) < x0 then some ((0 : Int32)) else some ((1 : Int32))
set_option maxHeartbeats 4000000 in
set_option maxRecDepth 100000 in
theorem go_X12_isSmall {Γ : Cx} (hO : Ok Γ mX12_isSmall) (h : Hp) (x0 : Int32) {K : Int32 → Prop} (hR : ∀ r, K r → emPI h r = tgt Γ) : EG Γ mX12_isSmall 0 [(0, .int x0)] [] h (F_X12_isSmall h x0) K := by
  unfold F_X12_isSmall
  refine x_iload_n hO 0 rfl rfl dX12_isSmall_0 ?_
  refine x_bipush hO (v := 97) (by decide) dX12_isSmall_1 ?_
  refine x_icmp_lt hO (tg := 16) dX12_isSmall_3 (by decide) ?_ ?_
  · refine x_iconst hO (v := 0) (by decide) dX12_isSmall_16 ?_
    exact x_zretv hO rfl (by decide) dX12_isSmall_17 (hR _)
  · refine x_iload_n hO 0 rfl rfl dX12_isSmall_6 ?_
    refine x_bipush hO (v := 122) (by decide) dX12_isSmall_7 ?_
    refine x_icmp_gt hO (tg := 16) dX12_isSmall_9 (by decide) ?_ ?_
    · refine x_iconst hO (v := 0) (by decide) dX12_isSmall_16 ?_
      exact x_zretv hO rfl (by decide) dX12_isSmall_17 (hR _)
    · refine x_iconst hO (v := 1) (by decide) dX12_isSmall_12 ?_
      refine x_goto hO (tg := 17) dX12_isSmall_13 (by decide) ?_
      exact x_zretv hO rfl (by decide) dX12_isSmall_17 (hR _)
theorem ok_X12_isSmall (G : Gl) (h : Hp) (x0 : Int32) : CN G mX12_isSmall [.int x0] h ((F_X12_isSmall h x0).map (emPI h)) := CN.fn pn_RX12 (Nat.le_of_ble_eq_true rfl) (fun Γ hG hO => by subst hG; exact go_X12_isSmall hO h x0 (fun _ q => q))
noncomputable def B_X12_isTold_29 (h : Hp) (x0 : Nat) (x1 : Int32) (x2 : Int32) (x3 : Int32) : Option ((Int32 × Int32) ⊕ (Int32)) :=
  if ((12 : Int32)) ≤ x3 then some (.inr (x2 &&& 1)) else if x2 = 0 then some (.inl ((0 : Int32), x3 + (1 : Int32))) else gd (ib ((((60 : Int32)) * x1) + x3) (LEN (GR x0 6))) (gd (ib x3 (LEN (GR x0 39))) (if (lg_cmp (hL h (GR x0 6) (nx ((((60 : Int32)) * x1) + x3))) ((hI h (GR x0 39) (nx x3)).toInt64)) = 0 then some (.inl ((1 : Int32), x3 + (1 : Int32))) else some (.inl ((0 : Int32), x3 + (1 : Int32)))))
noncomputable def L_X12_isTold_29 (h : Hp) (x0 : Nat) (x1 : Int32) (x2 : Int32) (x3 : Int32) : Option (Int32) := iterW (fun s : Int32 × Int32 => B_X12_isTold_29 h x0 x1 s.1 s.2) (x2, x3)
set_option maxHeartbeats 4000000 in
set_option maxRecDepth 100000 in
theorem go_X12_isTold_B29 {Γ : Cx} (hO : Ok Γ mX12_isTold) (h : Hp) (x0 : Nat) (x1 : Int32) (x2 : Int32) (x3 : Int32) (hx0 : Is x0 12) {K : (Int32 × Int32) ⊕ (Int32) → Prop} (hC : ∀ (x2 : Int32) (x3 : Int32), K (.inl (x2, x3)) → EW Γ mX12_isTold 29 [(0, rf Γ x0), (1, .int x1), (2, .int x2), (3, .int x3)] [] h) (hR : ∀ r, K (.inr r) → emPI h r = tgt Γ) : EG Γ mX12_isTold 29 [(0, rf Γ x0), (1, .int x1), (2, .int x2), (3, .int x3)] [] h (B_X12_isTold_29 h x0 x1 x2 x3) K := by
  unfold B_X12_isTold_29
  refine x_iload_n hO 3 rfl rfl dX12_isTold_29 ?_
  refine x_bipush hO (v := 12) (by decide) dX12_isTold_30 ?_
  refine x_icmp_ge hO (tg := 73) dX12_isTold_32 (by decide) ?_ ?_
  · refine x_iload_n hO 2 rfl rfl dX12_isTold_73 ?_
    exact x_zret hO rfl dX12_isTold_74 (hR _)
  · refine x_iload_n hO 2 rfl rfl dX12_isTold_35 ?_
    refine x_if_eq hO (tg := 65) dX12_isTold_36 (by decide) ?_ ?_
    · refine x_iconst hO (v := 0) (by decide) dX12_isTold_65 ?_
      refine x_istore_n hO rfl [(2, .int ((0 : Int32))), (0, rf Γ x0), (1, .int x1), (3, .int x3)] dX12_isTold_66 (by decide) rfl ?_
      refine x_iinc hO 3 (v := 1) [(3, .int (x3 + (1 : Int32))), (2, .int ((0 : Int32))), (0, rf Γ x0), (1, .int x1)] dX12_isTold_67 rfl (by decide) (by decide) rfl ?_
      refine x_goto hO (tg := 29) dX12_isTold_70 (by decide) ?_
      exact x_leafs [2, 3, 1, 0] rfl (hC ((0 : Int32)) (x3 + (1 : Int32)))
    · refine x_aload_n hO 0 rfl rfl dX12_isTold_39 ?_
      refine x_getR hO fl_RX12_23 hx0 dX12_isTold_40 ?_
      refine x_bipush hO (v := 60) (by decide) dX12_isTold_43 ?_
      refine x_iload_n hO 1 rfl rfl dX12_isTold_45 ?_
      refine x_imul hO dX12_isTold_46 ?_
      refine x_iload_n hO 3 rfl rfl dX12_isTold_47 ?_
      refine x_iadd hO dX12_isTold_48 ?_
      refine x_lald hO (gr_12_6 hx0) dX12_isTold_49 ?_
      refine x_aload_n hO 0 rfl rfl dX12_isTold_50 ?_
      refine x_getR hO fl_RX12_80 hx0 dX12_isTold_51 ?_
      refine x_iload_n hO 3 rfl rfl dX12_isTold_54 ?_
      refine x_iald hO (gr_12_39 hx0) dX12_isTold_55 ?_
      refine x_i2l hO dX12_isTold_56 ?_
      refine x_lcmp hO dX12_isTold_57 ?_
      refine x_if_ne hO (tg := 65) dX12_isTold_58 (by decide) ?_ ?_
      · refine x_iconst hO (v := 0) (by decide) dX12_isTold_65 ?_
        refine x_istore_n hO rfl [(2, .int ((0 : Int32))), (0, rf Γ x0), (1, .int x1), (3, .int x3)] dX12_isTold_66 (by decide) rfl ?_
        refine x_iinc hO 3 (v := 1) [(3, .int (x3 + (1 : Int32))), (2, .int ((0 : Int32))), (0, rf Γ x0), (1, .int x1)] dX12_isTold_67 rfl (by decide) (by decide) rfl ?_
        refine x_goto hO (tg := 29) dX12_isTold_70 (by decide) ?_
        exact x_leafs [2, 3, 1, 0] rfl (hC ((0 : Int32)) (x3 + (1 : Int32)))
      · refine x_iconst hO (v := 1) (by decide) dX12_isTold_61 ?_
        refine x_goto hO (tg := 66) dX12_isTold_62 (by decide) ?_
        refine x_istore_n hO rfl [(2, .int ((1 : Int32))), (0, rf Γ x0), (1, .int x1), (3, .int x3)] dX12_isTold_66 (by decide) rfl ?_
        refine x_iinc hO 3 (v := 1) [(3, .int (x3 + (1 : Int32))), (2, .int ((1 : Int32))), (0, rf Γ x0), (1, .int x1)] dX12_isTold_67 rfl (by decide) (by decide) rfl ?_
        refine x_goto hO (tg := 29) dX12_isTold_70 (by decide) ?_
        exact x_leafs [2, 3, 1, 0] rfl (hC ((1 : Int32)) (x3 + (1 : Int32)))
set_option maxHeartbeats 4000000 in
set_option maxRecDepth 100000 in
theorem go_X12_isTold_L29 {Γ : Cx} (hO : Ok Γ mX12_isTold) (h : Hp) (x0 : Nat) (x1 : Int32) (x2 : Int32) (x3 : Int32) (hx0 : Is x0 12) {K : Int32 → Prop} (hR : ∀ r, K (r) → emPI h r = tgt Γ) : EG Γ mX12_isTold 29 [(0, rf Γ x0), (1, .int x1), (2, .int x2), (3, .int x3)] [] h (L_X12_isTold_29 h x0 x1 x2 x3) K := by
  have q := x_loop (Γ := Γ) (M := mX12_isTold) (pc := 29) (B := fun s : Int32 × Int32 => B_X12_isTold_29 h x0 x1 s.1 s.2) (lvf := fun s => [(0, rf Γ x0), (1, .int x1), (2, .int s.1), (3, .int s.2)]) (hf := fun s => h) (Ky := K) (fun s => go_X12_isTold_B29 hO h x0 x1 s.1 s.2 hx0 (fun _ _ => id) hR) (x2, x3)
  exact q
noncomputable def F_X12_isTold (h : Hp) (x0 : Nat) (x1 : Int32) : Option (Int32) :=
  gd (ib ((((60 : Int32)) * x1) + ((12 : Int32))) (LEN (GR x0 6))) (if (lg_cmp (hL h (GR x0 6) (nx ((((60 : Int32)) * x1) + ((12 : Int32))))) ((hI h x0 44).toInt64)) = 0 then L_X12_isTold_29 h x0 x1 ((1 : Int32)) ((0 : Int32)) else L_X12_isTold_29 h x0 x1 ((0 : Int32)) ((0 : Int32)))
set_option maxHeartbeats 4000000 in
set_option maxRecDepth 100000 in
theorem go_X12_isTold {Γ : Cx} (hO : Ok Γ mX12_isTold) (h : Hp) (x0 : Nat) (x1 : Int32) (hx0 : Is x0 12) {K : Int32 → Prop} (hR : ∀ r, K r → emPI h r = tgt Γ) : EG Γ mX12_isTold 0 [(0, rf Γ x0), (1, .int x1)] [] h (F_X12_isTold h x0 x1) K := by
  unfold F_X12_isTold
  refine x_aload_n hO 0 rfl rfl dX12_isTold_0 ?_
  refine x_getR hO fl_RX12_23 hx0 dX12_isTold_1 ?_
  refine x_bipush hO (v := 60) (by decide) dX12_isTold_4 ?_
  refine x_iload_n hO 1 rfl rfl dX12_isTold_6 ?_
  refine x_imul hO dX12_isTold_7 ?_
  refine x_bipush hO (v := 12) (by decide) dX12_isTold_8 ?_
  refine x_iadd hO dX12_isTold_10 ?_
  refine x_lald hO (gr_12_6 hx0) dX12_isTold_11 ?_
  refine x_aload_n hO 0 rfl rfl dX12_isTold_12 ?_
  refine x_getI hO fl_RX12_365 hx0 dX12_isTold_13 ?_
  refine x_i2l hO dX12_isTold_16 ?_
  refine x_lcmp hO dX12_isTold_17 ?_
  refine x_if_ne hO (tg := 25) dX12_isTold_18 (by decide) ?_ ?_
  · refine x_iconst hO (v := 0) (by decide) dX12_isTold_25 ?_
    refine x_istore_n hO rfl [(2, .int ((0 : Int32))), (0, rf Γ x0), (1, .int x1)] dX12_isTold_26 (by decide) rfl ?_
    refine x_iconst hO (v := 0) (by decide) dX12_isTold_27 ?_
    refine x_istore_n hO rfl [(3, .int ((0 : Int32))), (2, .int ((0 : Int32))), (0, rf Γ x0), (1, .int x1)] dX12_isTold_28 (by decide) rfl ?_
    exact x_sub [2, 3, 1, 0] rfl (go_X12_isTold_L29 hO h x0 x1 ((0 : Int32)) ((0 : Int32)) hx0 hR)
  · refine x_iconst hO (v := 1) (by decide) dX12_isTold_21 ?_
    refine x_goto hO (tg := 26) dX12_isTold_22 (by decide) ?_
    refine x_istore_n hO rfl [(2, .int ((1 : Int32))), (0, rf Γ x0), (1, .int x1)] dX12_isTold_26 (by decide) rfl ?_
    refine x_iconst hO (v := 0) (by decide) dX12_isTold_27 ?_
    refine x_istore_n hO rfl [(3, .int ((0 : Int32))), (2, .int ((1 : Int32))), (0, rf Γ x0), (1, .int x1)] dX12_isTold_28 (by decide) rfl ?_
    exact x_sub [2, 3, 1, 0] rfl (go_X12_isTold_L29 hO h x0 x1 ((1 : Int32)) ((0 : Int32)) hx0 hR)
theorem ok_X12_isTold (G : Gl) (h : Hp) (x0 : Nat) (x1 : Int32) (hx0 : Is x0 12) : CN G mX12_isTold [.ref (gb G + x0), .int x1] h ((F_X12_isTold h x0 x1).map (emPI h)) := CN.fn pn_RX12 (Nat.le_of_ble_eq_true rfl) (fun Γ hG hO => by subst hG; exact go_X12_isTold hO h x0 x1 hx0 (fun _ q => q))
noncomputable def F_X12_isTray (h : Hp) (x0 : Int32) : Option (Int32) :=
  if x0 < 0 then some ((0 : Int32)) else if ((4 : Int32)) ≤ x0 then some ((0 : Int32)) else some ((1 : Int32))
set_option maxHeartbeats 4000000 in
set_option maxRecDepth 100000 in
theorem go_X12_isTray {Γ : Cx} (hO : Ok Γ mX12_isTray) (h : Hp) (x0 : Int32) {K : Int32 → Prop} (hR : ∀ r, K r → emPI h r = tgt Γ) : EG Γ mX12_isTray 0 [(0, .int x0)] [] h (F_X12_isTray h x0) K := by
  unfold F_X12_isTray
  refine x_iload_n hO 0 rfl rfl dX12_isTray_0 ?_
  refine x_if_lt hO (tg := 13) dX12_isTray_1 (by decide) ?_ ?_
  · refine x_iconst hO (v := 0) (by decide) dX12_isTray_13 ?_
    exact x_zretv hO rfl (by decide) dX12_isTray_14 (hR _)
  · refine x_iload_n hO 0 rfl rfl dX12_isTray_4 ?_
    refine x_iconst hO (v := 4) (by decide) dX12_isTray_5 ?_
    refine x_icmp_ge hO (tg := 13) dX12_isTray_6 (by decide) ?_ ?_
    · refine x_iconst hO (v := 0) (by decide) dX12_isTray_13 ?_
      exact x_zretv hO rfl (by decide) dX12_isTray_14 (hR _)
    · refine x_iconst hO (v := 1) (by decide) dX12_isTray_9 ?_
      refine x_goto hO (tg := 14) dX12_isTray_10 (by decide) ?_
      exact x_zretv hO rfl (by decide) dX12_isTray_14 (hR _)
theorem ok_X12_isTray (G : Gl) (h : Hp) (x0 : Int32) : CN G mX12_isTray [.int x0] h ((F_X12_isTray h x0).map (emPI h)) := CN.fn pn_RX12 (Nat.le_of_ble_eq_true rfl) (fun Γ hG hO => by subst hG; exact go_X12_isTray hO h x0 (fun _ q => q))
noncomputable def F_X12_isWheel (h : Hp) (x0 : Int32) : Option (Int32) :=
  if x0 < ((1 : Int32)) then some ((0 : Int32)) else if ((9 : Int32)) < x0 then some ((0 : Int32)) else some ((1 : Int32))
set_option maxHeartbeats 4000000 in
set_option maxRecDepth 100000 in
theorem go_X12_isWheel {Γ : Cx} (hO : Ok Γ mX12_isWheel) (h : Hp) (x0 : Int32) {K : Int32 → Prop} (hR : ∀ r, K r → emPI h r = tgt Γ) : EG Γ mX12_isWheel 0 [(0, .int x0)] [] h (F_X12_isWheel h x0) K := by
  unfold F_X12_isWheel
  refine x_iload_n hO 0 rfl rfl dX12_isWheel_0 ?_
  refine x_iconst hO (v := 1) (by decide) dX12_isWheel_1 ?_
  refine x_icmp_lt hO (tg := 15) dX12_isWheel_2 (by decide) ?_ ?_
  · refine x_iconst hO (v := 0) (by decide) dX12_isWheel_15 ?_
    exact x_zretv hO rfl (by decide) dX12_isWheel_16 (hR _)
  · refine x_iload_n hO 0 rfl rfl dX12_isWheel_5 ?_
    refine x_bipush hO (v := 9) (by decide) dX12_isWheel_6 ?_
    refine x_icmp_gt hO (tg := 15) dX12_isWheel_8 (by decide) ?_ ?_
    · refine x_iconst hO (v := 0) (by decide) dX12_isWheel_15 ?_
      exact x_zretv hO rfl (by decide) dX12_isWheel_16 (hR _)
    · refine x_iconst hO (v := 1) (by decide) dX12_isWheel_11 ?_
      refine x_goto hO (tg := 16) dX12_isWheel_12 (by decide) ?_
      exact x_zretv hO rfl (by decide) dX12_isWheel_16 (hR _)
theorem ok_X12_isWheel (G : Gl) (h : Hp) (x0 : Int32) : CN G mX12_isWheel [.int x0] h ((F_X12_isWheel h x0).map (emPI h)) := CN.fn pn_RX12 (Nat.le_of_ble_eq_true rfl) (fun Γ hG hO => by subst hG; exact go_X12_isWheel hO h x0 (fun _ q => q))
noncomputable def B_X12_joinedIn_3 (h : Hp) (x0 : Nat) (x1 : Int32) (x2 : Int32) (x3 : Int32) (x4 : Int32) : Option ((Int32) ⊕ (Int32)) :=
  gd (ib (x1 + ((4 : Int32))) (LEN (GR x0 0))) (if (hI h (GR x0 0) (nx (x1 + ((4 : Int32))))) ≤ x4 then some (.inr ((-1 : Int32))) else gd (ib (((x1 + ((412 : Int32))) + (((2 : Int32)) * x4)) + ((1 : Int32))) (LEN (GR x0 0))) (bnd (hI h (GR x0 0) (nx (((x1 + ((412 : Int32))) + (((2 : Int32)) * x4)) + ((1 : Int32))))) (fun v1 => gd (ib ((x1 + ((412 : Int32))) + (((2 : Int32)) * x4)) (LEN (GR x0 0))) (if (hI h (GR x0 0) (nx ((x1 + ((412 : Int32))) + (((2 : Int32)) * x4)))) = x2 then gd (ib ((x1 + ((372 : Int32))) + (((2 : Int32)) * v1)) (LEN (GR x0 0))) (if (hI h (GR x0 0) (nx ((x1 + ((372 : Int32))) + (((2 : Int32)) * v1)))) = x3 then some (.inr v1) else some (.inl (x4 + (1 : Int32)))) else some (.inl (x4 + (1 : Int32)))))))
noncomputable def L_X12_joinedIn_3 (h : Hp) (x0 : Nat) (x1 : Int32) (x2 : Int32) (x3 : Int32) (x4 : Int32) : Option (Int32) := iterW (fun s : Int32 => B_X12_joinedIn_3 h x0 x1 x2 x3 s) x4
set_option maxHeartbeats 4000000 in
set_option maxRecDepth 100000 in
theorem go_X12_joinedIn_B3 {Γ : Cx} (hO : Ok Γ mX12_joinedIn) (h : Hp) (x0 : Nat) (x1 : Int32) (x2 : Int32) (x3 : Int32) (x4 : Int32) (hx0 : Is x0 12) {K : (Int32) ⊕ (Int32) → Prop} (hC : ∀ (x4 : Int32), K (.inl x4) → EW Γ mX12_joinedIn 3 [(0, rf Γ x0), (1, .int x1), (2, .int x2), (3, .int x3), (4, .int x4)] [] h) (hR : ∀ r, K (.inr r) → emPI h r = tgt Γ) : EG Γ mX12_joinedIn 3 [(0, rf Γ x0), (1, .int x1), (2, .int x2), (3, .int x3), (4, .int x4)] [] h (B_X12_joinedIn_3 h x0 x1 x2 x3 x4) K := by
  unfold B_X12_joinedIn_3
  refine x_iload hO 4 rfl dX12_joinedIn_3 ?_
  refine x_aload_n hO 0 rfl rfl dX12_joinedIn_5 ?_
  refine x_getR hO fl_RX12_7 hx0 dX12_joinedIn_6 ?_
  refine x_iload_n hO 1 rfl rfl dX12_joinedIn_9 ?_
  refine x_iconst hO (v := 4) (by decide) dX12_joinedIn_10 ?_
  refine x_iadd hO dX12_joinedIn_11 ?_
  refine x_iald hO (gr_12_0 hx0) dX12_joinedIn_12 ?_
  refine x_icmp_ge hO (tg := 82) dX12_joinedIn_13 (by decide) ?_ ?_
  · refine x_iconst hO (v := -1) (by decide) dX12_joinedIn_82 ?_
    exact x_iret hO rfl dX12_joinedIn_83 (hR _)
  · refine x_aload_n hO 0 rfl rfl dX12_joinedIn_16 ?_
    refine x_getR hO fl_RX12_7 hx0 dX12_joinedIn_17 ?_
    refine x_iload_n hO 1 rfl rfl dX12_joinedIn_20 ?_
    refine x_sipush hO (v := 412) (by decide) dX12_joinedIn_21 ?_
    refine x_iadd hO dX12_joinedIn_24 ?_
    refine x_iconst hO (v := 2) (by decide) dX12_joinedIn_25 ?_
    refine x_iload hO 4 rfl dX12_joinedIn_26 ?_
    refine x_imul hO dX12_joinedIn_28 ?_
    refine x_iadd hO dX12_joinedIn_29 ?_
    refine x_iconst hO (v := 1) (by decide) dX12_joinedIn_30 ?_
    refine x_iadd hO dX12_joinedIn_31 ?_
    refine x_iald hO (gr_12_0 hx0) dX12_joinedIn_32 ?_
    refine x_bnd ?_
    generalize hI h (GR x0 0) (nx (((x1 + ((412 : Int32))) + (((2 : Int32)) * x4)) + ((1 : Int32)))) = v1
    refine x_istore hO [(5, .int v1), (0, rf Γ x0), (1, .int x1), (2, .int x2), (3, .int x3), (4, .int x4)] dX12_joinedIn_33 (by decide) rfl ?_
    refine x_aload_n hO 1 rfl rfl dX12_joinedIn_35 ?_
    refine x_getR hO fl_RX12_7 hx0 dX12_joinedIn_36 ?_
    refine x_iload_n hO 2 rfl rfl dX12_joinedIn_39 ?_
    refine x_sipush hO (v := 412) (by decide) dX12_joinedIn_40 ?_
    refine x_iadd hO dX12_joinedIn_43 ?_
    refine x_iconst hO (v := 2) (by decide) dX12_joinedIn_44 ?_
    refine x_iload hO 5 rfl dX12_joinedIn_45 ?_
    refine x_imul hO dX12_joinedIn_47 ?_
    refine x_iadd hO dX12_joinedIn_48 ?_
    refine x_iald hO (gr_12_0 hx0) dX12_joinedIn_49 ?_
    refine x_iload_n hO 3 rfl rfl dX12_joinedIn_50 ?_
    refine x_icmp_ne hO (tg := 76) dX12_joinedIn_51 (by decide) ?_ ?_
    · refine x_iinc hO 5 (v := 1) [(4, .int (x4 + (1 : Int32))), (5, .int v1), (0, rf Γ x0), (1, .int x1), (2, .int x2), (3, .int x3)] dX12_joinedIn_76 rfl (by decide) (by decide) rfl ?_
      refine x_goto hO (tg := 3) dX12_joinedIn_79 (by decide) ?_
      exact x_leafs [2, 3, 4, 5, 0] rfl (hC (x4 + (1 : Int32)))
    · refine x_aload_n hO 1 rfl rfl dX12_joinedIn_54 ?_
      refine x_getR hO fl_RX12_7 hx0 dX12_joinedIn_55 ?_
      refine x_iload_n hO 2 rfl rfl dX12_joinedIn_58 ?_
      refine x_sipush hO (v := 372) (by decide) dX12_joinedIn_59 ?_
      refine x_iadd hO dX12_joinedIn_62 ?_
      refine x_iconst hO (v := 2) (by decide) dX12_joinedIn_63 ?_
      refine x_iload hO 0 rfl dX12_joinedIn_64 ?_
      refine x_imul hO dX12_joinedIn_66 ?_
      refine x_iadd hO dX12_joinedIn_67 ?_
      refine x_iald hO (gr_12_0 hx0) dX12_joinedIn_68 ?_
      refine x_iload_n hO 4 rfl rfl dX12_joinedIn_69 ?_
      refine x_icmp_ne hO (tg := 76) dX12_joinedIn_70 (by decide) ?_ ?_
      · refine x_iinc hO 5 (v := 1) [(4, .int (x4 + (1 : Int32))), (5, .int v1), (0, rf Γ x0), (1, .int x1), (2, .int x2), (3, .int x3)] dX12_joinedIn_76 rfl (by decide) (by decide) rfl ?_
        refine x_goto hO (tg := 3) dX12_joinedIn_79 (by decide) ?_
        exact x_leafs [2, 3, 4, 5, 0] rfl (hC (x4 + (1 : Int32)))
      · refine x_iload hO 0 rfl dX12_joinedIn_73 ?_
        exact x_iret hO rfl dX12_joinedIn_75 (hR _)
set_option maxHeartbeats 4000000 in
set_option maxRecDepth 100000 in
theorem go_X12_joinedIn_L3 {Γ : Cx} (hO : Ok Γ mX12_joinedIn) (h : Hp) (x0 : Nat) (x1 : Int32) (x2 : Int32) (x3 : Int32) (x4 : Int32) (hx0 : Is x0 12) {K : Int32 → Prop} (hR : ∀ r, K (r) → emPI h r = tgt Γ) : EG Γ mX12_joinedIn 3 [(0, rf Γ x0), (1, .int x1), (2, .int x2), (3, .int x3), (4, .int x4)] [] h (L_X12_joinedIn_3 h x0 x1 x2 x3 x4) K := by
  have q := x_loop (Γ := Γ) (M := mX12_joinedIn) (pc := 3) (B := fun s : Int32 => B_X12_joinedIn_3 h x0 x1 x2 x3 s) (lvf := fun s => [(0, rf Γ x0), (1, .int x1), (2, .int x2), (3, .int x3), (4, .int s)]) (hf := fun s => h) (Ky := K) (fun s => go_X12_joinedIn_B3 hO h x0 x1 x2 x3 s hx0 (fun _ => id) hR) x4
  exact q
noncomputable def F_X12_joinedIn (h : Hp) (x0 : Nat) (x1 : Int32) (x2 : Int32) (x3 : Int32) : Option (Int32) :=
  L_X12_joinedIn_3 h x0 x1 x2 x3 ((0 : Int32))
set_option maxHeartbeats 4000000 in
set_option maxRecDepth 100000 in
theorem go_X12_joinedIn {Γ : Cx} (hO : Ok Γ mX12_joinedIn) (h : Hp) (x0 : Nat) (x1 : Int32) (x2 : Int32) (x3 : Int32) (hx0 : Is x0 12) {K : Int32 → Prop} (hR : ∀ r, K r → emPI h r = tgt Γ) : EG Γ mX12_joinedIn 0 [(0, rf Γ x0), (1, .int x1), (2, .int x2), (3, .int x3)] [] h (F_X12_joinedIn h x0 x1 x2 x3) K := by
  unfold F_X12_joinedIn
  refine x_iconst hO (v := 0) (by decide) dX12_joinedIn_0 ?_
  refine x_istore hO [(4, .int ((0 : Int32))), (0, rf Γ x0), (1, .int x1), (2, .int x2), (3, .int x3)] dX12_joinedIn_1 (by decide) rfl ?_
  exact x_sub [1, 2, 3, 4, 0] rfl (go_X12_joinedIn_L3 hO h x0 x1 x2 x3 ((0 : Int32)) hx0 hR)
theorem ok_X12_joinedIn (G : Gl) (h : Hp) (x0 : Nat) (x1 : Int32) (x2 : Int32) (x3 : Int32) (hx0 : Is x0 12) : CN G mX12_joinedIn [.ref (gb G + x0), .int x1, .int x2, .int x3] h ((F_X12_joinedIn h x0 x1 x2 x3).map (emPI h)) := CN.fn pn_RX12 (Nat.le_of_ble_eq_true rfl) (fun Γ hG hO => by subst hG; exact go_X12_joinedIn hO h x0 x1 x2 x3 hx0 (fun _ q => q))
noncomputable def F_X12_keepsSet (h : Hp) (x0 : Nat) (x1 : Int32) (x2 : Int32) (x3 : Int32) (x4 : Int32) : Option (Hp) :=
  if (hI (uI h x0 43 ((hI h x0 43) + ((1 : Int32)))) x0 43) ≤ ((1 : Int32)) then gd (ib ((0 : Int32)) (LEN (GR x0 40))) (gd (ib ((0 : Int32)) (LEN (GR x0 41))) (gd (ib ((1 : Int32)) (LEN (GR x0 40))) (bnd (uI (uI (uI (uI h x0 43 ((hI h x0 43) + ((1 : Int32)))) (GR x0 40) (nx ((0 : Int32))) x1) (GR x0 41) (nx ((0 : Int32))) x2) (GR x0 40) (nx ((1 : Int32))) x3) (fun h1 => gd (ib ((1 : Int32)) (LEN (GR x0 41))) (some (uI h1 (GR x0 41) (nx ((1 : Int32))) x4)))))) else some (uI h x0 43 ((hI h x0 43) + ((1 : Int32))))
set_option maxHeartbeats 4000000 in
set_option maxRecDepth 100000 in
theorem go_X12_keepsSet {Γ : Cx} (hO : Ok Γ mX12_keepsSet) (h : Hp) (x0 : Nat) (x1 : Int32) (x2 : Int32) (x3 : Int32) (x4 : Int32) (hx0 : Is x0 12) {K : Hp → Prop} (hR : ∀ r, K r → emHV r = tgt Γ) : EG Γ mX12_keepsSet 0 [(0, rf Γ x0), (1, .int x1), (2, .int x2), (3, .int x3), (4, .int x4)] [] h (F_X12_keepsSet h x0 x1 x2 x3 x4) K := by
  unfold F_X12_keepsSet
  refine x_aload_n hO 0 rfl rfl dX12_keepsSet_0 ?_
  refine x_dup_r hO dX12_keepsSet_1 ?_
  refine x_getI hO fl_RX12_374 hx0 dX12_keepsSet_2 ?_
  refine x_iconst hO (v := 1) (by decide) dX12_keepsSet_5 ?_
  refine x_iadd hO dX12_keepsSet_6 ?_
  refine x_putI hO fl_RX12_374 hx0 dX12_keepsSet_7 ?_
  refine x_aload_n hO 0 rfl rfl dX12_keepsSet_10 ?_
  refine x_getI hO fl_RX12_374 hx0 dX12_keepsSet_11 ?_
  refine x_iconst hO (v := 1) (by decide) dX12_keepsSet_14 ?_
  refine x_icmp_le hO (tg := 19) dX12_keepsSet_15 (by decide) ?_ ?_
  · refine x_aload_n hO 0 rfl rfl dX12_keepsSet_19 ?_
    refine x_getR hO fl_RX12_83 hx0 dX12_keepsSet_20 ?_
    refine x_iconst hO (v := 0) (by decide) dX12_keepsSet_23 ?_
    refine x_iload_n hO 1 rfl rfl dX12_keepsSet_24 ?_
    refine x_iast hO (gr_12_40 hx0) dX12_keepsSet_25 ?_
    refine x_aload_n hO 0 rfl rfl dX12_keepsSet_26 ?_
    refine x_getR hO fl_RX12_86 hx0 dX12_keepsSet_27 ?_
    refine x_iconst hO (v := 0) (by decide) dX12_keepsSet_30 ?_
    refine x_iload_n hO 2 rfl rfl dX12_keepsSet_31 ?_
    refine x_iast hO (gr_12_41 hx0) dX12_keepsSet_32 ?_
    refine x_aload_n hO 0 rfl rfl dX12_keepsSet_33 ?_
    refine x_getR hO fl_RX12_83 hx0 dX12_keepsSet_34 ?_
    refine x_iconst hO (v := 1) (by decide) dX12_keepsSet_37 ?_
    refine x_iload_n hO 3 rfl rfl dX12_keepsSet_38 ?_
    refine x_iast hO (gr_12_40 hx0) dX12_keepsSet_39 ?_
    refine x_bnd ?_
    generalize uI (uI (uI (uI h x0 43 ((hI h x0 43) + ((1 : Int32)))) (GR x0 40) (nx ((0 : Int32))) x1) (GR x0 41) (nx ((0 : Int32))) x2) (GR x0 40) (nx ((1 : Int32))) x3 = h1
    refine x_aload_n hO 0 rfl rfl dX12_keepsSet_40 ?_
    refine x_getR hO fl_RX12_86 hx0 dX12_keepsSet_41 ?_
    refine x_iconst hO (v := 1) (by decide) dX12_keepsSet_44 ?_
    refine x_iload hO 4 rfl dX12_keepsSet_45 ?_
    refine x_iast hO (gr_12_41 hx0) dX12_keepsSet_47 ?_
    exact x_vret hO rfl dX12_keepsSet_48 (hR _)
  · exact x_vret hO rfl dX12_keepsSet_18 (hR _)
theorem ok_X12_keepsSet (G : Gl) (h : Hp) (x0 : Nat) (x1 : Int32) (x2 : Int32) (x3 : Int32) (x4 : Int32) (hx0 : Is x0 12) : CN G mX12_keepsSet [.ref (gb G + x0), .int x1, .int x2, .int x3, .int x4] h ((F_X12_keepsSet h x0 x1 x2 x3 x4).map (emHV)) := CN.fn pn_RX12 (Nat.le_of_ble_eq_true rfl) (fun Γ hG hO => by subst hG; exact go_X12_keepsSet hO h x0 x1 x2 x3 x4 hx0 (fun _ q => q))
noncomputable def B_X12_lays_2 (h : Hp) (x0 : Nat) (x1 : Int32) : Option ((Hp × Int32) ⊕ (Hp)) :=
  gd (ib ((0 : Int32)) (LEN (GR x0 0))) (if (hI h (GR x0 0) (nx ((0 : Int32)))) ≤ x1 then some (.inr h) else gd (ib x1 (LEN (GR x0 25))) (gd (ib (((338 : Int32)) + x1) (LEN (GR x0 0))) (some (.inl (uI h (GR x0 0) (nx (((338 : Int32)) + x1)) (hI h (GR x0 25) (nx x1)), x1 + (1 : Int32))))))
noncomputable def L_X12_lays_2 (h : Hp) (x0 : Nat) (x1 : Int32) : Option (Hp) := iterW (fun s : Hp × Int32 => B_X12_lays_2 s.1 x0 s.2) (h, x1)
set_option maxHeartbeats 4000000 in
set_option maxRecDepth 100000 in
theorem go_X12_lays_B2 {Γ : Cx} (hO : Ok Γ mX12_lays) (h : Hp) (x0 : Nat) (x1 : Int32) (hx0 : Is x0 12) {K : (Hp × Int32) ⊕ (Hp) → Prop} (hC : ∀ (h : Hp) (x1 : Int32), K (.inl (h, x1)) → EW Γ mX12_lays 2 [(0, rf Γ x0), (1, .int x1)] [] h) (hR : ∀ r, K (.inr r) → emHV r = tgt Γ) : EG Γ mX12_lays 2 [(0, rf Γ x0), (1, .int x1)] [] h (B_X12_lays_2 h x0 x1) K := by
  unfold B_X12_lays_2
  refine x_iload_n hO 1 rfl rfl dX12_lays_2 ?_
  refine x_aload_n hO 0 rfl rfl dX12_lays_3 ?_
  refine x_getR hO fl_RX12_7 hx0 dX12_lays_4 ?_
  refine x_iconst hO (v := 0) (by decide) dX12_lays_7 ?_
  refine x_iald hO (gr_12_0 hx0) dX12_lays_8 ?_
  refine x_icmp_ge hO (tg := 34) dX12_lays_9 (by decide) ?_ ?_
  · exact x_vret hO rfl dX12_lays_34 (hR _)
  · refine x_aload_n hO 0 rfl rfl dX12_lays_12 ?_
    refine x_getR hO fl_RX12_7 hx0 dX12_lays_13 ?_
    refine x_sipush hO (v := 338) (by decide) dX12_lays_16 ?_
    refine x_iload_n hO 1 rfl rfl dX12_lays_19 ?_
    refine x_iadd hO dX12_lays_20 ?_
    refine x_aload_n hO 0 rfl rfl dX12_lays_21 ?_
    refine x_getR hO fl_RX12_56 hx0 dX12_lays_22 ?_
    refine x_iload_n hO 1 rfl rfl dX12_lays_25 ?_
    refine x_iald hO (gr_12_25 hx0) dX12_lays_26 ?_
    refine x_iast hO (gr_12_0 hx0) dX12_lays_27 ?_
    refine x_iinc hO 1 (v := 1) [(1, .int (x1 + (1 : Int32))), (0, rf Γ x0)] dX12_lays_28 rfl (by decide) (by decide) rfl ?_
    refine x_goto hO (tg := 2) dX12_lays_31 (by decide) ?_
    exact x_leafs [1, 0] rfl (hC (uI h (GR x0 0) (nx (((338 : Int32)) + x1)) (hI h (GR x0 25) (nx x1))) (x1 + (1 : Int32)))
set_option maxHeartbeats 4000000 in
set_option maxRecDepth 100000 in
theorem go_X12_lays_L2 {Γ : Cx} (hO : Ok Γ mX12_lays) (h : Hp) (x0 : Nat) (x1 : Int32) (hx0 : Is x0 12) {K : Hp → Prop} (hR : ∀ r, K (r) → emHV r = tgt Γ) : EG Γ mX12_lays 2 [(0, rf Γ x0), (1, .int x1)] [] h (L_X12_lays_2 h x0 x1) K := by
  have q := x_loop (Γ := Γ) (M := mX12_lays) (pc := 2) (B := fun s : Hp × Int32 => B_X12_lays_2 s.1 x0 s.2) (lvf := fun s => [(0, rf Γ x0), (1, .int s.2)]) (hf := fun s => s.1) (Ky := K) (fun s => go_X12_lays_B2 hO s.1 x0 s.2 hx0 (fun _ _ => id) hR) (h, x1)
  exact q
noncomputable def F_X12_lays (h : Hp) (x0 : Nat) : Option (Hp) :=
  L_X12_lays_2 h x0 ((0 : Int32))
set_option maxHeartbeats 4000000 in
set_option maxRecDepth 100000 in
theorem go_X12_lays {Γ : Cx} (hO : Ok Γ mX12_lays) (h : Hp) (x0 : Nat) (hx0 : Is x0 12) {K : Hp → Prop} (hR : ∀ r, K r → emHV r = tgt Γ) : EG Γ mX12_lays 0 [(0, rf Γ x0)] [] h (F_X12_lays h x0) K := by
  unfold F_X12_lays
  refine x_iconst hO (v := 0) (by decide) dX12_lays_0 ?_
  refine x_istore_n hO rfl [(1, .int ((0 : Int32))), (0, rf Γ x0)] dX12_lays_1 (by decide) rfl ?_
  exact x_sub [1, 0] rfl (go_X12_lays_L2 hO h x0 ((0 : Int32)) hx0 hR)
theorem ok_X12_lays (G : Gl) (h : Hp) (x0 : Nat) (hx0 : Is x0 12) : CN G mX12_lays [.ref (gb G + x0)] h ((F_X12_lays h x0).map (emHV)) := CN.fn pn_RX12 (Nat.le_of_ble_eq_true rfl) (fun Γ hG hO => by subst hG; exact go_X12_lays hO h x0 hx0 (fun _ q => q))
noncomputable def B_X12_meaningOf_2 (h : Hp) (x0 : Nat) (x1 : Int32) (x2 : Int32) (x3 : Int32) : Option ((Int32) ⊕ (Int32)) :=
  gd (ib ((3 : Int32)) (LEN (GR x0 0))) (if (hI h (GR x0 0) (nx ((3 : Int32)))) ≤ x3 then some (.inr ((-1 : Int32))) else gd (ib (((372 : Int32)) + (((2 : Int32)) * x3)) (LEN (GR x0 0))) (if (hI h (GR x0 0) (nx (((372 : Int32)) + (((2 : Int32)) * x3)))) = x2 then gd (ib ((((372 : Int32)) + (((2 : Int32)) * x3)) + ((1 : Int32))) (LEN (GR x0 0))) (if (hI h (GR x0 0) (nx ((((372 : Int32)) + (((2 : Int32)) * x3)) + ((1 : Int32))))) = x1 then some (.inr x3) else some (.inl (x3 + (1 : Int32)))) else some (.inl (x3 + (1 : Int32)))))
noncomputable def L_X12_meaningOf_2 (h : Hp) (x0 : Nat) (x1 : Int32) (x2 : Int32) (x3 : Int32) : Option (Int32) := iterW (fun s : Int32 => B_X12_meaningOf_2 h x0 x1 x2 s) x3
set_option maxHeartbeats 4000000 in
set_option maxRecDepth 100000 in
theorem go_X12_meaningOf_B2 {Γ : Cx} (hO : Ok Γ mX12_meaningOf) (h : Hp) (x0 : Nat) (x1 : Int32) (x2 : Int32) (x3 : Int32) (hx0 : Is x0 12) {K : (Int32) ⊕ (Int32) → Prop} (hC : ∀ (x3 : Int32), K (.inl x3) → EW Γ mX12_meaningOf 2 [(0, rf Γ x0), (1, .int x1), (2, .int x2), (3, .int x3)] [] h) (hR : ∀ r, K (.inr r) → emPI h r = tgt Γ) : EG Γ mX12_meaningOf 2 [(0, rf Γ x0), (1, .int x1), (2, .int x2), (3, .int x3)] [] h (B_X12_meaningOf_2 h x0 x1 x2 x3) K := by
  unfold B_X12_meaningOf_2
  refine x_iload_n hO 3 rfl rfl dX12_meaningOf_2 ?_
  refine x_aload_n hO 0 rfl rfl dX12_meaningOf_3 ?_
  refine x_getR hO fl_RX12_7 hx0 dX12_meaningOf_4 ?_
  refine x_iconst hO (v := 3) (by decide) dX12_meaningOf_7 ?_
  refine x_iald hO (gr_12_0 hx0) dX12_meaningOf_8 ?_
  refine x_icmp_ge hO (tg := 54) dX12_meaningOf_9 (by decide) ?_ ?_
  · refine x_iconst hO (v := -1) (by decide) dX12_meaningOf_54 ?_
    exact x_iret hO rfl dX12_meaningOf_55 (hR _)
  · refine x_aload_n hO 0 rfl rfl dX12_meaningOf_12 ?_
    refine x_getR hO fl_RX12_7 hx0 dX12_meaningOf_13 ?_
    refine x_sipush hO (v := 372) (by decide) dX12_meaningOf_16 ?_
    refine x_iconst hO (v := 2) (by decide) dX12_meaningOf_19 ?_
    refine x_iload_n hO 3 rfl rfl dX12_meaningOf_20 ?_
    refine x_imul hO dX12_meaningOf_21 ?_
    refine x_iadd hO dX12_meaningOf_22 ?_
    refine x_iald hO (gr_12_0 hx0) dX12_meaningOf_23 ?_
    refine x_iload_n hO 2 rfl rfl dX12_meaningOf_24 ?_
    refine x_icmp_ne hO (tg := 48) dX12_meaningOf_25 (by decide) ?_ ?_
    · refine x_iinc hO 3 (v := 1) [(3, .int (x3 + (1 : Int32))), (0, rf Γ x0), (1, .int x1), (2, .int x2)] dX12_meaningOf_48 rfl (by decide) (by decide) rfl ?_
      refine x_goto hO (tg := 2) dX12_meaningOf_51 (by decide) ?_
      exact x_leafs [1, 2, 3, 0] rfl (hC (x3 + (1 : Int32)))
    · refine x_aload_n hO 0 rfl rfl dX12_meaningOf_28 ?_
      refine x_getR hO fl_RX12_7 hx0 dX12_meaningOf_29 ?_
      refine x_sipush hO (v := 372) (by decide) dX12_meaningOf_32 ?_
      refine x_iconst hO (v := 2) (by decide) dX12_meaningOf_35 ?_
      refine x_iload_n hO 3 rfl rfl dX12_meaningOf_36 ?_
      refine x_imul hO dX12_meaningOf_37 ?_
      refine x_iadd hO dX12_meaningOf_38 ?_
      refine x_iconst hO (v := 1) (by decide) dX12_meaningOf_39 ?_
      refine x_iadd hO dX12_meaningOf_40 ?_
      refine x_iald hO (gr_12_0 hx0) dX12_meaningOf_41 ?_
      refine x_iload_n hO 1 rfl rfl dX12_meaningOf_42 ?_
      refine x_icmp_ne hO (tg := 48) dX12_meaningOf_43 (by decide) ?_ ?_
      · refine x_iinc hO 3 (v := 1) [(3, .int (x3 + (1 : Int32))), (0, rf Γ x0), (1, .int x1), (2, .int x2)] dX12_meaningOf_48 rfl (by decide) (by decide) rfl ?_
        refine x_goto hO (tg := 2) dX12_meaningOf_51 (by decide) ?_
        exact x_leafs [1, 2, 3, 0] rfl (hC (x3 + (1 : Int32)))
      · refine x_iload_n hO 3 rfl rfl dX12_meaningOf_46 ?_
        exact x_iret hO rfl dX12_meaningOf_47 (hR _)
set_option maxHeartbeats 4000000 in
set_option maxRecDepth 100000 in
theorem go_X12_meaningOf_L2 {Γ : Cx} (hO : Ok Γ mX12_meaningOf) (h : Hp) (x0 : Nat) (x1 : Int32) (x2 : Int32) (x3 : Int32) (hx0 : Is x0 12) {K : Int32 → Prop} (hR : ∀ r, K (r) → emPI h r = tgt Γ) : EG Γ mX12_meaningOf 2 [(0, rf Γ x0), (1, .int x1), (2, .int x2), (3, .int x3)] [] h (L_X12_meaningOf_2 h x0 x1 x2 x3) K := by
  have q := x_loop (Γ := Γ) (M := mX12_meaningOf) (pc := 2) (B := fun s : Int32 => B_X12_meaningOf_2 h x0 x1 x2 s) (lvf := fun s => [(0, rf Γ x0), (1, .int x1), (2, .int x2), (3, .int s)]) (hf := fun s => h) (Ky := K) (fun s => go_X12_meaningOf_B2 hO h x0 x1 x2 s hx0 (fun _ => id) hR) x3
  exact q
noncomputable def F_X12_meaningOf (h : Hp) (x0 : Nat) (x1 : Int32) (x2 : Int32) : Option (Int32) :=
  L_X12_meaningOf_2 h x0 x1 x2 ((0 : Int32))
set_option maxHeartbeats 4000000 in
set_option maxRecDepth 100000 in
theorem go_X12_meaningOf {Γ : Cx} (hO : Ok Γ mX12_meaningOf) (h : Hp) (x0 : Nat) (x1 : Int32) (x2 : Int32) (hx0 : Is x0 12) {K : Int32 → Prop} (hR : ∀ r, K r → emPI h r = tgt Γ) : EG Γ mX12_meaningOf 0 [(0, rf Γ x0), (1, .int x1), (2, .int x2)] [] h (F_X12_meaningOf h x0 x1 x2) K := by
  unfold F_X12_meaningOf
  refine x_iconst hO (v := 0) (by decide) dX12_meaningOf_0 ?_
  refine x_istore_n hO rfl [(3, .int ((0 : Int32))), (0, rf Γ x0), (1, .int x1), (2, .int x2)] dX12_meaningOf_1 (by decide) rfl ?_
  exact x_sub [1, 2, 3, 0] rfl (go_X12_meaningOf_L2 hO h x0 x1 x2 ((0 : Int32)) hx0 hR)
theorem ok_X12_meaningOf (G : Gl) (h : Hp) (x0 : Nat) (x1 : Int32) (x2 : Int32) (hx0 : Is x0 12) : CN G mX12_meaningOf [.ref (gb G + x0), .int x1, .int x2] h ((F_X12_meaningOf h x0 x1 x2).map (emPI h)) := CN.fn pn_RX12 (Nat.le_of_ble_eq_true rfl) (fun Γ hG hO => by subst hG; exact go_X12_meaningOf hO h x0 x1 x2 hx0 (fun _ q => q))
noncomputable def F_X12_ofCard (h : Hp) (x0 : Nat) (x1 : Int32) (x2 : Int32) : Option (Int32) :=
  gd (ib ((((8 : Int32)) + (((11 : Int32)) * x1)) + x2) (LEN (GR x0 0))) (some (hI h (GR x0 0) (nx ((((8 : Int32)) + (((11 : Int32)) * x1)) + x2))))
set_option maxHeartbeats 4000000 in
set_option maxRecDepth 100000 in
theorem go_X12_ofCard {Γ : Cx} (hO : Ok Γ mX12_ofCard) (h : Hp) (x0 : Nat) (x1 : Int32) (x2 : Int32) (hx0 : Is x0 12) {K : Int32 → Prop} (hR : ∀ r, K r → emPI h r = tgt Γ) : EG Γ mX12_ofCard 0 [(0, rf Γ x0), (1, .int x1), (2, .int x2)] [] h (F_X12_ofCard h x0 x1 x2) K := by
  unfold F_X12_ofCard
  refine x_aload_n hO 0 rfl rfl dX12_ofCard_0 ?_
  refine x_getR hO fl_RX12_7 hx0 dX12_ofCard_1 ?_
  refine x_bipush hO (v := 8) (by decide) dX12_ofCard_4 ?_
  refine x_bipush hO (v := 11) (by decide) dX12_ofCard_6 ?_
  refine x_iload_n hO 1 rfl rfl dX12_ofCard_8 ?_
  refine x_imul hO dX12_ofCard_9 ?_
  refine x_iadd hO dX12_ofCard_10 ?_
  refine x_iload_n hO 2 rfl rfl dX12_ofCard_11 ?_
  refine x_iadd hO dX12_ofCard_12 ?_
  refine x_iald hO (gr_12_0 hx0) dX12_ofCard_13 ?_
  exact x_iret hO rfl dX12_ofCard_14 (hR _)
theorem ok_X12_ofCard (G : Gl) (h : Hp) (x0 : Nat) (x1 : Int32) (x2 : Int32) (hx0 : Is x0 12) : CN G mX12_ofCard [.ref (gb G + x0), .int x1, .int x2] h ((F_X12_ofCard h x0 x1 x2).map (emPI h)) := CN.fn pn_RX12 (Nat.le_of_ble_eq_true rfl) (fun Γ hG hO => by subst hG; exact go_X12_ofCard hO h x0 x1 x2 hx0 (fun _ q => q))
noncomputable def B_X12_placeOf_2 (h : Hp) (x0 : Nat) (x1 : Int32) (x2 : Int32) : Option ((Int32) ⊕ (Int32)) :=
  gd (ib (((338 : Int32)) + x2) (LEN (GR x0 0))) (if (hI h (GR x0 0) (nx (((338 : Int32)) + x2))) = x1 then some (.inr x2) else some (.inl (x2 + (1 : Int32))))
noncomputable def L_X12_placeOf_2 (h : Hp) (x0 : Nat) (x1 : Int32) (x2 : Int32) : Option (Int32) := iterW (fun s : Int32 => B_X12_placeOf_2 h x0 x1 s) x2
set_option maxHeartbeats 4000000 in
set_option maxRecDepth 100000 in
theorem go_X12_placeOf_B2 {Γ : Cx} (hO : Ok Γ mX12_placeOf) (h : Hp) (x0 : Nat) (x1 : Int32) (x2 : Int32) (hx0 : Is x0 12) {K : (Int32) ⊕ (Int32) → Prop} (hC : ∀ (x2 : Int32), K (.inl x2) → EW Γ mX12_placeOf 2 [(0, rf Γ x0), (1, .int x1), (2, .int x2)] [] h) (hR : ∀ r, K (.inr r) → emPI h r = tgt Γ) : EG Γ mX12_placeOf 2 [(0, rf Γ x0), (1, .int x1), (2, .int x2)] [] h (B_X12_placeOf_2 h x0 x1 x2) K := by
  unfold B_X12_placeOf_2
  refine x_aload_n hO 0 rfl rfl dX12_placeOf_2 ?_
  refine x_getR hO fl_RX12_7 hx0 dX12_placeOf_3 ?_
  refine x_sipush hO (v := 338) (by decide) dX12_placeOf_6 ?_
  refine x_iload_n hO 2 rfl rfl dX12_placeOf_9 ?_
  refine x_iadd hO dX12_placeOf_10 ?_
  refine x_iald hO (gr_12_0 hx0) dX12_placeOf_11 ?_
  refine x_iload_n hO 1 rfl rfl dX12_placeOf_12 ?_
  refine x_icmp_eq hO (tg := 22) dX12_placeOf_13 (by decide) ?_ ?_
  · refine x_iload_n hO 2 rfl rfl dX12_placeOf_22 ?_
    exact x_iret hO rfl dX12_placeOf_23 (hR _)
  · refine x_iinc hO 2 (v := 1) [(2, .int (x2 + (1 : Int32))), (0, rf Γ x0), (1, .int x1)] dX12_placeOf_16 rfl (by decide) (by decide) rfl ?_
    refine x_goto hO (tg := 2) dX12_placeOf_19 (by decide) ?_
    exact x_leafs [1, 2, 0] rfl (hC (x2 + (1 : Int32)))
set_option maxHeartbeats 4000000 in
set_option maxRecDepth 100000 in
theorem go_X12_placeOf_L2 {Γ : Cx} (hO : Ok Γ mX12_placeOf) (h : Hp) (x0 : Nat) (x1 : Int32) (x2 : Int32) (hx0 : Is x0 12) {K : Int32 → Prop} (hR : ∀ r, K (r) → emPI h r = tgt Γ) : EG Γ mX12_placeOf 2 [(0, rf Γ x0), (1, .int x1), (2, .int x2)] [] h (L_X12_placeOf_2 h x0 x1 x2) K := by
  have q := x_loop (Γ := Γ) (M := mX12_placeOf) (pc := 2) (B := fun s : Int32 => B_X12_placeOf_2 h x0 x1 s) (lvf := fun s => [(0, rf Γ x0), (1, .int x1), (2, .int s)]) (hf := fun s => h) (Ky := K) (fun s => go_X12_placeOf_B2 hO h x0 x1 s hx0 (fun _ => id) hR) x2
  exact q
noncomputable def F_X12_placeOf (h : Hp) (x0 : Nat) (x1 : Int32) : Option (Int32) :=
  L_X12_placeOf_2 h x0 x1 ((0 : Int32))
set_option maxHeartbeats 4000000 in
set_option maxRecDepth 100000 in
theorem go_X12_placeOf {Γ : Cx} (hO : Ok Γ mX12_placeOf) (h : Hp) (x0 : Nat) (x1 : Int32) (hx0 : Is x0 12) {K : Int32 → Prop} (hR : ∀ r, K r → emPI h r = tgt Γ) : EG Γ mX12_placeOf 0 [(0, rf Γ x0), (1, .int x1)] [] h (F_X12_placeOf h x0 x1) K := by
  unfold F_X12_placeOf
  refine x_iconst hO (v := 0) (by decide) dX12_placeOf_0 ?_
  refine x_istore_n hO rfl [(2, .int ((0 : Int32))), (0, rf Γ x0), (1, .int x1)] dX12_placeOf_1 (by decide) rfl ?_
  exact x_sub [1, 2, 0] rfl (go_X12_placeOf_L2 hO h x0 x1 ((0 : Int32)) hx0 hR)
theorem ok_X12_placeOf (G : Gl) (h : Hp) (x0 : Nat) (x1 : Int32) (hx0 : Is x0 12) : CN G mX12_placeOf [.ref (gb G + x0), .int x1] h ((F_X12_placeOf h x0 x1).map (emPI h)) := CN.fn pn_RX12 (Nat.le_of_ble_eq_true rfl) (fun Γ hG hO => by subst hG; exact go_X12_placeOf hO h x0 x1 hx0 (fun _ q => q))
noncomputable def F_X12_refuse (h : Hp) (x0 : Nat) (x1 : Int32) : Option (Hp × Int32) :=
  some ((uI h x0 1 x1, (-1 : Int32)))
set_option maxHeartbeats 4000000 in
set_option maxRecDepth 100000 in
theorem go_X12_refuse {Γ : Cx} (hO : Ok Γ mX12_refuse) (h : Hp) (x0 : Nat) (x1 : Int32) (hx0 : Is x0 12) {K : Hp × Int32 → Prop} (hR : ∀ r, K r → emHI r = tgt Γ) : EG Γ mX12_refuse 0 [(0, rf Γ x0), (1, .int x1)] [] h (F_X12_refuse h x0 x1) K := by
  unfold F_X12_refuse
  refine x_aload_n hO 0 rfl rfl dX12_refuse_0 ?_
  refine x_iload_n hO 1 rfl rfl dX12_refuse_1 ?_
  refine x_putI hO fl_RX12_107 hx0 dX12_refuse_2 ?_
  refine x_iconst hO (v := -1) (by decide) dX12_refuse_5 ?_
  exact x_iret hO rfl dX12_refuse_6 (hR _)
theorem ok_X12_refuse (G : Gl) (h : Hp) (x0 : Nat) (x1 : Int32) (hx0 : Is x0 12) : CN G mX12_refuse [.ref (gb G + x0), .int x1] h ((F_X12_refuse h x0 x1).map (emHI)) := CN.fn pn_RX12 (Nat.le_of_ble_eq_true rfl) (fun Γ hG hO => by subst hG; exact go_X12_refuse hO h x0 x1 hx0 (fun _ q => q))
noncomputable def F_X12_status (h : Hp) (x0 : Nat) : Option (Int32) :=
  some (hI h x0 1)
set_option maxHeartbeats 4000000 in
set_option maxRecDepth 100000 in
theorem go_X12_status {Γ : Cx} (hO : Ok Γ mX12_status) (h : Hp) (x0 : Nat) (hx0 : Is x0 12) {K : Int32 → Prop} (hR : ∀ r, K r → emPI h r = tgt Γ) : EG Γ mX12_status 0 [(0, rf Γ x0)] [] h (F_X12_status h x0) K := by
  unfold F_X12_status
  refine x_aload_n hO 0 rfl rfl dX12_status_0 ?_
  refine x_getI hO fl_RX12_107 hx0 dX12_status_1 ?_
  exact x_iret hO rfl dX12_status_4 (hR _)
theorem ok_X12_status (G : Gl) (h : Hp) (x0 : Nat) (hx0 : Is x0 12) : CN G mX12_status [.ref (gb G + x0)] h ((F_X12_status h x0).map (emPI h)) := CN.fn pn_RX12 (Nat.le_of_ble_eq_true rfl) (fun Γ hG hO => by subst hG; exact go_X12_status hO h x0 hx0 (fun _ q => q))
noncomputable def B_X12_takes_2 (h : Hp) (x0 : Nat) (x1 : Int32) : Option ((Hp × Int32) ⊕ (Hp)) :=
  gd (ib ((0 : Int32)) (LEN (GR x0 0))) (if (hI h (GR x0 0) (nx ((0 : Int32)))) ≤ x1 then some (.inr h) else gd (ib (((338 : Int32)) + x1) (LEN (GR x0 0))) (gd (ib x1 (LEN (GR x0 25))) (some (.inl (uI h (GR x0 25) (nx x1) (hI h (GR x0 0) (nx (((338 : Int32)) + x1))), x1 + (1 : Int32))))))
noncomputable def L_X12_takes_2 (h : Hp) (x0 : Nat) (x1 : Int32) : Option (Hp) := iterW (fun s : Hp × Int32 => B_X12_takes_2 s.1 x0 s.2) (h, x1)
set_option maxHeartbeats 4000000 in
set_option maxRecDepth 100000 in
theorem go_X12_takes_B2 {Γ : Cx} (hO : Ok Γ mX12_takes) (h : Hp) (x0 : Nat) (x1 : Int32) (hx0 : Is x0 12) {K : (Hp × Int32) ⊕ (Hp) → Prop} (hC : ∀ (h : Hp) (x1 : Int32), K (.inl (h, x1)) → EW Γ mX12_takes 2 [(0, rf Γ x0), (1, .int x1)] [] h) (hR : ∀ r, K (.inr r) → emHV r = tgt Γ) : EG Γ mX12_takes 2 [(0, rf Γ x0), (1, .int x1)] [] h (B_X12_takes_2 h x0 x1) K := by
  unfold B_X12_takes_2
  refine x_iload_n hO 1 rfl rfl dX12_takes_2 ?_
  refine x_aload_n hO 0 rfl rfl dX12_takes_3 ?_
  refine x_getR hO fl_RX12_7 hx0 dX12_takes_4 ?_
  refine x_iconst hO (v := 0) (by decide) dX12_takes_7 ?_
  refine x_iald hO (gr_12_0 hx0) dX12_takes_8 ?_
  refine x_icmp_ge hO (tg := 34) dX12_takes_9 (by decide) ?_ ?_
  · exact x_vret hO rfl dX12_takes_34 (hR _)
  · refine x_aload_n hO 0 rfl rfl dX12_takes_12 ?_
    refine x_getR hO fl_RX12_56 hx0 dX12_takes_13 ?_
    refine x_iload_n hO 1 rfl rfl dX12_takes_16 ?_
    refine x_aload_n hO 0 rfl rfl dX12_takes_17 ?_
    refine x_getR hO fl_RX12_7 hx0 dX12_takes_18 ?_
    refine x_sipush hO (v := 338) (by decide) dX12_takes_21 ?_
    refine x_iload_n hO 1 rfl rfl dX12_takes_24 ?_
    refine x_iadd hO dX12_takes_25 ?_
    refine x_iald hO (gr_12_0 hx0) dX12_takes_26 ?_
    refine x_iast hO (gr_12_25 hx0) dX12_takes_27 ?_
    refine x_iinc hO 1 (v := 1) [(1, .int (x1 + (1 : Int32))), (0, rf Γ x0)] dX12_takes_28 rfl (by decide) (by decide) rfl ?_
    refine x_goto hO (tg := 2) dX12_takes_31 (by decide) ?_
    exact x_leafs [1, 0] rfl (hC (uI h (GR x0 25) (nx x1) (hI h (GR x0 0) (nx (((338 : Int32)) + x1)))) (x1 + (1 : Int32)))
set_option maxHeartbeats 4000000 in
set_option maxRecDepth 100000 in
theorem go_X12_takes_L2 {Γ : Cx} (hO : Ok Γ mX12_takes) (h : Hp) (x0 : Nat) (x1 : Int32) (hx0 : Is x0 12) {K : Hp → Prop} (hR : ∀ r, K (r) → emHV r = tgt Γ) : EG Γ mX12_takes 2 [(0, rf Γ x0), (1, .int x1)] [] h (L_X12_takes_2 h x0 x1) K := by
  have q := x_loop (Γ := Γ) (M := mX12_takes) (pc := 2) (B := fun s : Hp × Int32 => B_X12_takes_2 s.1 x0 s.2) (lvf := fun s => [(0, rf Γ x0), (1, .int s.2)]) (hf := fun s => s.1) (Ky := K) (fun s => go_X12_takes_B2 hO s.1 x0 s.2 hx0 (fun _ _ => id) hR) (h, x1)
  exact q
noncomputable def F_X12_takes (h : Hp) (x0 : Nat) : Option (Hp) :=
  L_X12_takes_2 h x0 ((0 : Int32))
set_option maxHeartbeats 4000000 in
set_option maxRecDepth 100000 in
theorem go_X12_takes {Γ : Cx} (hO : Ok Γ mX12_takes) (h : Hp) (x0 : Nat) (hx0 : Is x0 12) {K : Hp → Prop} (hR : ∀ r, K r → emHV r = tgt Γ) : EG Γ mX12_takes 0 [(0, rf Γ x0)] [] h (F_X12_takes h x0) K := by
  unfold F_X12_takes
  refine x_iconst hO (v := 0) (by decide) dX12_takes_0 ?_
  refine x_istore_n hO rfl [(1, .int ((0 : Int32))), (0, rf Γ x0)] dX12_takes_1 (by decide) rfl ?_
  exact x_sub [1, 0] rfl (go_X12_takes_L2 hO h x0 ((0 : Int32)) hx0 hR)
theorem ok_X12_takes (G : Gl) (h : Hp) (x0 : Nat) (hx0 : Is x0 12) : CN G mX12_takes [.ref (gb G + x0)] h ((F_X12_takes h x0).map (emHV)) := CN.fn pn_RX12 (Nat.le_of_ble_eq_true rfl) (fun Γ hG hO => by subst hG; exact go_X12_takes hO h x0 hx0 (fun _ q => q))
