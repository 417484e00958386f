noncomputable def B_X12_tens_4 (h : Hp) (x0 : Int32) (x1 : Int32) (x2 : Int32) : Option ((Int32 × Int32) ⊕ (Int32)) :=
  if x0 ≤ x2 then some (.inr x1) else some (.inl (x1 * ((10 : Int32)), x2 + (1 : Int32)))
noncomputable def L_X12_tens_4 (h : Hp) (x0 : Int32) (x1 : Int32) (x2 : Int32) : Option (Int32) := iterW (fun s : Int32 × Int32 => B_X12_tens_4 h x0 s.1 s.2) (x1, x2)
set_option maxHeartbeats 4000000 in
set_option maxRecDepth 100000 in
theorem go_X12_tens_B4 {Γ : Cx} (hO : Ok Γ mX12_tens) (h : Hp) (x0 : Int32) (x1 : Int32) (x2 : Int32) {K : (Int32 × Int32) ⊕ (Int32) → Prop} (hC : ∀ (x1 : Int32) (x2 : Int32), K (.inl (x1, x2)) → EW Γ mX12_tens 4 [(0, .int x0), (1, .int x1), (2, .int x2)] [] h) (hR : ∀ r, K (.inr r) → emPI h r = tgt Γ) : EG Γ mX12_tens 4 [(0, .int x0), (1, .int x1), (2, .int x2)] [] h (B_X12_tens_4 h x0 x1 x2) K := by
  unfold B_X12_tens_4
  refine x_iload_n hO 2 rfl rfl dX12_tens_4 ?_
  refine x_iload_n hO 0 rfl rfl dX12_tens_5 ?_
  refine x_icmp_ge hO (tg := 20) dX12_tens_6 (by decide) ?_ ?_
  · refine x_iload_n hO 1 rfl rfl dX12_tens_20 ?_
    exact x_iret hO rfl dX12_tens_21 (hR _)
  · refine x_iload_n hO 1 rfl rfl dX12_tens_9 ?_
    refine x_bipush hO (v := 10) (by decide) dX12_tens_10 ?_
    refine x_imul hO dX12_tens_12 ?_
    refine x_istore_n hO rfl [(1, .int (x1 * ((10 : Int32)))), (0, .int x0), (2, .int x2)] dX12_tens_13 (by decide) rfl ?_
    refine x_iinc hO 2 (v := 1) [(2, .int (x2 + (1 : Int32))), (1, .int (x1 * ((10 : Int32)))), (0, .int x0)] dX12_tens_14 rfl (by decide) (by decide) rfl ?_
    refine x_goto hO (tg := 4) dX12_tens_17 (by decide) ?_
    exact x_leafs [2, 1, 0] rfl (hC (x1 * ((10 : Int32))) (x2 + (1 : Int32)))
set_option maxHeartbeats 4000000 in
set_option maxRecDepth 100000 in
theorem go_X12_tens_L4 {Γ : Cx} (hO : Ok Γ mX12_tens) (h : Hp) (x0 : Int32) (x1 : Int32) (x2 : Int32) {K : Int32 → Prop} (hR : ∀ r, K (r) → emPI h r = tgt Γ) : EG Γ mX12_tens 4 [(0, .int x0), (1, .int x1), (2, .int x2)] [] h (L_X12_tens_4 h x0 x1 x2) K := by
  have q := x_loop (Γ := Γ) (M := mX12_tens) (pc := 4) (B := fun s : Int32 × Int32 => B_X12_tens_4 h x0 s.1 s.2) (lvf := fun s => [(0, .int x0), (1, .int s.1), (2, .int s.2)]) (hf := fun s => h) (Ky := K) (fun s => go_X12_tens_B4 hO h x0 s.1 s.2 (fun _ _ => id) hR) (x1, x2)
  exact q
noncomputable def F_X12_tens (h : Hp) (x0 : Int32) : Option (Int32) :=
  L_X12_tens_4 h x0 ((1 : Int32)) ((0 : Int32))
set_option maxHeartbeats 4000000 in
set_option maxRecDepth 100000 in
theorem go_X12_tens {Γ : Cx} (hO : Ok Γ mX12_tens) (h : Hp) (x0 : Int32) {K : Int32 → Prop} (hR : ∀ r, K r → emPI h r = tgt Γ) : EG Γ mX12_tens 0 [(0, .int x0)] [] h (F_X12_tens h x0) K := by
  unfold F_X12_tens
  refine x_iconst hO (v := 1) (by decide) dX12_tens_0 ?_
  refine x_istore_n hO rfl [(1, .int ((1 : Int32))), (0, .int x0)] dX12_tens_1 (by decide) rfl ?_
  refine x_iconst hO (v := 0) (by decide) dX12_tens_2 ?_
  refine x_istore_n hO rfl [(2, .int ((0 : Int32))), (1, .int ((1 : Int32))), (0, .int x0)] dX12_tens_3 (by decide) rfl ?_
  exact x_sub [2, 1, 0] rfl (go_X12_tens_L4 hO h x0 ((1 : Int32)) ((0 : Int32)) hR)
theorem ok_X12_tens (G : Gl) (h : Hp) (x0 : Int32) : CN G mX12_tens [.int x0] h ((F_X12_tens h x0).map (emPI h)) := CN.fn pn_RX12 (Nat.le_of_ble_eq_true rfl) (fun Γ hG hO => by subst hG; exact go_X12_tens hO h x0 (fun _ q => q))
noncomputable def F_X12_top (h : Hp) (x0 : Nat) : Option (Int64) :=
  some (hL h x0 2)
set_option maxHeartbeats 4000000 in
set_option maxRecDepth 100000 in
theorem go_X12_top {Γ : Cx} (hO : Ok Γ mX12_top) (h : Hp) (x0 : Nat) (hx0 : Is x0 12) {K : Int64 → Prop} (hR : ∀ r, K r → emPL h r = tgt Γ) : EG Γ mX12_top 0 [(0, rf Γ x0)] [] h (F_X12_top h x0) K := by
  unfold F_X12_top
  refine x_aload_n hO 0 rfl rfl dX12_top_0 ?_
  refine x_getL hO fl_RX12_110 hx0 dX12_top_1 ?_
  exact x_lret hO rfl dX12_top_4 (hR _)
theorem ok_X12_top (G : Gl) (h : Hp) (x0 : Nat) (hx0 : Is x0 12) : CN G mX12_top [.ref (gb G + x0)] h ((F_X12_top h x0).map (emPL h)) := CN.fn pn_RX12 (Nat.le_of_ble_eq_true rfl) (fun Γ hG hO => by subst hG; exact go_X12_top hO h x0 hx0 (fun _ q => q))
noncomputable def F_X1_bitOfHole (h : Hp) (x0 : Int32) : Option (Int32) :=
  if x0 = ((11 : Int32)) then some ((1024 : Int32)) else if x0 = ((12 : Int32)) then some ((2048 : Int32)) else if x0 < 0 then some ((0 : Int32)) else if ((10 : Int32)) ≤ x0 then some ((0 : Int32)) else some (((1 : Int32)) <<< (x0 &&& 31))
set_option maxHeartbeats 4000000 in
set_option maxRecDepth 100000 in
theorem go_X1_bitOfHole {Γ : Cx} (hO : Ok Γ mX1_bitOfHole) (h : Hp) (x0 : Int32) {K : Int32 → Prop} (hR : ∀ r, K r → emPI h r = tgt Γ) : EG Γ mX1_bitOfHole 0 [(0, .int x0)] [] h (F_X1_bitOfHole h x0) K := by
  unfold F_X1_bitOfHole
  refine x_iload_n hO 0 rfl rfl dX1_bitOfHole_0 ?_
  refine x_bipush hO (v := 11) (by decide) dX1_bitOfHole_1 ?_
  refine x_icmp_ne hO (tg := 10) dX1_bitOfHole_3 (by decide) ?_ ?_
  · refine x_iload_n hO 0 rfl rfl dX1_bitOfHole_10 ?_
    refine x_bipush hO (v := 12) (by decide) dX1_bitOfHole_11 ?_
    refine x_icmp_ne hO (tg := 20) dX1_bitOfHole_13 (by decide) ?_ ?_
    · refine x_iload_n hO 0 rfl rfl dX1_bitOfHole_20 ?_
      refine x_if_lt hO (tg := 36) dX1_bitOfHole_21 (by decide) ?_ ?_
      · refine x_iconst hO (v := 0) (by decide) dX1_bitOfHole_36 ?_
        exact x_iret hO rfl dX1_bitOfHole_37 (hR _)
      · refine x_iload_n hO 0 rfl rfl dX1_bitOfHole_24 ?_
        refine x_bipush hO (v := 10) (by decide) dX1_bitOfHole_25 ?_
        refine x_icmp_ge hO (tg := 36) dX1_bitOfHole_27 (by decide) ?_ ?_
        · refine x_iconst hO (v := 0) (by decide) dX1_bitOfHole_36 ?_
          exact x_iret hO rfl dX1_bitOfHole_37 (hR _)
        · refine x_iconst hO (v := 1) (by decide) dX1_bitOfHole_30 ?_
          refine x_iload_n hO 0 rfl rfl dX1_bitOfHole_31 ?_
          refine x_ishl hO dX1_bitOfHole_32 ?_
          refine x_goto hO (tg := 37) dX1_bitOfHole_33 (by decide) ?_
          exact x_iret hO rfl dX1_bitOfHole_37 (hR _)
    · refine x_sipush hO (v := 2048) (by decide) dX1_bitOfHole_16 ?_
      exact x_iret hO rfl dX1_bitOfHole_19 (hR _)
  · refine x_sipush hO (v := 1024) (by decide) dX1_bitOfHole_6 ?_
    exact x_iret hO rfl dX1_bitOfHole_9 (hR _)
theorem ok_X1_bitOfHole (G : Gl) (h : Hp) (x0 : Int32) : CN G mX1_bitOfHole [.int x0] h ((F_X1_bitOfHole h x0).map (emPI h)) := CN.fn pn_RX1 (Nat.le_of_ble_eq_true rfl) (fun Γ hG hO => by subst hG; exact go_X1_bitOfHole hO h x0 (fun _ q => q))
noncomputable def B_X1_find_3 (h : Hp) (x0 : Nat) (x1 : Int32) (x2 : Int64) (x4 : Int32) : Option ((Int32) ⊕ (Int32)) :=
  if x1 ≤ x4 then some (.inr ((-1 : Int32))) else if (nI (LEN x0)) ≤ x4 then some (.inr ((-1 : Int32))) else gd (ib x4 (LEN x0)) (if (lg_cmp (hL h x0 (nx x4)) x2) = 0 then some (.inr x4) else some (.inl (x4 + (1 : Int32))))
noncomputable def L_X1_find_3 (h : Hp) (x0 : Nat) (x1 : Int32) (x2 : Int64) (x4 : Int32) : Option (Int32) := iterW (fun s : Int32 => B_X1_find_3 h x0 x1 x2 s) x4
set_option maxHeartbeats 4000000 in
set_option maxRecDepth 100000 in
theorem go_X1_find_B3 {Γ : Cx} (hO : Ok Γ mX1_find) (h : Hp) (x0 : Nat) (x1 : Int32) (x2 : Int64) (x4 : Int32) (hx0 : Is x0 15) {K : (Int32) ⊕ (Int32) → Prop} (hC : ∀ (x4 : Int32), K (.inl x4) → EW Γ mX1_find 3 [(0, rf Γ x0), (1, .int x1), (2, .long x2), (4, .int x4)] [] h) (hR : ∀ r, K (.inr r) → emPI h r = tgt Γ) : EG Γ mX1_find 3 [(0, rf Γ x0), (1, .int x1), (2, .long x2), (4, .int x4)] [] h (B_X1_find_3 h x0 x1 x2 x4) K := by
  unfold B_X1_find_3
  refine x_iload hO 3 rfl dX1_find_3 ?_
  refine x_iload_n hO 1 rfl rfl dX1_find_5 ?_
  refine x_icmp_ge hO (tg := 34) dX1_find_6 (by decide) ?_ ?_
  · refine x_iconst hO (v := -1) (by decide) dX1_find_34 ?_
    exact x_iret hO rfl dX1_find_35 (hR _)
  · refine x_iload hO 3 rfl dX1_find_9 ?_
    refine x_aload_n hO 0 rfl rfl dX1_find_11 ?_
    refine x_alenL hO hx0 dX1_find_12 ?_
    refine x_icmp_ge hO (tg := 34) dX1_find_13 (by decide) ?_ ?_
    · refine x_iconst hO (v := -1) (by decide) dX1_find_34 ?_
      exact x_iret hO rfl dX1_find_35 (hR _)
    · refine x_aload_n hO 0 rfl rfl dX1_find_16 ?_
      refine x_iload hO 3 rfl dX1_find_17 ?_
      refine x_lald hO hx0 dX1_find_19 ?_
      refine x_lload_n hO 2 rfl rfl dX1_find_20 ?_
      refine x_lcmp hO dX1_find_21 ?_
      refine x_if_ne hO (tg := 28) dX1_find_22 (by decide) ?_ ?_
      · refine x_iinc hO 3 (v := 1) [(4, .int (x4 + (1 : Int32))), (0, rf Γ x0), (1, .int x1), (2, .long x2)] dX1_find_28 rfl (by decide) (by decide) rfl ?_
        refine x_goto hO (tg := 3) dX1_find_31 (by decide) ?_
        exact x_leafs [1, 2, 3, 0] rfl (hC (x4 + (1 : Int32)))
      · refine x_iload hO 3 rfl dX1_find_25 ?_
        exact x_iret hO rfl dX1_find_27 (hR _)
set_option maxHeartbeats 4000000 in
set_option maxRecDepth 100000 in
theorem go_X1_find_L3 {Γ : Cx} (hO : Ok Γ mX1_find) (h : Hp) (x0 : Nat) (x1 : Int32) (x2 : Int64) (x4 : Int32) (hx0 : Is x0 15) {K : Int32 → Prop} (hR : ∀ r, K (r) → emPI h r = tgt Γ) : EG Γ mX1_find 3 [(0, rf Γ x0), (1, .int x1), (2, .long x2), (4, .int x4)] [] h (L_X1_find_3 h x0 x1 x2 x4) K := by
  have q := x_loop (Γ := Γ) (M := mX1_find) (pc := 3) (B := fun s : Int32 => B_X1_find_3 h x0 x1 x2 s) (lvf := fun s => [(0, rf Γ x0), (1, .int x1), (2, .long x2), (4, .int s)]) (hf := fun s => h) (Ky := K) (fun s => go_X1_find_B3 hO h x0 x1 x2 s hx0 (fun _ => id) hR) x4
  exact q
noncomputable def F_X1_find (h : Hp) (x0 : Nat) (x1 : Int32) (x2 : Int64) : Option (Int32) :=
  L_X1_find_3 h x0 x1 x2 ((0 : Int32))
set_option maxHeartbeats 4000000 in
set_option maxRecDepth 100000 in
theorem go_X1_find {Γ : Cx} (hO : Ok Γ mX1_find) (h : Hp) (x0 : Nat) (x1 : Int32) (x2 : Int64) (hx0 : Is x0 15) {K : Int32 → Prop} (hR : ∀ r, K r → emPI h r = tgt Γ) : EG Γ mX1_find 0 [(0, rf Γ x0), (1, .int x1), (2, .long x2)] [] h (F_X1_find h x0 x1 x2) K := by
  unfold F_X1_find
  refine x_iconst hO (v := 0) (by decide) dX1_find_0 ?_
  refine x_istore hO [(4, .int ((0 : Int32))), (0, rf Γ x0), (1, .int x1), (2, .long x2)] dX1_find_1 (by decide) rfl ?_
  exact x_sub [1, 2, 3, 0] rfl (go_X1_find_L3 hO h x0 x1 x2 ((0 : Int32)) hx0 hR)
theorem ok_X1_find (G : Gl) (h : Hp) (x0 : Nat) (x1 : Int32) (x2 : Int64) (hx0 : Is x0 15) : CN G mX1_find [.ref (gb G + x0), .int x1, .long x2] h ((F_X1_find h x0 x1 x2).map (emPI h)) := CN.fn pn_RX1 (Nat.le_of_ble_eq_true rfl) (fun Γ hG hO => by subst hG; exact go_X1_find hO h x0 x1 x2 hx0 (fun _ q => q))
noncomputable def F_X2_holesOf (h : Hp) (x0 : Nat) (x1 : Int32) (x2 : Int32) : Option (Int32) :=
  gd (ib ((x1 * ((8 : Int32))) + x2) (LEN (GR x0 2))) (some (hI h (GR x0 2) (nx ((x1 * ((8 : Int32))) + x2))))
set_option maxHeartbeats 4000000 in
set_option maxRecDepth 100000 in
theorem go_X2_holesOf {Γ : Cx} (hO : Ok Γ mX2_holesOf) (h : Hp) (x0 : Nat) (x1 : Int32) (x2 : Int32) (hx0 : Is x0 2) {K : Int32 → Prop} (hR : ∀ r, K r → emPI h r = tgt Γ) : EG Γ mX2_holesOf 0 [(0, rf Γ x0), (1, .int x1), (2, .int x2)] [] h (F_X2_holesOf h x0 x1 x2) K := by
  unfold F_X2_holesOf
  refine x_aload_n hO 0 rfl rfl dX2_holesOf_0 ?_
  refine x_getR hO fl_RX2_18 hx0 dX2_holesOf_1 ?_
  refine x_iload_n hO 1 rfl rfl dX2_holesOf_4 ?_
  refine x_bipush hO (v := 8) (by decide) dX2_holesOf_5 ?_
  refine x_imul hO dX2_holesOf_7 ?_
  refine x_iload_n hO 2 rfl rfl dX2_holesOf_8 ?_
  refine x_iadd hO dX2_holesOf_9 ?_
  refine x_iald hO (gr_2_2 hx0) dX2_holesOf_10 ?_
  exact x_iret hO rfl dX2_holesOf_11 (hR _)
theorem ok_X2_holesOf (G : Gl) (h : Hp) (x0 : Nat) (x1 : Int32) (x2 : Int32) (hx0 : Is x0 2) : CN G mX2_holesOf [.ref (gb G + x0), .int x1, .int x2] h ((F_X2_holesOf h x0 x1 x2).map (emPI h)) := CN.fn pn_RX2 (Nat.le_of_ble_eq_true rfl) (fun Γ hG hO => by subst hG; exact go_X2_holesOf hO h x0 x1 x2 hx0 (fun _ q => q))
noncomputable def F_X2_isCard (h : Hp) (x0 : Nat) (x1 : Int32) : Option (Int32) :=
  if x1 < 0 then some ((0 : Int32)) else if (hI h x0 0) ≤ x1 then some ((0 : Int32)) else some ((1 : Int32))
set_option maxHeartbeats 4000000 in
set_option maxRecDepth 100000 in
theorem go_X2_isCard {Γ : Cx} (hO : Ok Γ mX2_isCard) (h : Hp) (x0 : Nat) (x1 : Int32) (hx0 : Is x0 2) {K : Int32 → Prop} (hR : ∀ r, K r → emPI h r = tgt Γ) : EG Γ mX2_isCard 0 [(0, rf Γ x0), (1, .int x1)] [] h (F_X2_isCard h x0 x1) K := by
  unfold F_X2_isCard
  refine x_iload_n hO 1 rfl rfl dX2_isCard_0 ?_
  refine x_if_lt hO (tg := 16) dX2_isCard_1 (by decide) ?_ ?_
  · refine x_iconst hO (v := 0) (by decide) dX2_isCard_16 ?_
    exact x_zretv hO rfl (by decide) dX2_isCard_17 (hR _)
  · refine x_iload_n hO 1 rfl rfl dX2_isCard_4 ?_
    refine x_aload_n hO 0 rfl rfl dX2_isCard_5 ?_
    refine x_getI hO fl_RX2_9 hx0 dX2_isCard_6 ?_
    refine x_icmp_ge hO (tg := 16) dX2_isCard_9 (by decide) ?_ ?_
    · refine x_iconst hO (v := 0) (by decide) dX2_isCard_16 ?_
      exact x_zretv hO rfl (by decide) dX2_isCard_17 (hR _)
    · refine x_iconst hO (v := 1) (by decide) dX2_isCard_12 ?_
      refine x_goto hO (tg := 17) dX2_isCard_13 (by decide) ?_
      exact x_zretv hO rfl (by decide) dX2_isCard_17 (hR _)
theorem ok_X2_isCard (G : Gl) (h : Hp) (x0 : Nat) (x1 : Int32) (hx0 : Is x0 2) : CN G mX2_isCard [.ref (gb G + x0), .int x1] h ((F_X2_isCard h x0 x1).map (emPI h)) := CN.fn pn_RX2 (Nat.le_of_ble_eq_true rfl) (fun Γ hG hO => by subst hG; exact go_X2_isCard hO h x0 x1 hx0 (fun _ q => q))
noncomputable def B_X2_placeOf_4 (h : Hp) (x0 : Nat) (x1 : Int32) (x2 : Int32) (x3 : Int32) : Option ((Int32 × Int32) ⊕ (Int32)) :=
  if (hI h x0 0) ≤ x3 then some (.inr x2) else gd (ib x3 (LEN (GR x0 7))) (if (hI h (GR x0 7) (nx x3)) = x1 then some (.inl (x3, x3 + (1 : Int32))) else some (.inl (x2, x3 + (1 : Int32))))
noncomputable def L_X2_placeOf_4 (h : Hp) (x0 : Nat) (x1 : Int32) (x2 : Int32) (x3 : Int32) : Option (Int32) := iterW (fun s : Int32 × Int32 => B_X2_placeOf_4 h x0 x1 s.1 s.2) (x2, x3)
set_option maxHeartbeats 4000000 in
set_option maxRecDepth 100000 in
theorem go_X2_placeOf_B4 {Γ : Cx} (hO : Ok Γ mX2_placeOf) (h : Hp) (x0 : Nat) (x1 : Int32) (x2 : Int32) (x3 : Int32) (hx0 : Is x0 2) {K : (Int32 × Int32) ⊕ (Int32) → Prop} (hC : ∀ (x2 : Int32) (x3 : Int32), K (.inl (x2, x3)) → EW Γ mX2_placeOf 4 [(0, rf Γ x0), (1, .int x1), (2, .int x2), (3, .int x3)] [] h) (hR : ∀ r, K (.inr r) → emPI h r = tgt Γ) : EG Γ mX2_placeOf 4 [(0, rf Γ x0), (1, .int x1), (2, .int x2), (3, .int x3)] [] h (B_X2_placeOf_4 h x0 x1 x2 x3) K := by
  unfold B_X2_placeOf_4
  refine x_iload_n hO 3 rfl rfl dX2_placeOf_4 ?_
  refine x_aload_n hO 0 rfl rfl dX2_placeOf_5 ?_
  refine x_getI hO fl_RX2_9 hx0 dX2_placeOf_6 ?_
  refine x_icmp_ge hO (tg := 30) dX2_placeOf_9 (by decide) ?_ ?_
  · refine x_iload_n hO 2 rfl rfl dX2_placeOf_30 ?_
    exact x_iret hO rfl dX2_placeOf_31 (hR _)
  · refine x_aload_n hO 0 rfl rfl dX2_placeOf_12 ?_
    refine x_getR hO fl_RX2_34 hx0 dX2_placeOf_13 ?_
    refine x_iload_n hO 3 rfl rfl dX2_placeOf_16 ?_
    refine x_iald hO (gr_2_7 hx0) dX2_placeOf_17 ?_
    refine x_iload_n hO 1 rfl rfl dX2_placeOf_18 ?_
    refine x_icmp_ne hO (tg := 24) dX2_placeOf_19 (by decide) ?_ ?_
    · refine x_iinc hO 3 (v := 1) [(3, .int (x3 + (1 : Int32))), (0, rf Γ x0), (1, .int x1), (2, .int x2)] dX2_placeOf_24 rfl (by decide) (by decide) rfl ?_
      refine x_goto hO (tg := 4) dX2_placeOf_27 (by decide) ?_
      exact x_leafs [1, 2, 3, 0] rfl (hC x2 (x3 + (1 : Int32)))
    · refine x_iload_n hO 3 rfl rfl dX2_placeOf_22 ?_
      refine x_istore_n hO rfl [(2, .int x3), (0, rf Γ x0), (1, .int x1), (3, .int x3)] dX2_placeOf_23 (by decide) rfl ?_
      refine x_iinc hO 3 (v := 1) [(3, .int (x3 + (1 : Int32))), (2, .int x3), (0, rf Γ x0), (1, .int x1)] dX2_placeOf_24 rfl (by decide) (by decide) rfl ?_
      refine x_goto hO (tg := 4) dX2_placeOf_27 (by decide) ?_
      exact x_leafs [2, 3, 1, 0] rfl (hC x3 (x3 + (1 : Int32)))
set_option maxHeartbeats 4000000 in
set_option maxRecDepth 100000 in
theorem go_X2_placeOf_L4 {Γ : Cx} (hO : Ok Γ mX2_placeOf) (h : Hp) (x0 : Nat) (x1 : Int32) (x2 : Int32) (x3 : Int32) (hx0 : Is x0 2) {K : Int32 → Prop} (hR : ∀ r, K (r) → emPI h r = tgt Γ) : EG Γ mX2_placeOf 4 [(0, rf Γ x0), (1, .int x1), (2, .int x2), (3, .int x3)] [] h (L_X2_placeOf_4 h x0 x1 x2 x3) K := by
  have q := x_loop (Γ := Γ) (M := mX2_placeOf) (pc := 4) (B := fun s : Int32 × Int32 => B_X2_placeOf_4 h x0 x1 s.1 s.2) (lvf := fun s => [(0, rf Γ x0), (1, .int x1), (2, .int s.1), (3, .int s.2)]) (hf := fun s => h) (Ky := K) (fun s => go_X2_placeOf_B4 hO h x0 x1 s.1 s.2 hx0 (fun _ _ => id) hR) (x2, x3)
  exact q
noncomputable def F_X2_placeOf (h : Hp) (x0 : Nat) (x1 : Int32) : Option (Int32) :=
  L_X2_placeOf_4 h x0 x1 ((0 : Int32)) ((0 : Int32))
set_option maxHeartbeats 4000000 in
set_option maxRecDepth 100000 in
theorem go_X2_placeOf {Γ : Cx} (hO : Ok Γ mX2_placeOf) (h : Hp) (x0 : Nat) (x1 : Int32) (hx0 : Is x0 2) {K : Int32 → Prop} (hR : ∀ r, K r → emPI h r = tgt Γ) : EG Γ mX2_placeOf 0 [(0, rf Γ x0), (1, .int x1)] [] h (F_X2_placeOf h x0 x1) K := by
  unfold F_X2_placeOf
  refine x_iconst hO (v := 0) (by decide) dX2_placeOf_0 ?_
  refine x_istore_n hO rfl [(2, .int ((0 : Int32))), (0, rf Γ x0), (1, .int x1)] dX2_placeOf_1 (by decide) rfl ?_
  refine x_iconst hO (v := 0) (by decide) dX2_placeOf_2 ?_
  refine x_istore_n hO rfl [(3, .int ((0 : Int32))), (2, .int ((0 : Int32))), (0, rf Γ x0), (1, .int x1)] dX2_placeOf_3 (by decide) rfl ?_
  exact x_sub [2, 3, 1, 0] rfl (go_X2_placeOf_L4 hO h x0 x1 ((0 : Int32)) ((0 : Int32)) hx0 hR)
theorem ok_X2_placeOf (G : Gl) (h : Hp) (x0 : Nat) (x1 : Int32) (hx0 : Is x0 2) : CN G mX2_placeOf [.ref (gb G + x0), .int x1] h ((F_X2_placeOf h x0 x1).map (emPI h)) := CN.fn pn_RX2 (Nat.le_of_ble_eq_true rfl) (fun Γ hG hO => by subst hG; exact go_X2_placeOf hO h x0 x1 hx0 (fun _ q => q))
noncomputable def B_X2_punchedBy_4 (h : Hp) (x0 : Nat) (x1 : Int32) (x2 : Int32) (x3 : Int32) : Option ((Int32 × Int32) ⊕ (Int32)) :=
  if (hI h x0 0) ≤ x3 then some (.inr x2) else gd (ib x3 (LEN (GR x0 4))) (if (hI h (GR x0 4) (nx x3)) = x1 then some (.inl (x2 + (1 : Int32), x3 + (1 : Int32))) else some (.inl (x2, x3 + (1 : Int32))))
noncomputable def L_X2_punchedBy_4 (h : Hp) (x0 : Nat) (x1 : Int32) (x2 : Int32) (x3 : Int32) : Option (Int32) := iterW (fun s : Int32 × Int32 => B_X2_punchedBy_4 h x0 x1 s.1 s.2) (x2, x3)
set_option maxHeartbeats 4000000 in
set_option maxRecDepth 100000 in
theorem go_X2_punchedBy_B4 {Γ : Cx} (hO : Ok Γ mX2_punchedBy) (h : Hp) (x0 : Nat) (x1 : Int32) (x2 : Int32) (x3 : Int32) (hx0 : Is x0 2) {K : (Int32 × Int32) ⊕ (Int32) → Prop} (hC : ∀ (x2 : Int32) (x3 : Int32), K (.inl (x2, x3)) → EW Γ mX2_punchedBy 4 [(0, rf Γ x0), (1, .int x1), (2, .int x2), (3, .int x3)] [] h) (hR : ∀ r, K (.inr r) → emPI h r = tgt Γ) : EG Γ mX2_punchedBy 4 [(0, rf Γ x0), (1, .int x1), (2, .int x2), (3, .int x3)] [] h (B_X2_punchedBy_4 h x0 x1 x2 x3) K := by
  unfold B_X2_punchedBy_4
  refine x_iload_n hO 3 rfl rfl dX2_punchedBy_4 ?_
  refine x_aload_n hO 0 rfl rfl dX2_punchedBy_5 ?_
  refine x_getI hO fl_RX2_9 hx0 dX2_punchedBy_6 ?_
  refine x_icmp_ge hO (tg := 31) dX2_punchedBy_9 (by decide) ?_ ?_
  · refine x_iload_n hO 2 rfl rfl dX2_punchedBy_31 ?_
    exact x_iret hO rfl dX2_punchedBy_32 (hR _)
  · refine x_aload_n hO 0 rfl rfl dX2_punchedBy_12 ?_
    refine x_getR hO fl_RX2_25 hx0 dX2_punchedBy_13 ?_
    refine x_iload_n hO 3 rfl rfl dX2_punchedBy_16 ?_
    refine x_iald hO (gr_2_4 hx0) dX2_punchedBy_17 ?_
    refine x_iload_n hO 1 rfl rfl dX2_punchedBy_18 ?_
    refine x_icmp_ne hO (tg := 25) dX2_punchedBy_19 (by decide) ?_ ?_
    · refine x_iinc hO 3 (v := 1) [(3, .int (x3 + (1 : Int32))), (0, rf Γ x0), (1, .int x1), (2, .int x2)] dX2_punchedBy_25 rfl (by decide) (by decide) rfl ?_
      refine x_goto hO (tg := 4) dX2_punchedBy_28 (by decide) ?_
      exact x_leafs [1, 2, 3, 0] rfl (hC x2 (x3 + (1 : Int32)))
    · refine x_iinc hO 2 (v := 1) [(2, .int (x2 + (1 : Int32))), (0, rf Γ x0), (1, .int x1), (3, .int x3)] dX2_punchedBy_22 rfl (by decide) (by decide) rfl ?_
      refine x_iinc hO 3 (v := 1) [(3, .int (x3 + (1 : Int32))), (2, .int (x2 + (1 : Int32))), (0, rf Γ x0), (1, .int x1)] dX2_punchedBy_25 rfl (by decide) (by decide) rfl ?_
      refine x_goto hO (tg := 4) dX2_punchedBy_28 (by decide) ?_
      exact x_leafs [2, 3, 1, 0] rfl (hC (x2 + (1 : Int32)) (x3 + (1 : Int32)))
set_option maxHeartbeats 4000000 in
set_option maxRecDepth 100000 in
theorem go_X2_punchedBy_L4 {Γ : Cx} (hO : Ok Γ mX2_punchedBy) (h : Hp) (x0 : Nat) (x1 : Int32) (x2 : Int32) (x3 : Int32) (hx0 : Is x0 2) {K : Int32 → Prop} (hR : ∀ r, K (r) → emPI h r = tgt Γ) : EG Γ mX2_punchedBy 4 [(0, rf Γ x0), (1, .int x1), (2, .int x2), (3, .int x3)] [] h (L_X2_punchedBy_4 h x0 x1 x2 x3) K := by
  have q := x_loop (Γ := Γ) (M := mX2_punchedBy) (pc := 4) (B := fun s : Int32 × Int32 => B_X2_punchedBy_4 h x0 x1 s.1 s.2) (lvf := fun s => [(0, rf Γ x0), (1, .int x1), (2, .int s.1), (3, .int s.2)]) (hf := fun s => h) (Ky := K) (fun s => go_X2_punchedBy_B4 hO h x0 x1 s.1 s.2 hx0 (fun _ _ => id) hR) (x2, x3)
  exact q
noncomputable def F_X2_punchedBy (h : Hp) (x0 : Nat) (x1 : Int32) : Option (Int32) :=
  L_X2_punchedBy_4 h x0 x1 ((0 : Int32)) ((0 : Int32))
set_option maxHeartbeats 4000000 in
set_option maxRecDepth 100000 in
theorem go_X2_punchedBy {Γ : Cx} (hO : Ok Γ mX2_punchedBy) (h : Hp) (x0 : Nat) (x1 : Int32) (hx0 : Is x0 2) {K : Int32 → Prop} (hR : ∀ r, K r → emPI h r = tgt Γ) : EG Γ mX2_punchedBy 0 [(0, rf Γ x0), (1, .int x1)] [] h (F_X2_punchedBy h x0 x1) K := by
  unfold F_X2_punchedBy
  refine x_iconst hO (v := 0) (by decide) dX2_punchedBy_0 ?_
  refine x_istore_n hO rfl [(2, .int ((0 : Int32))), (0, rf Γ x0), (1, .int x1)] dX2_punchedBy_1 (by decide) rfl ?_
  refine x_iconst hO (v := 0) (by decide) dX2_punchedBy_2 ?_
  refine x_istore_n hO rfl [(3, .int ((0 : Int32))), (2, .int ((0 : Int32))), (0, rf Γ x0), (1, .int x1)] dX2_punchedBy_3 (by decide) rfl ?_
  exact x_sub [2, 3, 1, 0] rfl (go_X2_punchedBy_L4 hO h x0 x1 ((0 : Int32)) ((0 : Int32)) hx0 hR)
theorem ok_X2_punchedBy (G : Gl) (h : Hp) (x0 : Nat) (x1 : Int32) (hx0 : Is x0 2) : CN G mX2_punchedBy [.ref (gb G + x0), .int x1] h ((F_X2_punchedBy h x0 x1).map (emPI h)) := CN.fn pn_RX2 (Nat.le_of_ble_eq_true rfl) (fun Γ hG hO => by subst hG; exact go_X2_punchedBy hO h x0 x1 hx0 (fun _ q => q))
noncomputable def F_X2_reading (h : Hp) (x0 : Nat) (x1 : Int32) (x2 : Int32) : Option (Int32) :=
  gd (ib ((x1 * ((8 : Int32))) + x2) (LEN (GR x0 3))) (some (hI h (GR x0 3) (nx ((x1 * ((8 : Int32))) + x2))))
set_option maxHeartbeats 4000000 in
set_option maxRecDepth 100000 in
theorem go_X2_reading {Γ : Cx} (hO : Ok Γ mX2_reading) (h : Hp) (x0 : Nat) (x1 : Int32) (x2 : Int32) (hx0 : Is x0 2) {K : Int32 → Prop} (hR : ∀ r, K r → emPI h r = tgt Γ) : EG Γ mX2_reading 0 [(0, rf Γ x0), (1, .int x1), (2, .int x2)] [] h (F_X2_reading h x0 x1 x2) K := by
  unfold F_X2_reading
  refine x_aload_n hO 0 rfl rfl dX2_reading_0 ?_
  refine x_getR hO fl_RX2_22 hx0 dX2_reading_1 ?_
  refine x_iload_n hO 1 rfl rfl dX2_reading_4 ?_
  refine x_bipush hO (v := 8) (by decide) dX2_reading_5 ?_
  refine x_imul hO dX2_reading_7 ?_
  refine x_iload_n hO 2 rfl rfl dX2_reading_8 ?_
  refine x_iadd hO dX2_reading_9 ?_
  refine x_iald hO (gr_2_3 hx0) dX2_reading_10 ?_
  exact x_iret hO rfl dX2_reading_11 (hR _)
theorem ok_X2_reading (G : Gl) (h : Hp) (x0 : Nat) (x1 : Int32) (x2 : Int32) (hx0 : Is x0 2) : CN G mX2_reading [.ref (gb G + x0), .int x1, .int x2] h ((F_X2_reading h x0 x1 x2).map (emPI h)) := CN.fn pn_RX2 (Nat.le_of_ble_eq_true rfl) (fun Γ hG hO => by subst hG; exact go_X2_reading hO h x0 x1 x2 hx0 (fun _ q => q))
noncomputable def B_X2_readingOf_15 (h : Hp) (x1 : Int32) (x2 : Int32) : Option ((Int32) ⊕ (Int32)) :=
  if ((10 : Int32)) ≤ x2 then some (.inr ((11 : Int32))) else if x1 = (((1 : Int32)) <<< (x2 &&& 31)) then some (.inr x2) else some (.inl (x2 + (1 : Int32)))
noncomputable def L_X2_readingOf_15 (h : Hp) (x1 : Int32) (x2 : Int32) : Option (Int32) := iterW (fun s : Int32 => B_X2_readingOf_15 h x1 s) x2
set_option maxHeartbeats 4000000 in
set_option maxRecDepth 100000 in
theorem go_X2_readingOf_B15 {Γ : Cx} (hO : Ok Γ mX2_readingOf) (h : Hp) (x1 : Int32) (x2 : Int32) {K : (Int32) ⊕ (Int32) → Prop} (hC : ∀ (x2 : Int32), K (.inl x2) → EW Γ mX2_readingOf 15 [(1, .int x1), (2, .int x2)] [] h) (hR : ∀ r, K (.inr r) → emPI h r = tgt Γ) : EG Γ mX2_readingOf 15 [(1, .int x1), (2, .int x2)] [] h (B_X2_readingOf_15 h x1 x2) K := by
  unfold B_X2_readingOf_15
  refine x_iload_n hO 1 rfl rfl dX2_readingOf_15 ?_
  refine x_bipush hO (v := 10) (by decide) dX2_readingOf_16 ?_
  refine x_icmp_ge hO (tg := 36) dX2_readingOf_18 (by decide) ?_ ?_
  · refine x_bipush hO (v := 11) (by decide) dX2_readingOf_36 ?_
    exact x_iret hO rfl dX2_readingOf_38 (hR _)
  · refine x_iload_n hO 0 rfl rfl dX2_readingOf_21 ?_
    refine x_iconst hO (v := 1) (by decide) dX2_readingOf_22 ?_
    refine x_iload_n hO 1 rfl rfl dX2_readingOf_23 ?_
    refine x_ishl hO dX2_readingOf_24 ?_
    refine x_icmp_ne hO (tg := 30) dX2_readingOf_25 (by decide) ?_ ?_
    · refine x_iinc hO 1 (v := 1) [(2, .int (x2 + (1 : Int32))), (1, .int x1)] dX2_readingOf_30 rfl (by decide) (by decide) rfl ?_
      refine x_goto hO (tg := 15) dX2_readingOf_33 (by decide) ?_
      exact x_leafs [1, 0] rfl (hC (x2 + (1 : Int32)))
    · refine x_iload_n hO 1 rfl rfl dX2_readingOf_28 ?_
      exact x_iret hO rfl dX2_readingOf_29 (hR _)
set_option maxHeartbeats 4000000 in
set_option maxRecDepth 100000 in
theorem go_X2_readingOf_L15 {Γ : Cx} (hO : Ok Γ mX2_readingOf) (h : Hp) (x1 : Int32) (x2 : Int32) {K : Int32 → Prop} (hR : ∀ r, K (r) → emPI h r = tgt Γ) : EG Γ mX2_readingOf 15 [(1, .int x1), (2, .int x2)] [] h (L_X2_readingOf_15 h x1 x2) K := by
  have q := x_loop (Γ := Γ) (M := mX2_readingOf) (pc := 15) (B := fun s : Int32 => B_X2_readingOf_15 h x1 s) (lvf := fun s => [(1, .int x1), (2, .int s)]) (hf := fun s => h) (Ky := K) (fun s => go_X2_readingOf_B15 hO h x1 s (fun _ => id) hR) x2
  exact q
noncomputable def F_X2_readingOf (h : Hp) (x0 : Int32) : Option (Int32) :=
  if x0 = 0 then some ((10 : Int32)) else L_X2_readingOf_15 h (x0 &&& ((1023 : Int32))) ((0 : Int32))
set_option maxHeartbeats 4000000 in
set_option maxRecDepth 100000 in
theorem go_X2_readingOf {Γ : Cx} (hO : Ok Γ mX2_readingOf) (h : Hp) (x0 : Int32) {K : Int32 → Prop} (hR : ∀ r, K r → emPI h r = tgt Γ) : EG Γ mX2_readingOf 0 [(0, .int x0)] [] h (F_X2_readingOf h x0) K := by
  unfold F_X2_readingOf
  refine x_iload_n hO 0 rfl rfl dX2_readingOf_0 ?_
  refine x_if_ne hO (tg := 7) dX2_readingOf_1 (by decide) ?_ ?_
  · refine x_iload_n hO 0 rfl rfl dX2_readingOf_7 ?_
    refine x_sipush hO (v := 1023) (by decide) dX2_readingOf_8 ?_
    refine x_iand hO dX2_readingOf_11 ?_
    refine x_istore_n hO rfl [(1, .int (x0 &&& ((1023 : Int32)))), (0, .int x0)] dX2_readingOf_12 (by decide) rfl ?_
    refine x_iconst hO (v := 0) (by decide) dX2_readingOf_13 ?_
    refine x_istore_n hO rfl [(2, .int ((0 : Int32))), (1, .int (x0 &&& ((1023 : Int32)))), (0, .int x0)] dX2_readingOf_14 (by decide) rfl ?_
    exact x_sub [1, 0] rfl (go_X2_readingOf_L15 hO h (x0 &&& ((1023 : Int32))) ((0 : Int32)) hR)
  · refine x_bipush hO (v := 10) (by decide) dX2_readingOf_4 ?_
    exact x_iret hO rfl dX2_readingOf_6 (hR _)
theorem ok_X2_readingOf (G : Gl) (h : Hp) (x0 : Int32) : CN G mX2_readingOf [.int x0] h ((F_X2_readingOf h x0).map (emPI h)) := CN.fn pn_RX2 (Nat.le_of_ble_eq_true rfl) (fun Γ hG hO => by subst hG; exact go_X2_readingOf hO h x0 (fun _ q => q))
noncomputable def B_X2_wornAbove_4 (h : Hp) (x0 : Nat) (x1 : Int32) (x2 : Int32) (x3 : Int32) : Option ((Int32 × Int32) ⊕ (Int32)) :=
  if (hI h x0 0) ≤ x3 then some (.inr x2) else gd (ib x3 (LEN (GR x0 6))) (if (hI h (GR x0 6) (nx x3)) ≤ x1 then some (.inl (x2, x3 + (1 : Int32))) else some (.inl (x2 ||| (((1 : Int32)) <<< (x3 &&& 31)), x3 + (1 : Int32))))
noncomputable def L_X2_wornAbove_4 (h : Hp) (x0 : Nat) (x1 : Int32) (x2 : Int32) (x3 : Int32) : Option (Int32) := iterW (fun s : Int32 × Int32 => B_X2_wornAbove_4 h x0 x1 s.1 s.2) (x2, x3)
set_option maxHeartbeats 4000000 in
set_option maxRecDepth 100000 in
theorem go_X2_wornAbove_B4 {Γ : Cx} (hO : Ok Γ mX2_wornAbove) (h : Hp) (x0 : Nat) (x1 : Int32) (x2 : Int32) (x3 : Int32) (hx0 : Is x0 2) {K : (Int32 × Int32) ⊕ (Int32) → Prop} (hC : ∀ (x2 : Int32) (x3 : Int32), K (.inl (x2, x3)) → EW Γ mX2_wornAbove 4 [(0, rf Γ x0), (1, .int x1), (2, .int x2), (3, .int x3)] [] h) (hR : ∀ r, K (.inr r) → emPI h r = tgt Γ) : EG Γ mX2_wornAbove 4 [(0, rf Γ x0), (1, .int x1), (2, .int x2), (3, .int x3)] [] h (B_X2_wornAbove_4 h x0 x1 x2 x3) K := by
  unfold B_X2_wornAbove_4
  refine x_iload_n hO 3 rfl rfl dX2_wornAbove_4 ?_
  refine x_aload_n hO 0 rfl rfl dX2_wornAbove_5 ?_
  refine x_getI hO fl_RX2_9 hx0 dX2_wornAbove_6 ?_
  refine x_icmp_ge hO (tg := 34) dX2_wornAbove_9 (by decide) ?_ ?_
  · refine x_iload_n hO 2 rfl rfl dX2_wornAbove_34 ?_
    exact x_iret hO rfl dX2_wornAbove_35 (hR _)
  · refine x_aload_n hO 0 rfl rfl dX2_wornAbove_12 ?_
    refine x_getR hO fl_RX2_31 hx0 dX2_wornAbove_13 ?_
    refine x_iload_n hO 3 rfl rfl dX2_wornAbove_16 ?_
    refine x_iald hO (gr_2_6 hx0) dX2_wornAbove_17 ?_
    refine x_iload_n hO 1 rfl rfl dX2_wornAbove_18 ?_
    refine x_icmp_le hO (tg := 28) dX2_wornAbove_19 (by decide) ?_ ?_
    · refine x_iinc hO 3 (v := 1) [(3, .int (x3 + (1 : Int32))), (0, rf Γ x0), (1, .int x1), (2, .int x2)] dX2_wornAbove_28 rfl (by decide) (by decide) rfl ?_
      refine x_goto hO (tg := 4) dX2_wornAbove_31 (by decide) ?_
      exact x_leafs [1, 2, 3, 0] rfl (hC x2 (x3 + (1 : Int32)))
    · refine x_iload_n hO 2 rfl rfl dX2_wornAbove_22 ?_
      refine x_iconst hO (v := 1) (by decide) dX2_wornAbove_23 ?_
      refine x_iload_n hO 3 rfl rfl dX2_wornAbove_24 ?_
      refine x_ishl hO dX2_wornAbove_25 ?_
      refine x_ior hO dX2_wornAbove_26 ?_
      refine x_istore_n hO rfl [(2, .int (x2 ||| (((1 : Int32)) <<< (x3 &&& 31)))), (0, rf Γ x0), (1, .int x1), (3, .int x3)] dX2_wornAbove_27 (by decide) rfl ?_
      refine x_iinc hO 3 (v := 1) [(3, .int (x3 + (1 : Int32))), (2, .int (x2 ||| (((1 : Int32)) <<< (x3 &&& 31)))), (0, rf Γ x0), (1, .int x1)] dX2_wornAbove_28 rfl (by decide) (by decide) rfl ?_
      refine x_goto hO (tg := 4) dX2_wornAbove_31 (by decide) ?_
      exact x_leafs [2, 3, 1, 0] rfl (hC (x2 ||| (((1 : Int32)) <<< (x3 &&& 31))) (x3 + (1 : Int32)))
set_option maxHeartbeats 4000000 in
set_option maxRecDepth 100000 in
theorem go_X2_wornAbove_L4 {Γ : Cx} (hO : Ok Γ mX2_wornAbove) (h : Hp) (x0 : Nat) (x1 : Int32) (x2 : Int32) (x3 : Int32) (hx0 : Is x0 2) {K : Int32 → Prop} (hR : ∀ r, K (r) → emPI h r = tgt Γ) : EG Γ mX2_wornAbove 4 [(0, rf Γ x0), (1, .int x1), (2, .int x2), (3, .int x3)] [] h (L_X2_wornAbove_4 h x0 x1 x2 x3) K := by
  have q := x_loop (Γ := Γ) (M := mX2_wornAbove) (pc := 4) (B := fun s : Int32 × Int32 => B_X2_wornAbove_4 h x0 x1 s.1 s.2) (lvf := fun s => [(0, rf Γ x0), (1, .int x1), (2, .int s.1), (3, .int s.2)]) (hf := fun s => h) (Ky := K) (fun s => go_X2_wornAbove_B4 hO h x0 x1 s.1 s.2 hx0 (fun _ _ => id) hR) (x2, x3)
  exact q
noncomputable def F_X2_wornAbove (h : Hp) (x0 : Nat) (x1 : Int32) : Option (Int32) :=
  L_X2_wornAbove_4 h x0 x1 ((0 : Int32)) ((0 : Int32))
set_option maxHeartbeats 4000000 in
set_option maxRecDepth 100000 in
theorem go_X2_wornAbove {Γ : Cx} (hO : Ok Γ mX2_wornAbove) (h : Hp) (x0 : Nat) (x1 : Int32) (hx0 : Is x0 2) {K : Int32 → Prop} (hR : ∀ r, K r → emPI h r = tgt Γ) : EG Γ mX2_wornAbove 0 [(0, rf Γ x0), (1, .int x1)] [] h (F_X2_wornAbove h x0 x1) K := by
  unfold F_X2_wornAbove
  refine x_iconst hO (v := 0) (by decide) dX2_wornAbove_0 ?_
  refine x_istore_n hO rfl [(2, .int ((0 : Int32))), (0, rf Γ x0), (1, .int x1)] dX2_wornAbove_1 (by decide) rfl ?_
  refine x_iconst hO (v := 0) (by decide) dX2_wornAbove_2 ?_
  refine x_istore_n hO rfl [(3, .int ((0 : Int32))), (2, .int ((0 : Int32))), (0, rf Γ x0), (1, .int x1)] dX2_wornAbove_3 (by decide) rfl ?_
  exact x_sub [2, 3, 1, 0] rfl (go_X2_wornAbove_L4 hO h x0 x1 ((0 : Int32)) ((0 : Int32)) hx0 hR)
theorem ok_X2_wornAbove (G : Gl) (h : Hp) (x0 : Nat) (x1 : Int32) (hx0 : Is x0 2) : CN G mX2_wornAbove [.ref (gb G + x0), .int x1] h ((F_X2_wornAbove h x0 x1).map (emPI h)) := CN.fn pn_RX2 (Nat.le_of_ble_eq_true rfl) (fun Γ hG hO => by subst hG; exact go_X2_wornAbove hO h x0 x1 hx0 (fun _ q => q))
noncomputable def F_X3_behindEnd (h : Hp) (x0 : Nat) (x1 : Nat) (x2 : Int32) : Option (Hp × Int32) :=
  gd (ib x2 (LEN (GR x1 5))) (gd (ib (hI h (GR x1 5) (nx x2)) (LEN (GR x1 2))) (if (hI h (GR x1 2) (nx (hI h (GR x1 5) (nx x2)))) = ((5 : Int32)) then gd (ib (hI h (GR x1 5) (nx x2)) (LEN (GR x0 2))) (gd (ib (hI h (GR x1 5) (nx x2)) (LEN (GR x0 2))) (gd (ib (hI h (GR x1 5) (nx x2)) (LEN (GR x0 2))) (if (hI (uI h (GR x0 2) (nx (hI h (GR x1 5) (nx x2))) ((hI h (GR x0 2) (nx (hI h (GR x1 5) (nx x2)))) - ((1 : Int32)))) (GR x0 2) (nx (hI h (GR x1 5) (nx x2)))) ≤ 0 then some ((uI h (GR x0 2) (nx (hI h (GR x1 5) (nx x2))) ((hI h (GR x0 2) (nx (hI h (GR x1 5) (nx x2)))) - ((1 : Int32))), x2 + ((1 : Int32)))) else some ((uI h (GR x0 2) (nx (hI h (GR x1 5) (nx x2))) ((hI h (GR x0 2) (nx (hI h (GR x1 5) (nx x2)))) - ((1 : Int32))), (hI h (GR x1 5) (nx x2)) + ((1 : Int32))))))) else some ((h, x2 + ((1 : Int32))))))
set_option maxHeartbeats 4000000 in
set_option maxRecDepth 100000 in
theorem go_X3_behindEnd {Γ : Cx} (hO : Ok Γ mX3_behindEnd) (h : Hp) (x0 : Nat) (x1 : Nat) (x2 : Int32) (hx0 : Is x0 3) (hx1 : Is x1 9) {K : Hp × Int32 → Prop} (hR : ∀ r, K r → emHI r = tgt Γ) : EG Γ mX3_behindEnd 0 [(0, rf Γ x0), (1, rf Γ x1), (2, .int x2)] [] h (F_X3_behindEnd h x0 x1 x2) K := by
  unfold F_X3_behindEnd
  refine x_aload_n hO 1 rfl rfl dX3_behindEnd_0 ?_
  refine x_getR hO fl_RX3_115 hx1 dX3_behindEnd_1 ?_
  refine x_iload_n hO 2 rfl rfl dX3_behindEnd_4 ?_
  refine x_iald hO (gr_9_5 hx1) dX3_behindEnd_5 ?_
  refine x_istore_n hO rfl [(3, .int (hI h (GR x1 5) (nx x2))), (0, rf Γ x0), (1, rf Γ x1), (2, .int x2)] dX3_behindEnd_6 (by decide) rfl ?_
  refine x_aload_n hO 2 rfl rfl dX3_behindEnd_7 ?_
  refine x_getR hO fl_RX3_105 hx1 dX3_behindEnd_8 ?_
  refine x_iload_n hO 0 rfl rfl dX3_behindEnd_11 ?_
  refine x_iald hO (gr_9_2 hx1) dX3_behindEnd_12 ?_
  refine x_iconst hO (v := 5) (by decide) dX3_behindEnd_13 ?_
  refine x_icmp_ne hO (tg := 40) dX3_behindEnd_14 (by decide) ?_ ?_
  · refine x_iload_n hO 3 rfl rfl dX3_behindEnd_40 ?_
    refine x_iconst hO (v := 1) (by decide) dX3_behindEnd_41 ?_
    refine x_iadd hO dX3_behindEnd_42 ?_
    exact x_iret hO rfl dX3_behindEnd_43 (hR _)
  · refine x_aload_n hO 1 rfl rfl dX3_behindEnd_17 ?_
    refine x_getR hO fl_RX3_20 hx0 dX3_behindEnd_18 ?_
    refine x_iload_n hO 0 rfl rfl dX3_behindEnd_21 ?_
    refine x_dup2_ri hO dX3_behindEnd_22 ?_
    refine x_iald hO (gr_3_2 hx0) dX3_behindEnd_23 ?_
    refine x_iconst hO (v := 1) (by decide) dX3_behindEnd_24 ?_
    refine x_isub hO dX3_behindEnd_25 ?_
    refine x_iast hO (gr_3_2 hx0) dX3_behindEnd_26 ?_
    refine x_aload_n hO 1 rfl rfl dX3_behindEnd_27 ?_
    refine x_getR hO fl_RX3_20 hx0 dX3_behindEnd_28 ?_
    refine x_iload_n hO 0 rfl rfl dX3_behindEnd_31 ?_
    refine x_iald hO (gr_3_2 hx0) dX3_behindEnd_32 ?_
    refine x_if_le hO (tg := 40) dX3_behindEnd_33 (by decide) ?_ ?_
    · refine x_iload_n hO 3 rfl rfl dX3_behindEnd_40 ?_
      refine x_iconst hO (v := 1) (by decide) dX3_behindEnd_41 ?_
      refine x_iadd hO dX3_behindEnd_42 ?_
      exact x_iret hO rfl dX3_behindEnd_43 (hR _)
    · refine x_iload_n hO 0 rfl rfl dX3_behindEnd_36 ?_
      refine x_iconst hO (v := 1) (by decide) dX3_behindEnd_37 ?_
      refine x_iadd hO dX3_behindEnd_38 ?_
      exact x_iret hO rfl dX3_behindEnd_39 (hR _)
theorem ok_X3_behindEnd (G : Gl) (h : Hp) (x0 : Nat) (x1 : Nat) (x2 : Int32) (hx0 : Is x0 3) (hx1 : Is x1 9) : CN G mX3_behindEnd [.ref (gb G + x0), .ref (gb G + x1), .int x2] h ((F_X3_behindEnd h x0 x1 x2).map (emHI)) := CN.fn pn_RX3 (Nat.le_of_ble_eq_true rfl) (fun Γ hG hO => by subst hG; exact go_X3_behindEnd hO h x0 x1 x2 hx0 hx1 (fun _ q => q))
noncomputable def B_X4_closed_2 (h : Hp) (x0 : Nat) (x1 : Int32) : Option ((Int32) ⊕ (Int32)) :=
  if ((13 : Int32)) ≤ x1 then some (.inr ((1 : Int32))) else gd (ib x1 (LEN (GR x0 5))) (if (lg_cmp (hL h (GR x0 5) (nx x1)) ((0 : Int64))) = 0 then some (.inl (x1 + (1 : Int32))) else some (.inr ((0 : Int32))))
noncomputable def L_X4_closed_2 (h : Hp) (x0 : Nat) (x1 : Int32) : Option (Int32) := iterW (fun s : Int32 => B_X4_closed_2 h x0 s) x1
set_option maxHeartbeats 4000000 in
set_option maxRecDepth 100000 in
theorem go_X4_closed_B2 {Γ : Cx} (hO : Ok Γ mX4_closed) (h : Hp) (x0 : Nat) (x1 : Int32) (hx0 : Is x0 4) {K : (Int32) ⊕ (Int32) → Prop} (hC : ∀ (x1 : Int32), K (.inl x1) → EW Γ mX4_closed 2 [(0, rf Γ x0), (1, .int x1)] [] h) (hR : ∀ r, K (.inr r) → emPI h r = tgt Γ) : EG Γ mX4_closed 2 [(0, rf Γ x0), (1, .int x1)] [] h (B_X4_closed_2 h x0 x1) K := by
  unfold B_X4_closed_2
  refine x_iload_n hO 1 rfl rfl dX4_closed_2 ?_
  refine x_bipush hO (v := 13) (by decide) dX4_closed_3 ?_
  refine x_icmp_ge hO (tg := 27) dX4_closed_5 (by decide) ?_ ?_
  · refine x_iconst hO (v := 1) (by decide) dX4_closed_27 ?_
    exact x_zretv hO rfl (by decide) dX4_closed_28 (hR _)
  · refine x_aload_n hO 0 rfl rfl dX4_closed_8 ?_
    refine x_getR hO fl_RX4_29 hx0 dX4_closed_9 ?_
    refine x_iload_n hO 1 rfl rfl dX4_closed_12 ?_
    refine x_lald hO (gr_4_5 hx0) dX4_closed_13 ?_
    refine x_lconst hO (v := 0) (by decide) dX4_closed_14 ?_
    refine x_lcmp hO dX4_closed_15 ?_
    refine x_if_eq hO (tg := 21) dX4_closed_16 (by decide) ?_ ?_
    · refine x_iinc hO 1 (v := 1) [(1, .int (x1 + (1 : Int32))), (0, rf Γ x0)] dX4_closed_21 rfl (by decide) (by decide) rfl ?_
      refine x_goto hO (tg := 2) dX4_closed_24 (by decide) ?_
      exact x_leafs [1, 0] rfl (hC (x1 + (1 : Int32)))
    · refine x_iconst hO (v := 0) (by decide) dX4_closed_19 ?_
      exact x_zretv hO rfl (by decide) dX4_closed_20 (hR _)
set_option maxHeartbeats 4000000 in
set_option maxRecDepth 100000 in
theorem go_X4_closed_L2 {Γ : Cx} (hO : Ok Γ mX4_closed) (h : Hp) (x0 : Nat) (x1 : Int32) (hx0 : Is x0 4) {K : Int32 → Prop} (hR : ∀ r, K (r) → emPI h r = tgt Γ) : EG Γ mX4_closed 2 [(0, rf Γ x0), (1, .int x1)] [] h (L_X4_closed_2 h x0 x1) K := by
  have q := x_loop (Γ := Γ) (M := mX4_closed) (pc := 2) (B := fun s : Int32 => B_X4_closed_2 h x0 s) (lvf := fun s => [(0, rf Γ x0), (1, .int s)]) (hf := fun s => h) (Ky := K) (fun s => go_X4_closed_B2 hO h x0 s hx0 (fun _ => id) hR) x1
  exact q
noncomputable def F_X4_closed (h : Hp) (x0 : Nat) : Option (Int32) :=
  L_X4_closed_2 h x0 ((0 : Int32))
set_option maxHeartbeats 4000000 in
set_option maxRecDepth 100000 in
theorem go_X4_closed {Γ : Cx} (hO : Ok Γ mX4_closed) (h : Hp) (x0 : Nat) (hx0 : Is x0 4) {K : Int32 → Prop} (hR : ∀ r, K r → emPI h r = tgt Γ) : EG Γ mX4_closed 0 [(0, rf Γ x0)] [] h (F_X4_closed h x0) K := by
  unfold F_X4_closed
  refine x_iconst hO (v := 0) (by decide) dX4_closed_0 ?_
  refine x_istore_n hO rfl [(1, .int ((0 : Int32))), (0, rf Γ x0)] dX4_closed_1 (by decide) rfl ?_
  exact x_sub [1, 0] rfl (go_X4_closed_L2 hO h x0 ((0 : Int32)) hx0 hR)
theorem ok_X4_closed (G : Gl) (h : Hp) (x0 : Nat) (hx0 : Is x0 4) : CN G mX4_closed [.ref (gb G + x0)] h ((F_X4_closed h x0).map (emPI h)) := CN.fn pn_RX4 (Nat.le_of_ble_eq_true rfl) (fun Γ hG hO => by subst hG; exact go_X4_closed hO h x0 hx0 (fun _ q => q))
noncomputable def F_X4_keepFirst (h : Hp) (x0 : Nat) (x1 : Int32) (x2 : Int32) (x3 : Int32) (x4 : Int32) : Option (Hp) :=
  if x1 = 0 then gd (ib x2 (LEN (GR x0 4))) (gd (ib (x2 + ((1 : Int32))) (LEN (GR x0 4))) (some (uI (uI h (GR x0 4) (nx x2) x3) (GR x0 4) (nx (x2 + ((1 : Int32)))) x4))) else some h
set_option maxHeartbeats 4000000 in
set_option maxRecDepth 100000 in
theorem go_X4_keepFirst {Γ : Cx} (hO : Ok Γ mX4_keepFirst) (h : Hp) (x0 : Nat) (x1 : Int32) (x2 : Int32) (x3 : Int32) (x4 : Int32) (hx0 : Is x0 4) {K : Hp → Prop} (hR : ∀ r, K r → emHV r = tgt Γ) : EG Γ mX4_keepFirst 0 [(0, rf Γ x0), (1, .int x1), (2, .int x2), (3, .int x3), (4, .int x4)] [] h (F_X4_keepFirst h x0 x1 x2 x3 x4) K := by
  unfold F_X4_keepFirst
  refine x_iload_n hO 1 rfl rfl dX4_keepFirst_0 ?_
  refine x_if_ne hO (tg := 21) dX4_keepFirst_1 (by decide) ?_ ?_
  · exact x_vret hO rfl dX4_keepFirst_21 (hR _)
  · refine x_aload_n hO 0 rfl rfl dX4_keepFirst_4 ?_
    refine x_getR hO fl_RX4_26 hx0 dX4_keepFirst_5 ?_
    refine x_iload_n hO 2 rfl rfl dX4_keepFirst_8 ?_
    refine x_iload_n hO 3 rfl rfl dX4_keepFirst_9 ?_
    refine x_iast hO (gr_4_4 hx0) dX4_keepFirst_10 ?_
    refine x_aload_n hO 0 rfl rfl dX4_keepFirst_11 ?_
    refine x_getR hO fl_RX4_26 hx0 dX4_keepFirst_12 ?_
    refine x_iload_n hO 2 rfl rfl dX4_keepFirst_15 ?_
    refine x_iconst hO (v := 1) (by decide) dX4_keepFirst_16 ?_
    refine x_iadd hO dX4_keepFirst_17 ?_
    refine x_iload hO 4 rfl dX4_keepFirst_18 ?_
    refine x_iast hO (gr_4_4 hx0) dX4_keepFirst_20 ?_
    exact x_vret hO rfl dX4_keepFirst_21 (hR _)
theorem ok_X4_keepFirst (G : Gl) (h : Hp) (x0 : Nat) (x1 : Int32) (x2 : Int32) (x3 : Int32) (x4 : Int32) (hx0 : Is x0 4) : CN G mX4_keepFirst [.ref (gb G + x0), .int x1, .int x2, .int x3, .int x4] h ((F_X4_keepFirst h x0 x1 x2 x3 x4).map (emHV)) := CN.fn pn_RX4 (Nat.le_of_ble_eq_true rfl) (fun Γ hG hO => by subst hG; exact go_X4_keepFirst hO h x0 x1 x2 x3 x4 hx0 (fun _ q => q))
noncomputable def F_X4_misreads (h : Hp) (x0 : Nat) (x1 : Int32) (x2 : Int32) : Option (Int32) :=
  if x2 = 0 then gd (ib x1 (LEN (GR x0 6))) (if (hI h (GR x0 6) (nx x1)) < ((10 : Int32)) then gd (ib x1 (LEN (GR x0 6))) (some ((((hI h (GR x0 6) (nx x1)) + ((10 : Int32))) - ((1 : Int32))) - (((hI h (GR x0 6) (nx x1)) + ((10 : Int32))) - ((1 : Int32))) / ((10 : Int32)) * ((10 : Int32)))) else some ((-1 : Int32))) else if x2 = ((1 : Int32)) then gd (ib x1 (LEN (GR x0 7))) (some (hI h (GR x0 7) (nx x1))) else if x1 = (hI h x0 9) then some ((-1 : Int32)) else some ((12 : Int32))
set_option maxHeartbeats 4000000 in
set_option maxRecDepth 100000 in
theorem go_X4_misreads {Γ : Cx} (hO : Ok Γ mX4_misreads) (h : Hp) (x0 : Nat) (x1 : Int32) (x2 : Int32) (hx0 : Is x0 4) {K : Int32 → Prop} (hR : ∀ r, K r → emPI h r = tgt Γ) : EG Γ mX4_misreads 0 [(0, rf Γ x0), (1, .int x1), (2, .int x2)] [] h (F_X4_misreads h x0 x1 x2) K := by
  unfold F_X4_misreads
  refine x_iload_n hO 2 rfl rfl dX4_misreads_0 ?_
  refine x_if_ne hO (tg := 34) dX4_misreads_1 (by decide) ?_ ?_
  · refine x_iload_n hO 2 rfl rfl dX4_misreads_34 ?_
    refine x_iconst hO (v := 1) (by decide) dX4_misreads_35 ?_
    refine x_icmp_ne hO (tg := 46) dX4_misreads_36 (by decide) ?_ ?_
    · refine x_iload_n hO 1 rfl rfl dX4_misreads_46 ?_
      refine x_aload_n hO 0 rfl rfl dX4_misreads_47 ?_
      refine x_getI hO fl_RX4_42 hx0 dX4_misreads_48 ?_
      refine x_icmp_ne hO (tg := 58) dX4_misreads_51 (by decide) ?_ ?_
      · refine x_bipush hO (v := 12) (by decide) dX4_misreads_58 ?_
        exact x_iret hO rfl dX4_misreads_60 (hR _)
      · refine x_iconst hO (v := -1) (by decide) dX4_misreads_54 ?_
        refine x_goto hO (tg := 60) dX4_misreads_55 (by decide) ?_
        exact x_iret hO rfl dX4_misreads_60 (hR _)
    · refine x_aload_n hO 0 rfl rfl dX4_misreads_39 ?_
      refine x_getR hO fl_RX4_36 hx0 dX4_misreads_40 ?_
      refine x_iload_n hO 1 rfl rfl dX4_misreads_43 ?_
      refine x_iald hO (gr_4_7 hx0) dX4_misreads_44 ?_
      exact x_iret hO rfl dX4_misreads_45 (hR _)
  · refine x_aload_n hO 0 rfl rfl dX4_misreads_4 ?_
    refine x_getR hO fl_RX4_33 hx0 dX4_misreads_5 ?_
    refine x_iload_n hO 1 rfl rfl dX4_misreads_8 ?_
    refine x_iald hO (gr_4_6 hx0) dX4_misreads_9 ?_
    refine x_bipush hO (v := 10) (by decide) dX4_misreads_10 ?_
    refine x_icmp_lt hO (tg := 19) dX4_misreads_12 (by decide) ?_ ?_
    · refine x_aload_n hO 0 rfl rfl dX4_misreads_19 ?_
      refine x_getR hO fl_RX4_33 hx0 dX4_misreads_20 ?_
      refine x_iload_n hO 1 rfl rfl dX4_misreads_23 ?_
      refine x_iald hO (gr_4_6 hx0) dX4_misreads_24 ?_
      refine x_bipush hO (v := 10) (by decide) dX4_misreads_25 ?_
      refine x_iadd hO dX4_misreads_27 ?_
      refine x_iconst hO (v := 1) (by decide) dX4_misreads_28 ?_
      refine x_isub hO dX4_misreads_29 ?_
      refine x_bipush hO (v := 10) (by decide) dX4_misreads_30 ?_
      refine x_iremc hO (by decide) dX4_misreads_32 ?_
      exact x_iret hO rfl dX4_misreads_33 (hR _)
    · refine x_iconst hO (v := -1) (by decide) dX4_misreads_15 ?_
      refine x_goto hO (tg := 33) dX4_misreads_16 (by decide) ?_
      exact x_iret hO rfl dX4_misreads_33 (hR _)
theorem ok_X4_misreads (G : Gl) (h : Hp) (x0 : Nat) (x1 : Int32) (x2 : Int32) (hx0 : Is x0 4) : CN G mX4_misreads [.ref (gb G + x0), .int x1, .int x2] h ((F_X4_misreads h x0 x1 x2).map (emPI h)) := CN.fn pn_RX4 (Nat.le_of_ble_eq_true rfl) (fun Γ hG hO => by subst hG; exact go_X4_misreads hO h x0 x1 x2 hx0 (fun _ q => q))
noncomputable def F_X4_tally (h : Hp) (x0 : Nat) (x1 : Int32) (x2 : Int32) : Option (Hp) :=
  if x1 < 0 then some h else if ((12 : Int32)) ≤ x1 then some h else gd (ib x1 (LEN (GR x0 5))) (gd (ib x1 (LEN (GR x0 5))) (if ((10 : Int32)) ≤ x1 then some (uL h (GR x0 5) (nx x1) ((hL h (GR x0 5) (nx x1)) - x2.toInt64)) else gd (ib ((12 : Int32)) (LEN (GR x0 5))) (gd (ib ((12 : Int32)) (LEN (GR x0 5))) (bnd (uL (uL h (GR x0 5) (nx x1) ((hL h (GR x0 5) (nx x1)) - x2.toInt64)) (GR x0 5) (nx ((12 : Int32))) ((hL (uL h (GR x0 5) (nx x1) ((hL h (GR x0 5) (nx x1)) - x2.toInt64)) (GR x0 5) (nx ((12 : Int32)))) - (x2.toInt64 * x1.toInt64))) (fun h1 => some h1)))))
set_option maxHeartbeats 4000000 in
set_option maxRecDepth 100000 in
theorem go_X4_tally {Γ : Cx} (hO : Ok Γ mX4_tally) (h : Hp) (x0 : Nat) (x1 : Int32) (x2 : Int32) (hx0 : Is x0 4) {K : Hp → Prop} (hR : ∀ r, K r → emHV r = tgt Γ) : EG Γ mX4_tally 0 [(0, rf Γ x0), (1, .int x1), (2, .int x2)] [] h (F_X4_tally h x0 x1 x2) K := by
  unfold F_X4_tally
  refine x_iload_n hO 1 rfl rfl dX4_tally_0 ?_
  refine x_if_lt hO (tg := 42) dX4_tally_1 (by decide) ?_ ?_
  · exact x_vret hO rfl dX4_tally_42 (hR _)
  · refine x_iload_n hO 1 rfl rfl dX4_tally_4 ?_
    refine x_bipush hO (v := 12) (by decide) dX4_tally_5 ?_
    refine x_icmp_ge hO (tg := 42) dX4_tally_7 (by decide) ?_ ?_
    · exact x_vret hO rfl dX4_tally_42 (hR _)
    · refine x_aload_n hO 0 rfl rfl dX4_tally_10 ?_
      refine x_getR hO fl_RX4_29 hx0 dX4_tally_11 ?_
      refine x_iload_n hO 1 rfl rfl dX4_tally_14 ?_
      refine x_dup2_ri hO dX4_tally_15 ?_
      refine x_lald hO (gr_4_5 hx0) dX4_tally_16 ?_
      refine x_iload_n hO 2 rfl rfl dX4_tally_17 ?_
      refine x_i2l hO dX4_tally_18 ?_
      refine x_lsub hO dX4_tally_19 ?_
      refine x_last hO (gr_4_5 hx0) dX4_tally_20 ?_
      refine x_iload_n hO 1 rfl rfl dX4_tally_21 ?_
      refine x_bipush hO (v := 10) (by decide) dX4_tally_22 ?_
      refine x_icmp_ge hO (tg := 42) dX4_tally_24 (by decide) ?_ ?_
      · exact x_vret hO rfl dX4_tally_42 (hR _)
      · refine x_aload_n hO 0 rfl rfl dX4_tally_27 ?_
        refine x_getR hO fl_RX4_29 hx0 dX4_tally_28 ?_
        refine x_bipush hO (v := 12) (by decide) dX4_tally_31 ?_
        refine x_dup2_ri hO dX4_tally_33 ?_
        refine x_lald hO (gr_4_5 hx0) dX4_tally_34 ?_
        refine x_iload_n hO 2 rfl rfl dX4_tally_35 ?_
        refine x_i2l hO dX4_tally_36 ?_
        refine x_iload_n hO 1 rfl rfl dX4_tally_37 ?_
        refine x_i2l hO dX4_tally_38 ?_
        refine x_lmul hO dX4_tally_39 ?_
        refine x_lsub hO dX4_tally_40 ?_
        refine x_last hO (gr_4_5 hx0) dX4_tally_41 ?_
        refine x_bnd ?_
        generalize uL (uL h (GR x0 5) (nx x1) ((hL h (GR x0 5) (nx x1)) - x2.toInt64)) (GR x0 5) (nx ((12 : Int32))) ((hL (uL h (GR x0 5) (nx x1) ((hL h (GR x0 5) (nx x1)) - x2.toInt64)) (GR x0 5) (nx ((12 : Int32)))) - (x2.toInt64 * x1.toInt64)) = h1
        exact x_vret hO rfl dX4_tally_42 (hR _)
theorem ok_X4_tally (G : Gl) (h : Hp) (x0 : Nat) (x1 : Int32) (x2 : Int32) (hx0 : Is x0 4) : CN G mX4_tally [.ref (gb G + x0), .int x1, .int x2] h ((F_X4_tally h x0 x1 x2).map (emHV)) := CN.fn pn_RX4 (Nat.le_of_ble_eq_true rfl) (fun Γ hG hO => by subst hG; exact go_X4_tally hO h x0 x1 x2 hx0 (fun _ q => q))
noncomputable def J_X5_addCard_145 (h : Hp) (x0 : Nat) (x1 : Int32) (x2 : Int32) (x3 : Int32) (x4 : Int32) (x5 : Int32) (x6 : Int32) (x7 : Int32) : Option ((Hp × Int32 × Int32 × Int32) ⊕ (Hp × Int32 × Int32)) :=
  if x3 = 0 then gd (ib x7 (LEN (GR x0 7))) (some (.inl (uI h (GR x0 7) (nx x7) ((0 : Int32)), x5, x6, x7 + (1 : Int32)))) else if x4 = 0 then gd (ib x7 (LEN (GR x0 7))) (some (.inl (uI h (GR x0 7) (nx x7) ((0 : Int32)), x5, x6, x7 + (1 : Int32)))) else some (.inl (h, x5, x6, x7 + (1 : Int32)))
set_option maxHeartbeats 4000000 in
set_option maxRecDepth 100000 in
theorem go_X5_addCard_J145 {Γ : Cx} (hO : Ok Γ mX5_addCard) (h : Hp) (x0 : Nat) (x1 : Int32) (x2 : Int32) (x3 : Int32) (x4 : Int32) (x5 : Int32) (x6 : Int32) (x7 : Int32) (hx0 : Is x0 5) {K : (Hp × Int32 × Int32 × Int32) ⊕ (Hp × Int32 × Int32) → Prop} (hC : ∀ (h : Hp) (x5 : Int32) (x6 : Int32) (x7 : Int32), K (.inl (h, x5, x6, x7)) → EW Γ mX5_addCard 64 [(0, rf Γ x0), (1, .int x1), (2, .int x2), (3, .int x3), (4, .int x4), (5, .int x5), (6, .int x6), (7, .int x7)] [] h) (hE168 : ∀ (h : Hp) (x5 : Int32) (x6 : Int32), K (.inr ((h, x5, x6))) → EW Γ mX5_addCard 168 [(0, rf Γ x0), (1, .int x1), (5, .int x5), (6, .int x6)] [] h) : EG Γ mX5_addCard 145 [(0, rf Γ x0), (1, .int x1), (2, .int x2), (3, .int x3), (4, .int x4), (5, .int x5), (6, .int x6), (7, .int x7)] [] h (J_X5_addCard_145 h x0 x1 x2 x3 x4 x5 x6 x7) K := by
  unfold J_X5_addCard_145
  refine x_iload_n hO 3 rfl rfl dX5_addCard_145 ?_
  refine x_if_eq hO (tg := 154) dX5_addCard_146 (by decide) ?_ ?_
  · refine x_aload_n hO 0 rfl rfl dX5_addCard_154 ?_
    refine x_getR hO fl_RX5_35 hx0 dX5_addCard_155 ?_
    refine x_iload hO 7 rfl dX5_addCard_158 ?_
    refine x_iconst hO (v := 0) (by decide) dX5_addCard_160 ?_
    refine x_iast hO (gr_5_7 hx0) dX5_addCard_161 ?_
    refine x_iinc hO 7 (v := 1) [(7, .int (x7 + (1 : Int32))), (0, rf Γ x0), (1, .int x1), (2, .int x2), (3, .int x3), (4, .int x4), (5, .int x5), (6, .int x6)] dX5_addCard_162 rfl (by decide) (by decide) rfl ?_
    refine x_goto hO (tg := 64) dX5_addCard_165 (by decide) ?_
    exact x_leafs [1, 2, 3, 4, 5, 6, 7, 0] rfl (hC (uI h (GR x0 7) (nx x7) ((0 : Int32))) x5 x6 (x7 + (1 : Int32)))
  · refine x_iload hO 4 rfl dX5_addCard_149 ?_
    refine x_if_ne hO (tg := 162) dX5_addCard_151 (by decide) ?_ ?_
    · refine x_iinc hO 7 (v := 1) [(7, .int (x7 + (1 : Int32))), (0, rf Γ x0), (1, .int x1), (2, .int x2), (3, .int x3), (4, .int x4), (5, .int x5), (6, .int x6)] dX5_addCard_162 rfl (by decide) (by decide) rfl ?_
      refine x_goto hO (tg := 64) dX5_addCard_165 (by decide) ?_
      exact x_leafs [1, 2, 3, 4, 5, 6, 7, 0] rfl (hC h x5 x6 (x7 + (1 : Int32)))
    · refine x_aload_n hO 0 rfl rfl dX5_addCard_154 ?_
      refine x_getR hO fl_RX5_35 hx0 dX5_addCard_155 ?_
      refine x_iload hO 7 rfl dX5_addCard_158 ?_
      refine x_iconst hO (v := 0) (by decide) dX5_addCard_160 ?_
      refine x_iast hO (gr_5_7 hx0) dX5_addCard_161 ?_
      refine x_iinc hO 7 (v := 1) [(7, .int (x7 + (1 : Int32))), (0, rf Γ x0), (1, .int x1), (2, .int x2), (3, .int x3), (4, .int x4), (5, .int x5), (6, .int x6)] dX5_addCard_162 rfl (by decide) (by decide) rfl ?_
      refine x_goto hO (tg := 64) dX5_addCard_165 (by decide) ?_
      exact x_leafs [1, 2, 3, 4, 5, 6, 7, 0] rfl (hC (uI h (GR x0 7) (nx x7) ((0 : Int32))) x5 x6 (x7 + (1 : Int32)))
noncomputable def J_X5_addCard_137 (h : Hp) (x0 : Nat) (x1 : Int32) (x2 : Int32) (x3 : Int32) (x4 : Int32) (x5 : Int32) (x6 : Int32) (x7 : Int32) : Option ((Hp × Int32 × Int32 × Int32) ⊕ (Hp × Int32 × Int32)) :=
  gd (ib x7 (LEN (GR x0 6))) (J_X5_addCard_145 (uI h (GR x0 6) (nx x7) ((0 : Int32))) x0 x1 x2 x3 x4 x5 x6 x7)
set_option maxHeartbeats 4000000 in
set_option maxRecDepth 100000 in
theorem go_X5_addCard_J137 {Γ : Cx} (hO : Ok Γ mX5_addCard) (h : Hp) (x0 : Nat) (x1 : Int32) (x2 : Int32) (x3 : Int32) (x4 : Int32) (x5 : Int32) (x6 : Int32) (x7 : Int32) (hx0 : Is x0 5) {K : (Hp × Int32 × Int32 × Int32) ⊕ (Hp × Int32 × Int32) → Prop} (hC : ∀ (h : Hp) (x5 : Int32) (x6 : Int32) (x7 : Int32), K (.inl (h, x5, x6, x7)) → EW Γ mX5_addCard 64 [(0, rf Γ x0), (1, .int x1), (2, .int x2), (3, .int x3), (4, .int x4), (5, .int x5), (6, .int x6), (7, .int x7)] [] h) (hE168 : ∀ (h : Hp) (x5 : Int32) (x6 : Int32), K (.inr ((h, x5, x6))) → EW Γ mX5_addCard 168 [(0, rf Γ x0), (1, .int x1), (5, .int x5), (6, .int x6)] [] h) : EG Γ mX5_addCard 137 [(0, rf Γ x0), (1, .int x1), (2, .int x2), (3, .int x3), (4, .int x4), (5, .int x5), (6, .int x6), (7, .int x7)] [] h (J_X5_addCard_137 h x0 x1 x2 x3 x4 x5 x6 x7) K := by
  unfold J_X5_addCard_137
  refine x_aload_n hO 0 rfl rfl dX5_addCard_137 ?_
  refine x_getR hO fl_RX5_32 hx0 dX5_addCard_138 ?_
  refine x_iload hO 7 rfl dX5_addCard_141 ?_
  refine x_iconst hO (v := 0) (by decide) dX5_addCard_143 ?_
  refine x_iast hO (gr_5_6 hx0) dX5_addCard_144 ?_
  exact x_sub [0, 1, 2, 3, 4, 5, 6, 7] rfl (go_X5_addCard_J145 hO (uI h (GR x0 6) (nx x7) ((0 : Int32))) x0 x1 x2 x3 x4 x5 x6 x7 hx0 hC hE168)
noncomputable def J_X5_addCard_128 (h : Hp) (x0 : Nat) (x1 : Int32) (x2 : Int32) (x3 : Int32) (x4 : Int32) (x5 : Int32) (x6 : Int32) (x7 : Int32) : Option ((Hp × Int32 × Int32 × Int32) ⊕ (Hp × Int32 × Int32)) :=
  if x2 = 0 then J_X5_addCard_137 h x0 x1 x2 x3 x4 x5 x6 x7 else if x4 = 0 then J_X5_addCard_137 h x0 x1 x2 x3 x4 x5 x6 x7 else J_X5_addCard_145 h x0 x1 x2 x3 x4 x5 x6 x7
set_option maxHeartbeats 4000000 in
set_option maxRecDepth 100000 in
theorem go_X5_addCard_J128 {Γ : Cx} (hO : Ok Γ mX5_addCard) (h : Hp) (x0 : Nat) (x1 : Int32) (x2 : Int32) (x3 : Int32) (x4 : Int32) (x5 : Int32) (x6 : Int32) (x7 : Int32) (hx0 : Is x0 5) {K : (Hp × Int32 × Int32 × Int32) ⊕ (Hp × Int32 × Int32) → Prop} (hC : ∀ (h : Hp) (x5 : Int32) (x6 : Int32) (x7 : Int32), K (.inl (h, x5, x6, x7)) → EW Γ mX5_addCard 64 [(0, rf Γ x0), (1, .int x1), (2, .int x2), (3, .int x3), (4, .int x4), (5, .int x5), (6, .int x6), (7, .int x7)] [] h) (hE168 : ∀ (h : Hp) (x5 : Int32) (x6 : Int32), K (.inr ((h, x5, x6))) → EW Γ mX5_addCard 168 [(0, rf Γ x0), (1, .int x1), (5, .int x5), (6, .int x6)] [] h) : EG Γ mX5_addCard 128 [(0, rf Γ x0), (1, .int x1), (2, .int x2), (3, .int x3), (4, .int x4), (5, .int x5), (6, .int x6), (7, .int x7)] [] h (J_X5_addCard_128 h x0 x1 x2 x3 x4 x5 x6 x7) K := by
  unfold J_X5_addCard_128
  refine x_iload_n hO 2 rfl rfl dX5_addCard_128 ?_
  refine x_if_eq hO (tg := 137) dX5_addCard_129 (by decide) ?_ ?_
  · exact x_sub [0, 1, 2, 3, 4, 5, 6, 7] rfl (go_X5_addCard_J137 hO h x0 x1 x2 x3 x4 x5 x6 x7 hx0 hC hE168)
  · refine x_iload hO 4 rfl dX5_addCard_132 ?_
    refine x_if_ne hO (tg := 145) dX5_addCard_134 (by decide) ?_ ?_
    · exact x_sub [0, 1, 2, 3, 4, 5, 6, 7] rfl (go_X5_addCard_J145 hO h x0 x1 x2 x3 x4 x5 x6 x7 hx0 hC hE168)
    · exact x_sub [0, 1, 2, 3, 4, 5, 6, 7] rfl (go_X5_addCard_J137 hO h x0 x1 x2 x3 x4 x5 x6 x7 hx0 hC hE168)
noncomputable def J_X5_addCard_125 (h : Hp) (x0 : Nat) (x1 : Int32) (x2 : Int32) (x3 : Int32) (x4 : Int32) (x6 : Int32) (x7 : Int32) (s0 : Int32) (s1 : Int32) : Option ((Hp × Int32 × Int32 × Int32) ⊕ (Hp × Int32 × Int32)) :=
  J_X5_addCard_128 h x0 x1 x2 x3 x4 (s0 + s1) x6 x7
set_option maxHeartbeats 4000000 in
set_option maxRecDepth 100000 in
theorem go_X5_addCard_J125 {Γ : Cx} (hO : Ok Γ mX5_addCard) (h : Hp) (x0 : Nat) (x1 : Int32) (x2 : Int32) (x3 : Int32) (x4 : Int32) (x6 : Int32) (x7 : Int32) (s0 : Int32) (s1 : Int32) (hx0 : Is x0 5) {K : (Hp × Int32 × Int32 × Int32) ⊕ (Hp × Int32 × Int32) → Prop} (hC : ∀ (h : Hp) (x5 : Int32) (x6 : Int32) (x7 : Int32), K (.inl (h, x5, x6, x7)) → EW Γ mX5_addCard 64 [(0, rf Γ x0), (1, .int x1), (2, .int x2), (3, .int x3), (4, .int x4), (5, .int x5), (6, .int x6), (7, .int x7)] [] h) (hE168 : ∀ (h : Hp) (x5 : Int32) (x6 : Int32), K (.inr ((h, x5, x6))) → EW Γ mX5_addCard 168 [(0, rf Γ x0), (1, .int x1), (5, .int x5), (6, .int x6)] [] h) : EG Γ mX5_addCard 125 [(0, rf Γ x0), (1, .int x1), (2, .int x2), (3, .int x3), (4, .int x4), (6, .int x6), (7, .int x7)] [.int s1, .int s0] h (J_X5_addCard_125 h x0 x1 x2 x3 x4 x6 x7 s0 s1) K := by
  unfold J_X5_addCard_125
  refine x_iadd hO dX5_addCard_125 ?_
  refine x_istore hO [(5, .int (s0 + s1)), (0, rf Γ x0), (1, .int x1), (2, .int x2), (3, .int x3), (4, .int x4), (6, .int x6), (7, .int x7)] dX5_addCard_126 (by decide) rfl ?_
  exact x_sub [1, 2, 3, 4, 5, 0, 6, 7] rfl (go_X5_addCard_J128 hO h x0 x1 x2 x3 x4 (s0 + s1) x6 x7 hx0 hC hE168)
noncomputable def J_X5_addCard_105 (h : Hp) (x0 : Nat) (x1 : Int32) (x2 : Int32) (x3 : Int32) (x4 : Int32) (x5 : Int32) (x7 : Int32) (s0 : Int32) (s1 : Int32) : Option ((Hp × Int32 × Int32 × Int32) ⊕ (Hp × Int32 × Int32)) :=
  if x2 = 0 then J_X5_addCard_125 h x0 x1 x2 x3 x4 (s0 + s1) x7 x5 ((0 : Int32)) else gd (ib x7 (LEN (GR x0 7))) (J_X5_addCard_125 h x0 x1 x2 x3 x4 (s0 + s1) x7 x5 (hI h (GR x0 7) (nx x7)))
set_option maxHeartbeats 4000000 in
set_option maxRecDepth 100000 in
theorem go_X5_addCard_J105 {Γ : Cx} (hO : Ok Γ mX5_addCard) (h : Hp) (x0 : Nat) (x1 : Int32) (x2 : Int32) (x3 : Int32) (x4 : Int32) (x5 : Int32) (x7 : Int32) (s0 : Int32) (s1 : Int32) (hx0 : Is x0 5) {K : (Hp × Int32 × Int32 × Int32) ⊕ (Hp × Int32 × Int32) → Prop} (hC : ∀ (h : Hp) (x5 : Int32) (x6 : Int32) (x7 : Int32), K (.inl (h, x5, x6, x7)) → EW Γ mX5_addCard 64 [(0, rf Γ x0), (1, .int x1), (2, .int x2), (3, .int x3), (4, .int x4), (5, .int x5), (6, .int x6), (7, .int x7)] [] h) (hE168 : ∀ (h : Hp) (x5 : Int32) (x6 : Int32), K (.inr ((h, x5, x6))) → EW Γ mX5_addCard 168 [(0, rf Γ x0), (1, .int x1), (5, .int x5), (6, .int x6)] [] h) : EG Γ mX5_addCard 105 [(0, rf Γ x0), (1, .int x1), (2, .int x2), (3, .int x3), (4, .int x4), (5, .int x5), (7, .int x7)] [.int s1, .int s0] h (J_X5_addCard_105 h x0 x1 x2 x3 x4 x5 x7 s0 s1) K := by
  unfold J_X5_addCard_105
  refine x_iadd hO dX5_addCard_105 ?_
  refine x_istore hO [(6, .int (s0 + s1)), (0, rf Γ x0), (1, .int x1), (2, .int x2), (3, .int x3), (4, .int x4), (5, .int x5), (7, .int x7)] dX5_addCard_106 (by decide) rfl ?_
  refine x_iload hO 6 rfl dX5_addCard_108 ?_
  refine x_iload_n hO 3 rfl rfl dX5_addCard_110 ?_
  refine x_if_eq hO (tg := 124) dX5_addCard_111 (by decide) ?_ ?_
  · refine x_iconst hO (v := 0) (by decide) dX5_addCard_124 ?_
    exact x_sub [1, 2, 3, 4, 5, 0, 7] rfl (go_X5_addCard_J125 hO h x0 x1 x2 x3 x4 (s0 + s1) x7 x5 ((0 : Int32)) hx0 hC hE168)
  · refine x_aload_n hO 1 rfl rfl dX5_addCard_114 ?_
    refine x_getR hO fl_RX5_35 hx0 dX5_addCard_115 ?_
    refine x_iload hO 7 rfl dX5_addCard_118 ?_
    refine x_iald hO (gr_5_7 hx0) dX5_addCard_120 ?_
    refine x_goto hO (tg := 125) dX5_addCard_121 (by decide) ?_
    exact x_sub [1, 2, 3, 4, 5, 0, 7] rfl (go_X5_addCard_J125 hO h x0 x1 x2 x3 x4 (s0 + s1) x7 x5 (hI h (GR x0 7) (nx x7)) hx0 hC hE168)
noncomputable def B_X5_addCard_64 (h : Hp) (x0 : Nat) (x1 : Int32) (x2 : Int32) (x3 : Int32) (x4 : Int32) (x5 : Int32) (x6 : Int32) (x7 : Int32) : Option ((Hp × Int32 × Int32 × Int32) ⊕ (Hp × Int32 × Int32)) :=
  if (x1 - ((1 : Int32))) ≤ x7 then some (.inr ((h, x5, x6))) else gd (ib x1 (LEN (GR x0 4))) (gd (ib x7 (LEN (GR x0 4))) (if (hI h (GR x0 4) (nx x1)) ≤ (hI h (GR x0 4) (nx x7)) then J_X5_addCard_128 h x0 x1 x2 x3 x4 x5 x6 x7 else if x3 = 0 then J_X5_addCard_105 h x0 x1 x2 x3 x4 x5 x7 x6 ((0 : Int32)) else gd (ib x7 (LEN (GR x0 6))) (J_X5_addCard_105 h x0 x1 x2 x3 x4 x5 x7 x6 (hI h (GR x0 6) (nx x7)))))
noncomputable def L_X5_addCard_64 (h : Hp) (x0 : Nat) (x1 : Int32) (x2 : Int32) (x3 : Int32) (x4 : Int32) (x5 : Int32) (x6 : Int32) (x7 : Int32) : Option (Hp × Int32 × Int32) := iterW (fun s : Hp × Int32 × Int32 × Int32 => B_X5_addCard_64 s.1 x0 x1 x2 x3 x4 s.2.1 s.2.2.1 s.2.2.2) (h, x5, x6, x7)
set_option maxHeartbeats 4000000 in
set_option maxRecDepth 100000 in
theorem go_X5_addCard_B64 {Γ : Cx} (hO : Ok Γ mX5_addCard) (h : Hp) (x0 : Nat) (x1 : Int32) (x2 : Int32) (x3 : Int32) (x4 : Int32) (x5 : Int32) (x6 : Int32) (x7 : Int32) (hx0 : Is x0 5) {K : (Hp × Int32 × Int32 × Int32) ⊕ (Hp × Int32 × Int32) → Prop} (hC : ∀ (h : Hp) (x5 : Int32) (x6 : Int32) (x7 : Int32), K (.inl (h, x5, x6, x7)) → EW Γ mX5_addCard 64 [(0, rf Γ x0), (1, .int x1), (2, .int x2), (3, .int x3), (4, .int x4), (5, .int x5), (6, .int x6), (7, .int x7)] [] h) (hE168 : ∀ (h : Hp) (x5 : Int32) (x6 : Int32), K (.inr ((h, x5, x6))) → EW Γ mX5_addCard 168 [(0, rf Γ x0), (1, .int x1), (5, .int x5), (6, .int x6)] [] h) : EG Γ mX5_addCard 64 [(0, rf Γ x0), (1, .int x1), (2, .int x2), (3, .int x3), (4, .int x4), (5, .int x5), (6, .int x6), (7, .int x7)] [] h (B_X5_addCard_64 h x0 x1 x2 x3 x4 x5 x6 x7) K := by
  unfold B_X5_addCard_64
  refine x_iload hO 7 rfl dX5_addCard_64 ?_
  refine x_iload_n hO 1 rfl rfl dX5_addCard_66 ?_
  refine x_iconst hO (v := 1) (by decide) dX5_addCard_67 ?_
  refine x_isub hO dX5_addCard_68 ?_
  refine x_icmp_ge hO (tg := 168) dX5_addCard_69 (by decide) ?_ ?_
  · exact x_leafs [0, 1, 5, 6] rfl (hE168 h x5 x6)
  · refine x_aload_n hO 0 rfl rfl dX5_addCard_72 ?_
    refine x_getR hO fl_RX5_26 hx0 dX5_addCard_73 ?_
    refine x_iload_n hO 1 rfl rfl dX5_addCard_76 ?_
    refine x_iald hO (gr_5_4 hx0) dX5_addCard_77 ?_
    refine x_aload_n hO 0 rfl rfl dX5_addCard_78 ?_
    refine x_getR hO fl_RX5_26 hx0 dX5_addCard_79 ?_
    refine x_iload hO 7 rfl dX5_addCard_82 ?_
    refine x_iald hO (gr_5_4 hx0) dX5_addCard_84 ?_
    refine x_icmp_le hO (tg := 128) dX5_addCard_85 (by decide) ?_ ?_
    · exact x_sub [0, 1, 2, 3, 4, 5, 6, 7] rfl (go_X5_addCard_J128 hO h x0 x1 x2 x3 x4 x5 x6 x7 hx0 hC hE168)
    · refine x_iload hO 6 rfl dX5_addCard_88 ?_
      refine x_iload_n hO 3 rfl rfl dX5_addCard_90 ?_
      refine x_if_eq hO (tg := 104) dX5_addCard_91 (by decide) ?_ ?_
      · refine x_iconst hO (v := 0) (by decide) dX5_addCard_104 ?_
        exact x_sub [0, 1, 2, 3, 4, 5, 7] rfl (go_X5_addCard_J105 hO h x0 x1 x2 x3 x4 x5 x7 x6 ((0 : Int32)) hx0 hC hE168)
      · refine x_aload_n hO 0 rfl rfl dX5_addCard_94 ?_
        refine x_getR hO fl_RX5_32 hx0 dX5_addCard_95 ?_
        refine x_iload hO 7 rfl dX5_addCard_98 ?_
        refine x_iald hO (gr_5_6 hx0) dX5_addCard_100 ?_
        refine x_goto hO (tg := 105) dX5_addCard_101 (by decide) ?_
        exact x_sub [0, 1, 2, 3, 4, 5, 7] rfl (go_X5_addCard_J105 hO h x0 x1 x2 x3 x4 x5 x7 x6 (hI h (GR x0 6) (nx x7)) hx0 hC hE168)
set_option maxHeartbeats 4000000 in
set_option maxRecDepth 100000 in
theorem go_X5_addCard_L64 {Γ : Cx} (hO : Ok Γ mX5_addCard) (h : Hp) (x0 : Nat) (x1 : Int32) (x2 : Int32) (x3 : Int32) (x4 : Int32) (x5 : Int32) (x6 : Int32) (x7 : Int32) (hx0 : Is x0 5) {K : Hp × Int32 × Int32 → Prop} (hE168 : ∀ (h : Hp) (x5 : Int32) (x6 : Int32), K ((h, x5, x6)) → EW Γ mX5_addCard 168 [(0, rf Γ x0), (1, .int x1), (5, .int x5), (6, .int x6)] [] h) : EG Γ mX5_addCard 64 [(0, rf Γ x0), (1, .int x1), (2, .int x2), (3, .int x3), (4, .int x4), (5, .int x5), (6, .int x6), (7, .int x7)] [] h (L_X5_addCard_64 h x0 x1 x2 x3 x4 x5 x6 x7) K := by
  have q := x_loop (Γ := Γ) (M := mX5_addCard) (pc := 64) (B := fun s : Hp × Int32 × Int32 × Int32 => B_X5_addCard_64 s.1 x0 x1 x2 x3 x4 s.2.1 s.2.2.1 s.2.2.2) (lvf := fun s => [(0, rf Γ x0), (1, .int x1), (2, .int x2), (3, .int x3), (4, .int x4), (5, .int s.2.1), (6, .int s.2.2.1), (7, .int s.2.2.2)]) (hf := fun s => s.1) (Ky := K) (fun s => go_X5_addCard_B64 hO s.1 x0 x1 x2 x3 x4 s.2.1 s.2.2.1 s.2.2.2 hx0 (fun _ _ _ _ => id) hE168) (h, x5, x6, x7)
  exact q
noncomputable def J_X5_addCard_30 (h : Hp) (x0 : Nat) (x1 : Int32) (x2 : Int32) (s0 : Int32) : Option (Hp) :=
  gd (ib x1 (LEN (GR x0 4))) (gd (ib (x1 - ((1 : Int32))) (LEN (GR x0 4))) (if (hI h (GR x0 4) (nx x1)) ≤ (hI h (GR x0 4) (nx (x1 - ((1 : Int32))))) then (L_X5_addCard_64 h x0 x1 x2 s0 ((0 : Int32)) ((0 : Int32)) ((0 : Int32)) ((0 : Int32))).bind (fun e1 => gd (ib (x1 - ((1 : Int32))) (LEN (GR x0 6))) (gd (ib (x1 - ((1 : Int32))) (LEN (GR x0 7))) (some (uI (uI e1.1 (GR x0 6) (nx (x1 - ((1 : Int32)))) e1.2.1) (GR x0 7) (nx (x1 - ((1 : Int32)))) e1.2.2)))) else (L_X5_addCard_64 h x0 x1 x2 s0 ((1 : Int32)) ((0 : Int32)) ((0 : Int32)) ((0 : Int32))).bind (fun e2 => gd (ib (x1 - ((1 : Int32))) (LEN (GR x0 6))) (gd (ib (x1 - ((1 : Int32))) (LEN (GR x0 7))) (some (uI (uI e2.1 (GR x0 6) (nx (x1 - ((1 : Int32)))) e2.2.1) (GR x0 7) (nx (x1 - ((1 : Int32)))) e2.2.2))))))
set_option maxHeartbeats 4000000 in
set_option maxRecDepth 100000 in
theorem go_X5_addCard_J30 {Γ : Cx} (hO : Ok Γ mX5_addCard) (h : Hp) (x0 : Nat) (x1 : Int32) (x2 : Int32) (s0 : Int32) (hx0 : Is x0 5) {K : Hp → Prop} (hR : ∀ r, K r → emHV r = tgt Γ) : EG Γ mX5_addCard 30 [(0, rf Γ x0), (1, .int x1), (2, .int x2)] [.int s0] h (J_X5_addCard_30 h x0 x1 x2 s0) K := by
  unfold J_X5_addCard_30
  refine x_istore_n hO rfl [(3, .int s0), (0, rf Γ x0), (1, .int x1), (2, .int x2)] dX5_addCard_30 (by decide) rfl ?_
  refine x_aload_n hO 1 rfl rfl dX5_addCard_31 ?_
  refine x_getR hO fl_RX5_26 hx0 dX5_addCard_32 ?_
  refine x_iload_n hO 2 rfl rfl dX5_addCard_35 ?_
  refine x_iald hO (gr_5_4 hx0) dX5_addCard_36 ?_
  refine x_aload_n hO 1 rfl rfl dX5_addCard_37 ?_
  refine x_getR hO fl_RX5_26 hx0 dX5_addCard_38 ?_
  refine x_iload_n hO 2 rfl rfl dX5_addCard_41 ?_
  refine x_iconst hO (v := 1) (by decide) dX5_addCard_42 ?_
  refine x_isub hO dX5_addCard_43 ?_
  refine x_iald hO (gr_5_4 hx0) dX5_addCard_44 ?_
  refine x_icmp_le hO (tg := 52) dX5_addCard_45 (by decide) ?_ ?_
  · refine x_iconst hO (v := 0) (by decide) dX5_addCard_52 ?_
    refine x_istore hO [(4, .int ((0 : Int32))), (3, .int s0), (0, rf Γ x0), (1, .int x1), (2, .int x2)] dX5_addCard_53 (by decide) rfl ?_
    refine x_iconst hO (v := 0) (by decide) dX5_addCard_55 ?_
    refine x_istore hO [(5, .int ((0 : Int32))), (4, .int ((0 : Int32))), (3, .int s0), (0, rf Γ x0), (1, .int x1), (2, .int x2)] dX5_addCard_56 (by decide) rfl ?_
    refine x_iconst hO (v := 0) (by decide) dX5_addCard_58 ?_
    refine x_istore hO [(6, .int ((0 : Int32))), (5, .int ((0 : Int32))), (4, .int ((0 : Int32))), (3, .int s0), (0, rf Γ x0), (1, .int x1), (2, .int x2)] dX5_addCard_59 (by decide) rfl ?_
    refine x_iconst hO (v := 0) (by decide) dX5_addCard_61 ?_
    refine x_istore hO [(7, .int ((0 : Int32))), (6, .int ((0 : Int32))), (5, .int ((0 : Int32))), (4, .int ((0 : Int32))), (3, .int s0), (0, rf Γ x0), (1, .int x1), (2, .int x2)] dX5_addCard_62 (by decide) rfl ?_
    refine x_bind (x_sub [5, 6, 7, 4, 3, 2, 1, 0] rfl (go_X5_addCard_L64 hO h x0 x1 x2 s0 ((0 : Int32)) ((0 : Int32)) ((0 : Int32)) ((0 : Int32)) hx0 (fun y1_0 y1_1 y1_2 hx => ?_)))
    refine x_run (t := (gd (ib (x1 - ((1 : Int32))) (LEN (GR x0 6))) (gd (ib (x1 - ((1 : Int32))) (LEN (GR x0 7))) (some (uI (uI y1_0 (GR x0 6) (nx (x1 - ((1 : Int32)))) y1_1) (GR x0 7) (nx (x1 - ((1 : Int32)))) y1_2))) : Option (Hp))) hx ?_
    refine x_aload_n hO 0 rfl rfl dX5_addCard_168 ?_
    refine x_getR hO fl_RX5_32 hx0 dX5_addCard_169 ?_
    refine x_iload_n hO 1 rfl rfl dX5_addCard_172 ?_
    refine x_iconst hO (v := 1) (by decide) dX5_addCard_173 ?_
    refine x_isub hO dX5_addCard_174 ?_
    refine x_iload hO 2 rfl dX5_addCard_175 ?_
    refine x_iast hO (gr_5_6 hx0) dX5_addCard_177 ?_
    refine x_aload_n hO 0 rfl rfl dX5_addCard_178 ?_
    refine x_getR hO fl_RX5_35 hx0 dX5_addCard_179 ?_
    refine x_iload_n hO 1 rfl rfl dX5_addCard_182 ?_
    refine x_iconst hO (v := 1) (by decide) dX5_addCard_183 ?_
    refine x_isub hO dX5_addCard_184 ?_
    refine x_iload hO 3 rfl dX5_addCard_185 ?_
    refine x_iast hO (gr_5_7 hx0) dX5_addCard_187 ?_
    exact x_vret hO rfl dX5_addCard_188 (hR _)
  · refine x_iconst hO (v := 1) (by decide) dX5_addCard_48 ?_
    refine x_goto hO (tg := 53) dX5_addCard_49 (by decide) ?_
    refine x_istore hO [(4, .int ((1 : Int32))), (3, .int s0), (0, rf Γ x0), (1, .int x1), (2, .int x2)] dX5_addCard_53 (by decide) rfl ?_
    refine x_iconst hO (v := 0) (by decide) dX5_addCard_55 ?_
    refine x_istore hO [(5, .int ((0 : Int32))), (4, .int ((1 : Int32))), (3, .int s0), (0, rf Γ x0), (1, .int x1), (2, .int x2)] dX5_addCard_56 (by decide) rfl ?_
    refine x_iconst hO (v := 0) (by decide) dX5_addCard_58 ?_
    refine x_istore hO [(6, .int ((0 : Int32))), (5, .int ((0 : Int32))), (4, .int ((1 : Int32))), (3, .int s0), (0, rf Γ x0), (1, .int x1), (2, .int x2)] dX5_addCard_59 (by decide) rfl ?_
    refine x_iconst hO (v := 0) (by decide) dX5_addCard_61 ?_
    refine x_istore hO [(7, .int ((0 : Int32))), (6, .int ((0 : Int32))), (5, .int ((0 : Int32))), (4, .int ((1 : Int32))), (3, .int s0), (0, rf Γ x0), (1, .int x1), (2, .int x2)] dX5_addCard_62 (by decide) rfl ?_
    refine x_bind (x_sub [5, 6, 7, 4, 3, 2, 1, 0] rfl (go_X5_addCard_L64 hO h x0 x1 x2 s0 ((1 : Int32)) ((0 : Int32)) ((0 : Int32)) ((0 : Int32)) hx0 (fun y2_0 y2_1 y2_2 hx => ?_)))
    refine x_run (t := (gd (ib (x1 - ((1 : Int32))) (LEN (GR x0 6))) (gd (ib (x1 - ((1 : Int32))) (LEN (GR x0 7))) (some (uI (uI y2_0 (GR x0 6) (nx (x1 - ((1 : Int32)))) y2_1) (GR x0 7) (nx (x1 - ((1 : Int32)))) y2_2))) : Option (Hp))) hx ?_
    refine x_aload_n hO 0 rfl rfl dX5_addCard_168 ?_
    refine x_getR hO fl_RX5_32 hx0 dX5_addCard_169 ?_
    refine x_iload_n hO 1 rfl rfl dX5_addCard_172 ?_
    refine x_iconst hO (v := 1) (by decide) dX5_addCard_173 ?_
    refine x_isub hO dX5_addCard_174 ?_
    refine x_iload hO 2 rfl dX5_addCard_175 ?_
    refine x_iast hO (gr_5_6 hx0) dX5_addCard_177 ?_
    refine x_aload_n hO 0 rfl rfl dX5_addCard_178 ?_
    refine x_getR hO fl_RX5_35 hx0 dX5_addCard_179 ?_
    refine x_iload_n hO 1 rfl rfl dX5_addCard_182 ?_
    refine x_iconst hO (v := 1) (by decide) dX5_addCard_183 ?_
    refine x_isub hO dX5_addCard_184 ?_
    refine x_iload hO 3 rfl dX5_addCard_185 ?_
    refine x_iast hO (gr_5_7 hx0) dX5_addCard_187 ?_
    exact x_vret hO rfl dX5_addCard_188 (hR _)
noncomputable def J_X5_addCard_15 (h : Hp) (x0 : Nat) (x1 : Int32) (s0 : Int32) : Option (Hp) :=
  gd (ib x1 (LEN (GR x0 5))) (if (hI h (GR x0 5) (nx x1)) = 0 then J_X5_addCard_30 h x0 x1 s0 ((0 : Int32)) else J_X5_addCard_30 h x0 x1 s0 ((1 : Int32)))
set_option maxHeartbeats 4000000 in
set_option maxRecDepth 100000 in
theorem go_X5_addCard_J15 {Γ : Cx} (hO : Ok Γ mX5_addCard) (h : Hp) (x0 : Nat) (x1 : Int32) (s0 : Int32) (hx0 : Is x0 5) {K : Hp → Prop} (hR : ∀ r, K r → emHV r = tgt Γ) : EG Γ mX5_addCard 15 [(0, rf Γ x0), (1, .int x1)] [.int s0] h (J_X5_addCard_15 h x0 x1 s0) K := by
  unfold J_X5_addCard_15
  refine x_istore_n hO rfl [(2, .int s0), (0, rf Γ x0), (1, .int x1)] dX5_addCard_15 (by decide) rfl ?_
  refine x_aload_n hO 1 rfl rfl dX5_addCard_16 ?_
  refine x_getR hO fl_RX5_29 hx0 dX5_addCard_17 ?_
  refine x_iload_n hO 2 rfl rfl dX5_addCard_20 ?_
  refine x_iald hO (gr_5_5 hx0) dX5_addCard_21 ?_
  refine x_if_eq hO (tg := 29) dX5_addCard_22 (by decide) ?_ ?_
  · refine x_iconst hO (v := 0) (by decide) dX5_addCard_29 ?_
    exact x_sub [1, 2, 0] rfl (go_X5_addCard_J30 hO h x0 x1 s0 ((0 : Int32)) hx0 hR)
  · refine x_iconst hO (v := 1) (by decide) dX5_addCard_25 ?_
    refine x_goto hO (tg := 30) dX5_addCard_26 (by decide) ?_
    exact x_sub [1, 2, 0] rfl (go_X5_addCard_J30 hO h x0 x1 s0 ((1 : Int32)) hx0 hR)
noncomputable def F_X5_addCard (h : Hp) (x0 : Nat) (x1 : Int32) : Option (Hp) :=
  gd (ib x1 (LEN (GR x0 5))) (if (hI h (GR x0 5) (nx x1)) = ((1 : Int32)) then J_X5_addCard_15 h x0 x1 ((0 : Int32)) else J_X5_addCard_15 h x0 x1 ((1 : Int32)))
set_option maxHeartbeats 4000000 in
set_option maxRecDepth 100000 in
theorem go_X5_addCard {Γ : Cx} (hO : Ok Γ mX5_addCard) (h : Hp) (x0 : Nat) (x1 : Int32) (hx0 : Is x0 5) {K : Hp → Prop} (hR : ∀ r, K r → emHV r = tgt Γ) : EG Γ mX5_addCard 0 [(0, rf Γ x0), (1, .int x1)] [] h (F_X5_addCard h x0 x1) K := by
  unfold F_X5_addCard
  refine x_aload_n hO 0 rfl rfl dX5_addCard_0 ?_
  refine x_getR hO fl_RX5_29 hx0 dX5_addCard_1 ?_
  refine x_iload_n hO 1 rfl rfl dX5_addCard_4 ?_
  refine x_iald hO (gr_5_5 hx0) dX5_addCard_5 ?_
  refine x_iconst hO (v := 1) (by decide) dX5_addCard_6 ?_
  refine x_icmp_eq hO (tg := 14) dX5_addCard_7 (by decide) ?_ ?_
  · refine x_iconst hO (v := 0) (by decide) dX5_addCard_14 ?_
    exact x_sub [0, 1] rfl (go_X5_addCard_J15 hO h x0 x1 ((0 : Int32)) hx0 hR)
  · refine x_iconst hO (v := 1) (by decide) dX5_addCard_10 ?_
    refine x_goto hO (tg := 15) dX5_addCard_11 (by decide) ?_
    exact x_sub [0, 1] rfl (go_X5_addCard_J15 hO h x0 x1 ((1 : Int32)) hx0 hR)
theorem ok_X5_addCard (G : Gl) (h : Hp) (x0 : Nat) (x1 : Int32) (hx0 : Is x0 5) : CN G mX5_addCard [.ref (gb G + x0), .int x1] h ((F_X5_addCard h x0 x1).map (emHV)) := CN.fn pn_RX5 (Nat.le_of_ble_eq_true rfl) (fun Γ hG hO => by subst hG; exact go_X5_addCard hO h x0 x1 hx0 (fun _ q => q))
noncomputable def B_X6_inKey_2 (h : Hp) (x0 : Nat) (x1 : Int32) (x2 : Int32) : Option ((Int32) ⊕ (Int32)) :=
  if (hI h x0 1) ≤ x2 then some (.inr ((0 : Int32))) else gd (ib x2 (LEN (GR x0 0))) (if ((hI h (GR x0 0) (nx x2)) - (hI h (GR x0 0) (nx x2)) / ((8 : Int32)) * ((8 : Int32))) = x1 then some (.inr ((1 : Int32))) else some (.inl (x2 + (1 : Int32))))
noncomputable def L_X6_inKey_2 (h : Hp) (x0 : Nat) (x1 : Int32) (x2 : Int32) : Option (Int32) := iterW (fun s : Int32 => B_X6_inKey_2 h x0 x1 s) x2
set_option maxHeartbeats 4000000 in
set_option maxRecDepth 100000 in
theorem go_X6_inKey_B2 {Γ : Cx} (hO : Ok Γ mX6_inKey) (h : Hp) (x0 : Nat) (x1 : Int32) (x2 : Int32) (hx0 : Is x0 6) {K : (Int32) ⊕ (Int32) → Prop} (hC : ∀ (x2 : Int32), K (.inl x2) → EW Γ mX6_inKey 2 [(0, rf Γ x0), (1, .int x1), (2, .int x2)] [] h) (hR : ∀ r, K (.inr r) → emPI h r = tgt Γ) : EG Γ mX6_inKey 2 [(0, rf Γ x0), (1, .int x1), (2, .int x2)] [] h (B_X6_inKey_2 h x0 x1 x2) K := by
  unfold B_X6_inKey_2
  refine x_iload_n hO 2 rfl rfl dX6_inKey_2 ?_
  refine x_aload_n hO 0 rfl rfl dX6_inKey_3 ?_
  refine x_getI hO fl_RX6_15 hx0 dX6_inKey_4 ?_
  refine x_icmp_ge hO (tg := 31) dX6_inKey_7 (by decide) ?_ ?_
  · refine x_iconst hO (v := 0) (by decide) dX6_inKey_31 ?_
    exact x_zretv hO rfl (by decide) dX6_inKey_32 (hR _)
  · refine x_aload_n hO 0 rfl rfl dX6_inKey_10 ?_
    refine x_getR hO fl_RX6_9 hx0 dX6_inKey_11 ?_
    refine x_iload_n hO 2 rfl rfl dX6_inKey_14 ?_
    refine x_iald hO (gr_6_0 hx0) dX6_inKey_15 ?_
    refine x_bipush hO (v := 8) (by decide) dX6_inKey_16 ?_
    refine x_iremc hO (by decide) dX6_inKey_18 ?_
    refine x_iload_n hO 1 rfl rfl dX6_inKey_19 ?_
    refine x_icmp_ne hO (tg := 25) dX6_inKey_20 (by decide) ?_ ?_
    · refine x_iinc hO 2 (v := 1) [(2, .int (x2 + (1 : Int32))), (0, rf Γ x0), (1, .int x1)] dX6_inKey_25 rfl (by decide) (by decide) rfl ?_
      refine x_goto hO (tg := 2) dX6_inKey_28 (by decide) ?_
      exact x_leafs [1, 2, 0] rfl (hC (x2 + (1 : Int32)))
    · refine x_iconst hO (v := 1) (by decide) dX6_inKey_23 ?_
      exact x_zretv hO rfl (by decide) dX6_inKey_24 (hR _)
set_option maxHeartbeats 4000000 in
set_option maxRecDepth 100000 in
theorem go_X6_inKey_L2 {Γ : Cx} (hO : Ok Γ mX6_inKey) (h : Hp) (x0 : Nat) (x1 : Int32) (x2 : Int32) (hx0 : Is x0 6) {K : Int32 → Prop} (hR : ∀ r, K (r) → emPI h r = tgt Γ) : EG Γ mX6_inKey 2 [(0, rf Γ x0), (1, .int x1), (2, .int x2)] [] h (L_X6_inKey_2 h x0 x1 x2) K := by
  have q := x_loop (Γ := Γ) (M := mX6_inKey) (pc := 2) (B := fun s : Int32 => B_X6_inKey_2 h x0 x1 s) (lvf := fun s => [(0, rf Γ x0), (1, .int x1), (2, .int s)]) (hf := fun s => h) (Ky := K) (fun s => go_X6_inKey_B2 hO h x0 x1 s hx0 (fun _ => id) hR) x2
  exact q
noncomputable def F_X6_inKey (h : Hp) (x0 : Nat) (x1 : Int32) : Option (Int32) :=
  L_X6_inKey_2 h x0 x1 ((0 : Int32))
set_option maxHeartbeats 4000000 in
set_option maxRecDepth 100000 in
theorem go_X6_inKey {Γ : Cx} (hO : Ok Γ mX6_inKey) (h : Hp) (x0 : Nat) (x1 : Int32) (hx0 : Is x0 6) {K : Int32 → Prop} (hR : ∀ r, K r → emPI h r = tgt Γ) : EG Γ mX6_inKey 0 [(0, rf Γ x0), (1, .int x1)] [] h (F_X6_inKey h x0 x1) K := by
  unfold F_X6_inKey
  refine x_iconst hO (v := 0) (by decide) dX6_inKey_0 ?_
  refine x_istore_n hO rfl [(2, .int ((0 : Int32))), (0, rf Γ x0), (1, .int x1)] dX6_inKey_1 (by decide) rfl ?_
  exact x_sub [1, 2, 0] rfl (go_X6_inKey_L2 hO h x0 x1 ((0 : Int32)) hx0 hR)
theorem ok_X6_inKey (G : Gl) (h : Hp) (x0 : Nat) (x1 : Int32) (hx0 : Is x0 6) : CN G mX6_inKey [.ref (gb G + x0), .int x1] h ((F_X6_inKey h x0 x1).map (emPI h)) := CN.fn pn_RX6 (Nat.le_of_ble_eq_true rfl) (fun Γ hG hO => by subst hG; exact go_X6_inKey hO h x0 x1 hx0 (fun _ q => q))
noncomputable def B_X6_inOrder_2 (h : Hp) (x0 : Nat) (x1 : Nat) (x2 : Int32) (x3 : Int32) : Option ((Int32) ⊕ (Int32)) :=
  if x2 ≤ x3 then some (.inr ((1 : Int32))) else gd (ib x3 (LEN x1)) (gd (ib (hI h x1 (nx x3)) (LEN (GR x0 2))) (gd (ib (x3 - ((1 : Int32))) (LEN x1)) (gd (ib (hI h x1 (nx (x3 - ((1 : Int32))))) (LEN (GR x0 2))) (if (hI h (GR x0 2) (nx (hI h x1 (nx (x3 - ((1 : Int32))))))) ≤ (hI h (GR x0 2) (nx (hI h x1 (nx x3)))) then some (.inl (x3 + (1 : Int32))) else some (.inr ((0 : Int32)))))))
noncomputable def L_X6_inOrder_2 (h : Hp) (x0 : Nat) (x1 : Nat) (x2 : Int32) (x3 : Int32) : Option (Int32) := iterW (fun s : Int32 => B_X6_inOrder_2 h x0 x1 x2 s) x3
set_option maxHeartbeats 4000000 in
set_option maxRecDepth 100000 in
theorem go_X6_inOrder_B2 {Γ : Cx} (hO : Ok Γ mX6_inOrder) (h : Hp) (x0 : Nat) (x1 : Nat) (x2 : Int32) (x3 : Int32) (hx0 : Is x0 6) (hx1 : Is x1 14) {K : (Int32) ⊕ (Int32) → Prop} (hC : ∀ (x3 : Int32), K (.inl x3) → EW Γ mX6_inOrder 2 [(0, rf Γ x0), (1, rf Γ x1), (2, .int x2), (3, .int x3)] [] h) (hR : ∀ r, K (.inr r) → emPI h r = tgt Γ) : EG Γ mX6_inOrder 2 [(0, rf Γ x0), (1, rf Γ x1), (2, .int x2), (3, .int x3)] [] h (B_X6_inOrder_2 h x0 x1 x2 x3) K := by
  unfold B_X6_inOrder_2
  refine x_iload_n hO 3 rfl rfl dX6_inOrder_2 ?_
  refine x_iload_n hO 2 rfl rfl dX6_inOrder_3 ?_
  refine x_icmp_ge hO (tg := 36) dX6_inOrder_4 (by decide) ?_ ?_
  · refine x_iconst hO (v := 1) (by decide) dX6_inOrder_36 ?_
    exact x_zretv hO rfl (by decide) dX6_inOrder_37 (hR _)
  · refine x_aload_n hO 0 rfl rfl dX6_inOrder_7 ?_
    refine x_getR hO fl_RX6_19 hx0 dX6_inOrder_8 ?_
    refine x_aload_n hO 1 rfl rfl dX6_inOrder_11 ?_
    refine x_iload_n hO 3 rfl rfl dX6_inOrder_12 ?_
    refine x_iald hO hx1 dX6_inOrder_13 ?_
    refine x_iald hO (gr_6_2 hx0) dX6_inOrder_14 ?_
    refine x_aload_n hO 0 rfl rfl dX6_inOrder_15 ?_
    refine x_getR hO fl_RX6_19 hx0 dX6_inOrder_16 ?_
    refine x_aload_n hO 1 rfl rfl dX6_inOrder_19 ?_
    refine x_iload_n hO 3 rfl rfl dX6_inOrder_20 ?_
    refine x_iconst hO (v := 1) (by decide) dX6_inOrder_21 ?_
    refine x_isub hO dX6_inOrder_22 ?_
    refine x_iald hO hx1 dX6_inOrder_23 ?_
    refine x_iald hO (gr_6_2 hx0) dX6_inOrder_24 ?_
    refine x_icmp_ge hO (tg := 30) dX6_inOrder_25 (by decide) ?_ ?_
    · refine x_iinc hO 3 (v := 1) [(3, .int (x3 + (1 : Int32))), (0, rf Γ x0), (1, rf Γ x1), (2, .int x2)] dX6_inOrder_30 rfl (by decide) (by decide) rfl ?_
      refine x_goto hO (tg := 2) dX6_inOrder_33 (by decide) ?_
      exact x_leafs [1, 2, 3, 0] rfl (hC (x3 + (1 : Int32)))
    · refine x_iconst hO (v := 0) (by decide) dX6_inOrder_28 ?_
      exact x_zretv hO rfl (by decide) dX6_inOrder_29 (hR _)
set_option maxHeartbeats 4000000 in
set_option maxRecDepth 100000 in
theorem go_X6_inOrder_L2 {Γ : Cx} (hO : Ok Γ mX6_inOrder) (h : Hp) (x0 : Nat) (x1 : Nat) (x2 : Int32) (x3 : Int32) (hx0 : Is x0 6) (hx1 : Is x1 14) {K : Int32 → Prop} (hR : ∀ r, K (r) → emPI h r = tgt Γ) : EG Γ mX6_inOrder 2 [(0, rf Γ x0), (1, rf Γ x1), (2, .int x2), (3, .int x3)] [] h (L_X6_inOrder_2 h x0 x1 x2 x3) K := by
  have q := x_loop (Γ := Γ) (M := mX6_inOrder) (pc := 2) (B := fun s : Int32 => B_X6_inOrder_2 h x0 x1 x2 s) (lvf := fun s => [(0, rf Γ x0), (1, rf Γ x1), (2, .int x2), (3, .int s)]) (hf := fun s => h) (Ky := K) (fun s => go_X6_inOrder_B2 hO h x0 x1 x2 s hx0 hx1 (fun _ => id) hR) x3
  exact q
noncomputable def F_X6_inOrder (h : Hp) (x0 : Nat) (x1 : Nat) (x2 : Int32) : Option (Int32) :=
  L_X6_inOrder_2 h x0 x1 x2 ((1 : Int32))
set_option maxHeartbeats 4000000 in
set_option maxRecDepth 100000 in
theorem go_X6_inOrder {Γ : Cx} (hO : Ok Γ mX6_inOrder) (h : Hp) (x0 : Nat) (x1 : Nat) (x2 : Int32) (hx0 : Is x0 6) (hx1 : Is x1 14) {K : Int32 → Prop} (hR : ∀ r, K r → emPI h r = tgt Γ) : EG Γ mX6_inOrder 0 [(0, rf Γ x0), (1, rf Γ x1), (2, .int x2)] [] h (F_X6_inOrder h x0 x1 x2) K := by
  unfold F_X6_inOrder
  refine x_iconst hO (v := 1) (by decide) dX6_inOrder_0 ?_
  refine x_istore_n hO rfl [(3, .int ((1 : Int32))), (0, rf Γ x0), (1, rf Γ x1), (2, .int x2)] dX6_inOrder_1 (by decide) rfl ?_
  exact x_sub [1, 2, 3, 0] rfl (go_X6_inOrder_L2 hO h x0 x1 x2 ((1 : Int32)) hx0 hx1 hR)
theorem ok_X6_inOrder (G : Gl) (h : Hp) (x0 : Nat) (x1 : Nat) (x2 : Int32) (hx0 : Is x0 6) (hx1 : Is x1 14) : CN G mX6_inOrder [.ref (gb G + x0), .ref (gb G + x1), .int x2] h ((F_X6_inOrder h x0 x1 x2).map (emPI h)) := CN.fn pn_RX6 (Nat.le_of_ble_eq_true rfl) (fun Γ hG hO => by subst hG; exact go_X6_inOrder hO h x0 x1 x2 hx0 hx1 (fun _ q => q))
noncomputable def B_X6_layTrial_52 (h : Hp) (x0 : Nat) (x2 : Int32) (x3 : Int32) (x4 : Int32) (x5 : Int32) : Option ((Int32) ⊕ (Unit ⊕ (Hp × Int32))) :=
  if x2 ≤ x5 then some (.inr (.inl (()))) else gd (ib x5 (LEN (GR x0 5))) (gd (ib x4 (LEN (GR x0 5))) (if (hI h (GR x0 5) (nx x5)) = (hI h (GR x0 5) (nx x4)) then some (.inr (.inr ((h, (0 : Int32))))) else some (.inl (x5 + (1 : Int32)))))
noncomputable def L_X6_layTrial_52 (h : Hp) (x0 : Nat) (x2 : Int32) (x3 : Int32) (x4 : Int32) (x5 : Int32) : Option (Unit ⊕ (Hp × Int32)) := iterW (fun s : Int32 => B_X6_layTrial_52 h x0 x2 x3 x4 s) x5
set_option maxHeartbeats 4000000 in
set_option maxRecDepth 100000 in
theorem go_X6_layTrial_B52 {Γ : Cx} (hO : Ok Γ mX6_layTrial) (h : Hp) (x0 : Nat) (x2 : Int32) (x3 : Int32) (x4 : Int32) (x5 : Int32) (hx0 : Is x0 6) {K : (Int32) ⊕ (Unit ⊕ (Hp × Int32)) → Prop} (hC : ∀ (x5 : Int32), K (.inl x5) → EW Γ mX6_layTrial 52 [(0, rf Γ x0), (2, .int x2), (3, .int x3), (4, .int x4), (5, .int x5)] [] h) (hE83 : K (.inr (.inl (()))) → EW Γ mX6_layTrial 83 [(0, rf Γ x0), (2, .int x2), (3, .int x3), (4, .int x4)] [] h) (hR : ∀ r, K (.inr (.inr r)) → emHI r = tgt Γ) : EG Γ mX6_layTrial 52 [(0, rf Γ x0), (2, .int x2), (3, .int x3), (4, .int x4), (5, .int x5)] [] h (B_X6_layTrial_52 h x0 x2 x3 x4 x5) K := by
  unfold B_X6_layTrial_52
  refine x_iload hO 4 rfl dX6_layTrial_52 ?_
  refine x_iload_n hO 1 rfl rfl dX6_layTrial_54 ?_
  refine x_icmp_ge hO (tg := 83) dX6_layTrial_55 (by decide) ?_ ?_
  · exact x_leafs [0, 1, 2, 3] rfl hE83
  · refine x_aload_n hO 0 rfl rfl dX6_layTrial_58 ?_
    refine x_getR hO fl_RX6_28 hx0 dX6_layTrial_59 ?_
    refine x_iload hO 4 rfl dX6_layTrial_62 ?_
    refine x_iald hO (gr_6_5 hx0) dX6_layTrial_64 ?_
    refine x_aload_n hO 0 rfl rfl dX6_layTrial_65 ?_
    refine x_getR hO fl_RX6_28 hx0 dX6_layTrial_66 ?_
    refine x_iload hO 3 rfl dX6_layTrial_69 ?_
    refine x_iald hO (gr_6_5 hx0) dX6_layTrial_71 ?_
    refine x_icmp_ne hO (tg := 77) dX6_layTrial_72 (by decide) ?_ ?_
    · refine x_iinc hO 4 (v := 1) [(5, .int (x5 + (1 : Int32))), (0, rf Γ x0), (2, .int x2), (3, .int x3), (4, .int x4)] dX6_layTrial_77 rfl (by decide) (by decide) rfl ?_
      refine x_goto hO (tg := 52) dX6_layTrial_80 (by decide) ?_
      exact x_leafs [1, 2, 3, 4, 0] rfl (hC (x5 + (1 : Int32)))
    · refine x_iconst hO (v := 0) (by decide) dX6_layTrial_75 ?_
      exact x_zretv hO rfl (by decide) dX6_layTrial_76 (hR _)
set_option maxHeartbeats 4000000 in
set_option maxRecDepth 100000 in
theorem go_X6_layTrial_L52 {Γ : Cx} (hO : Ok Γ mX6_layTrial) (h : Hp) (x0 : Nat) (x2 : Int32) (x3 : Int32) (x4 : Int32) (x5 : Int32) (hx0 : Is x0 6) {K : Unit ⊕ (Hp × Int32) → Prop} (hE83 : K (.inl (())) → EW Γ mX6_layTrial 83 [(0, rf Γ x0), (2, .int x2), (3, .int x3), (4, .int x4)] [] h) (hR : ∀ r, K (.inr r) → emHI r = tgt Γ) : EG Γ mX6_layTrial 52 [(0, rf Γ x0), (2, .int x2), (3, .int x3), (4, .int x4), (5, .int x5)] [] h (L_X6_layTrial_52 h x0 x2 x3 x4 x5) K := by
  have q := x_loop (Γ := Γ) (M := mX6_layTrial) (pc := 52) (B := fun s : Int32 => B_X6_layTrial_52 h x0 x2 x3 x4 s) (lvf := fun s => [(0, rf Γ x0), (2, .int x2), (3, .int x3), (4, .int x4), (5, .int s)]) (hf := fun s => h) (Ky := K) (fun s => go_X6_layTrial_B52 hO h x0 x2 x3 x4 s hx0 (fun _ => id) hE83 hR) x5
  exact q
noncomputable def B_X6_layTrial_7 (h : Hp) (x0 : Nat) (x2 : Int32) (x3 : Int32) (x4 : Int32) : Option ((Hp × Int32 × Int32) ⊕ (Hp × Int32)) :=
  if x4 < 0 then some (.inr ((h, (1 : Int32)))) else if 0 < (hI h x0 4) then gd (!decide (hI h x0 4 = 0)) (gd (ib (x3 - x3 / (hI h x0 4) * (hI h x0 4)) (LEN (GR x0 3))) (gd (ib x4 (LEN (GR x0 5))) (gd (!decide (hI (uI h (GR x0 5) (nx x4) (hI h (GR x0 3) (nx (x3 - x3 / (hI h x0 4) * (hI h x0 4))))) x0 4 = 0)) (bnd (x3 / (hI (uI h (GR x0 5) (nx x4) (hI h (GR x0 3) (nx (x3 - x3 / (hI h x0 4) * (hI h x0 4))))) x0 4)) (fun v1 => (L_X6_layTrial_52 (uI h (GR x0 5) (nx x4) (hI h (GR x0 3) (nx (x3 - x3 / (hI h x0 4) * (hI h x0 4))))) x0 x2 v1 x4 (x4 + ((1 : Int32)))).bind (Sum.elim (fun e2 => some (.inl (uI h (GR x0 5) (nx x4) (hI h (GR x0 3) (nx (x3 - x3 / (hI h x0 4) * (hI h x0 4)))), v1, x4 + (-1 : Int32)))) (fun r3 => some (.inr r3)))))))) else some (.inr ((h, (0 : Int32))))
noncomputable def L_X6_layTrial_7 (h : Hp) (x0 : Nat) (x2 : Int32) (x3 : Int32) (x4 : Int32) : Option (Hp × Int32) := iterW (fun s : Hp × Int32 × Int32 => B_X6_layTrial_7 s.1 x0 x2 s.2.1 s.2.2) (h, x3, x4)
set_option maxHeartbeats 4000000 in
set_option maxRecDepth 100000 in
theorem go_X6_layTrial_B7 {Γ : Cx} (hO : Ok Γ mX6_layTrial) (h : Hp) (x0 : Nat) (x2 : Int32) (x3 : Int32) (x4 : Int32) (hx0 : Is x0 6) {K : (Hp × Int32 × Int32) ⊕ (Hp × Int32) → Prop} (hC : ∀ (h : Hp) (x3 : Int32) (x4 : Int32), K (.inl (h, x3, x4)) → EW Γ mX6_layTrial 7 [(0, rf Γ x0), (2, .int x2), (3, .int x3), (4, .int x4)] [] h) (hR : ∀ r, K (.inr r) → emHI r = tgt Γ) : EG Γ mX6_layTrial 7 [(0, rf Γ x0), (2, .int x2), (3, .int x3), (4, .int x4)] [] h (B_X6_layTrial_7 h x0 x2 x3 x4) K := by
  unfold B_X6_layTrial_7
  refine x_iload hO 3 rfl dX6_layTrial_7 ?_
  refine x_if_lt hO (tg := 89) dX6_layTrial_9 (by decide) ?_ ?_
  · refine x_iconst hO (v := 1) (by decide) dX6_layTrial_89 ?_
    exact x_zretv hO rfl (by decide) dX6_layTrial_90 (hR _)
  · refine x_aload_n hO 0 rfl rfl dX6_layTrial_12 ?_
    refine x_getI hO fl_RX6_25 hx0 dX6_layTrial_13 ?_
    refine x_if_gt hO (tg := 21) dX6_layTrial_16 (by decide) ?_ ?_
    · refine x_aload_n hO 0 rfl rfl dX6_layTrial_21 ?_
      refine x_getR hO fl_RX6_28 hx0 dX6_layTrial_22 ?_
      refine x_iload hO 3 rfl dX6_layTrial_25 ?_
      refine x_aload_n hO 0 rfl rfl dX6_layTrial_27 ?_
      refine x_getR hO fl_RX6_22 hx0 dX6_layTrial_28 ?_
      refine x_iload_n hO 2 rfl rfl dX6_layTrial_31 ?_
      refine x_aload_n hO 0 rfl rfl dX6_layTrial_32 ?_
      refine x_getI hO fl_RX6_25 hx0 dX6_layTrial_33 ?_
      refine x_irem hO dX6_layTrial_36 ?_
      refine x_iald hO (gr_6_3 hx0) dX6_layTrial_37 ?_
      refine x_iast hO (gr_6_5 hx0) dX6_layTrial_38 ?_
      refine x_iload_n hO 2 rfl rfl dX6_layTrial_39 ?_
      refine x_aload_n hO 0 rfl rfl dX6_layTrial_40 ?_
      refine x_getI hO fl_RX6_25 hx0 dX6_layTrial_41 ?_
      refine x_idiv hO dX6_layTrial_44 ?_
      refine x_bnd ?_
      generalize x3 / (hI (uI h (GR x0 5) (nx x4) (hI h (GR x0 3) (nx (x3 - x3 / (hI h x0 4) * (hI h x0 4))))) x0 4) = v1
      refine x_istore_n hO rfl [(3, .int v1), (0, rf Γ x0), (2, .int x2), (4, .int x4)] dX6_layTrial_45 (by decide) rfl ?_
      refine x_iload hO 3 rfl dX6_layTrial_46 ?_
      refine x_iconst hO (v := 1) (by decide) dX6_layTrial_48 ?_
      refine x_iadd hO dX6_layTrial_49 ?_
      refine x_istore hO [(5, .int (x4 + ((1 : Int32)))), (3, .int v1), (0, rf Γ x0), (2, .int x2), (4, .int x4)] dX6_layTrial_50 (by decide) rfl ?_
      refine x_bind (x_sub [2, 3, 1, 4, 0] rfl (go_X6_layTrial_L52 hO (uI h (GR x0 5) (nx x4) (hI h (GR x0 3) (nx (x3 - x3 / (hI h x0 4) * (hI h x0 4))))) x0 x2 v1 x4 (x4 + ((1 : Int32))) hx0 (fun hx => ?_) (fun r hr => by obtain ⟨z, q, k⟩ := hr; cases q; exact hR _ k)))
      refine x_run (t := (some (.inl (uI h (GR x0 5) (nx x4) (hI h (GR x0 3) (nx (x3 - x3 / (hI h x0 4) * (hI h x0 4)))), v1, x4 + (-1 : Int32))) : Option ((Hp × Int32 × Int32) ⊕ (Hp × Int32)))) hx ?_
      refine x_iinc hO 3 (v := -1) [(4, .int (x4 + (-1 : Int32))), (0, rf Γ x0), (2, .int x2), (3, .int v1)] dX6_layTrial_83 rfl (by decide) (by decide) rfl ?_
      refine x_goto hO (tg := 7) dX6_layTrial_86 (by decide) ?_
      exact x_leafs [1, 2, 3, 0] rfl (hC (uI h (GR x0 5) (nx x4) (hI h (GR x0 3) (nx (x3 - x3 / (hI h x0 4) * (hI h x0 4))))) v1 (x4 + (-1 : Int32)))
    · refine x_iconst hO (v := 0) (by decide) dX6_layTrial_19 ?_
      exact x_zretv hO rfl (by decide) dX6_layTrial_20 (hR _)
set_option maxHeartbeats 4000000 in
set_option maxRecDepth 100000 in
theorem go_X6_layTrial_L7 {Γ : Cx} (hO : Ok Γ mX6_layTrial) (h : Hp) (x0 : Nat) (x2 : Int32) (x3 : Int32) (x4 : Int32) (hx0 : Is x0 6) {K : Hp × Int32 → Prop} (hR : ∀ r, K (r) → emHI r = tgt Γ) : EG Γ mX6_layTrial 7 [(0, rf Γ x0), (2, .int x2), (3, .int x3), (4, .int x4)] [] h (L_X6_layTrial_7 h x0 x2 x3 x4) K := by
  have q := x_loop (Γ := Γ) (M := mX6_layTrial) (pc := 7) (B := fun s : Hp × Int32 × Int32 => B_X6_layTrial_7 s.1 x0 x2 s.2.1 s.2.2) (lvf := fun s => [(0, rf Γ x0), (2, .int x2), (3, .int s.2.1), (4, .int s.2.2)]) (hf := fun s => s.1) (Ky := K) (fun s => go_X6_layTrial_B7 hO s.1 x0 x2 s.2.1 s.2.2 hx0 (fun _ _ _ => id) hR) (h, x3, x4)
  exact q
noncomputable def F_X6_layTrial (h : Hp) (x0 : Nat) (x1 : Int32) (x2 : Int32) : Option (Hp × Int32) :=
  L_X6_layTrial_7 h x0 x2 x1 (x2 - ((1 : Int32)))
set_option maxHeartbeats 4000000 in
set_option maxRecDepth 100000 in
theorem go_X6_layTrial {Γ : Cx} (hO : Ok Γ mX6_layTrial) (h : Hp) (x0 : Nat) (x1 : Int32) (x2 : Int32) (hx0 : Is x0 6) {K : Hp × Int32 → Prop} (hR : ∀ r, K r → emHI r = tgt Γ) : EG Γ mX6_layTrial 0 [(0, rf Γ x0), (1, .int x1), (2, .int x2)] [] h (F_X6_layTrial h x0 x1 x2) K := by
  unfold F_X6_layTrial
  refine x_iload_n hO 1 rfl rfl dX6_layTrial_0 ?_
  refine x_istore_n hO rfl [(3, .int x1), (0, rf Γ x0), (1, .int x1), (2, .int x2)] dX6_layTrial_1 (by decide) rfl ?_
  refine x_iload_n hO 3 rfl rfl dX6_layTrial_2 ?_
  refine x_iconst hO (v := 1) (by decide) dX6_layTrial_3 ?_
  refine x_isub hO dX6_layTrial_4 ?_
  refine x_istore hO [(4, .int (x2 - ((1 : Int32)))), (3, .int x1), (0, rf Γ x0), (1, .int x1), (2, .int x2)] dX6_layTrial_5 (by decide) rfl ?_
  exact x_sub [2, 4, 1, 0] rfl (go_X6_layTrial_L7 hO h x0 x2 x1 (x2 - ((1 : Int32))) hx0 hR)
theorem ok_X6_layTrial (G : Gl) (h : Hp) (x0 : Nat) (x1 : Int32) (x2 : Int32) (hx0 : Is x0 6) : CN G mX6_layTrial [.ref (gb G + x0), .int x1, .int x2] h ((F_X6_layTrial h x0 x1 x2).map (emHI)) := CN.fn pn_RX6 (Nat.le_of_ble_eq_true rfl) (fun Γ hG hO => by subst hG; exact go_X6_layTrial hO h x0 x1 x2 hx0 (fun _ q => q))
noncomputable def F_X7_goesOn (h : Hp) (x0 : Nat) : Option (Int32) :=
  if (hI h x0 5) = 0 then if (hI h x0 4) = 0 then some ((0 : Int32)) else some ((1 : Int32)) else some ((0 : Int32))
set_option maxHeartbeats 4000000 in
set_option maxRecDepth 100000 in
theorem go_X7_goesOn {Γ : Cx} (hO : Ok Γ mX7_goesOn) (h : Hp) (x0 : Nat) (hx0 : Is x0 7) {K : Int32 → Prop} (hR : ∀ r, K r → emPI h r = tgt Γ) : EG Γ mX7_goesOn 0 [(0, rf Γ x0)] [] h (F_X7_goesOn h x0) K := by
  unfold F_X7_goesOn
  refine x_aload_n hO 0 rfl rfl dX7_goesOn_0 ?_
  refine x_getI hO fl_RX7_28 hx0 dX7_goesOn_1 ?_
  refine x_if_ne hO (tg := 18) dX7_goesOn_4 (by decide) ?_ ?_
  · refine x_iconst hO (v := 0) (by decide) dX7_goesOn_18 ?_
    exact x_zretv hO rfl (by decide) dX7_goesOn_19 (hR _)
  · refine x_aload_n hO 0 rfl rfl dX7_goesOn_7 ?_
    refine x_getI hO fl_RX7_25 hx0 dX7_goesOn_8 ?_
    refine x_if_eq hO (tg := 18) dX7_goesOn_11 (by decide) ?_ ?_
    · refine x_iconst hO (v := 0) (by decide) dX7_goesOn_18 ?_
      exact x_zretv hO rfl (by decide) dX7_goesOn_19 (hR _)
    · refine x_iconst hO (v := 1) (by decide) dX7_goesOn_14 ?_
      refine x_goto hO (tg := 19) dX7_goesOn_15 (by decide) ?_
      exact x_zretv hO rfl (by decide) dX7_goesOn_19 (hR _)
theorem ok_X7_goesOn (G : Gl) (h : Hp) (x0 : Nat) (hx0 : Is x0 7) : CN G mX7_goesOn [.ref (gb G + x0)] h ((F_X7_goesOn h x0).map (emPI h)) := CN.fn pn_RX7 (Nat.le_of_ble_eq_true rfl) (fun Γ hG hO => by subst hG; exact go_X7_goesOn hO h x0 hx0 (fun _ q => q))
noncomputable def F_X7_isDigit (h : Hp) (x0 : Int32) : Option (Int32) :=
  if x0 < ((48 : Int32)) then some ((0 : Int32)) else if ((57 : Int32)) < x0 then some ((0 : Int32)) else some ((1 : Int32))
set_option maxHeartbeats 4000000 in
set_option maxRecDepth 100000 in
theorem go_X7_isDigit {Γ : Cx} (hO : Ok Γ mX7_isDigit) (h : Hp) (x0 : Int32) {K : Int32 → Prop} (hR : ∀ r, K r → emPI h r = tgt Γ) : EG Γ mX7_isDigit 0 [(0, .int x0)] [] h (F_X7_isDigit h x0) K := by
  unfold F_X7_isDigit
  refine x_iload_n hO 0 rfl rfl dX7_isDigit_0 ?_
  refine x_bipush hO (v := 48) (by decide) dX7_isDigit_1 ?_
  refine x_icmp_lt hO (tg := 16) dX7_isDigit_3 (by decide) ?_ ?_
  · refine x_iconst hO (v := 0) (by decide) dX7_isDigit_16 ?_
    exact x_zretv hO rfl (by decide) dX7_isDigit_17 (hR _)
  · refine x_iload_n hO 0 rfl rfl dX7_isDigit_6 ?_
    refine x_bipush hO (v := 57) (by decide) dX7_isDigit_7 ?_
    refine x_icmp_gt hO (tg := 16) dX7_isDigit_9 (by decide) ?_ ?_
    · refine x_iconst hO (v := 0) (by decide) dX7_isDigit_16 ?_
      exact x_zretv hO rfl (by decide) dX7_isDigit_17 (hR _)
    · refine x_iconst hO (v := 1) (by decide) dX7_isDigit_12 ?_
      refine x_goto hO (tg := 17) dX7_isDigit_13 (by decide) ?_
      exact x_zretv hO rfl (by decide) dX7_isDigit_17 (hR _)
theorem ok_X7_isDigit (G : Gl) (h : Hp) (x0 : Int32) : CN G mX7_isDigit [.int x0] h ((F_X7_isDigit h x0).map (emPI h)) := CN.fn pn_RX7 (Nat.le_of_ble_eq_true rfl) (fun Γ hG hO => by subst hG; exact go_X7_isDigit hO h x0 (fun _ q => q))
noncomputable def F_X7_isLetter (h : Hp) (x0 : Int32) : Option (Int32) :=
  if x0 < ((97 : Int32)) then some ((0 : Int32)) else if ((122 : Int32)) < x0 then some ((0 : Int32)) else some ((1 : Int32))
set_option maxHeartbeats 4000000 in
set_option maxRecDepth 100000 in
theorem go_X7_isLetter {Γ : Cx} (hO : Ok Γ mX7_isLetter) (h : Hp) (x0 : Int32) {K : Int32 → Prop} (hR : ∀ r, K r → emPI h r = tgt Γ) : EG Γ mX7_isLetter 0 [(0, .int x0)] [] h (F_X7_isLetter h x0) K := by
  unfold F_X7_isLetter
  refine x_iload_n hO 0 rfl rfl dX7_isLetter_0 ?_
  refine x_bipush hO (v := 97) (by decide) dX7_isLetter_1 ?_
  refine x_icmp_lt hO (tg := 16) dX7_isLetter_3 (by decide) ?_ ?_
  · refine x_iconst hO (v := 0) (by decide) dX7_isLetter_16 ?_
    exact x_zretv hO rfl (by decide) dX7_isLetter_17 (hR _)
  · refine x_iload_n hO 0 rfl rfl dX7_isLetter_6 ?_
    refine x_bipush hO (v := 122) (by decide) dX7_isLetter_7 ?_
    refine x_icmp_gt hO (tg := 16) dX7_isLetter_9 (by decide) ?_ ?_
    · refine x_iconst hO (v := 0) (by decide) dX7_isLetter_16 ?_
      exact x_zretv hO rfl (by decide) dX7_isLetter_17 (hR _)
    · refine x_iconst hO (v := 1) (by decide) dX7_isLetter_12 ?_
      refine x_goto hO (tg := 17) dX7_isLetter_13 (by decide) ?_
      exact x_zretv hO rfl (by decide) dX7_isLetter_17 (hR _)
theorem ok_X7_isLetter (G : Gl) (h : Hp) (x0 : Int32) : CN G mX7_isLetter [.int x0] h ((F_X7_isLetter h x0).map (emPI h)) := CN.fn pn_RX7 (Nat.le_of_ble_eq_true rfl) (fun Γ hG hO => by subst hG; exact go_X7_isLetter hO h x0 (fun _ q => q))
noncomputable def F_X7_misplaced (h : Hp) (x0 : Nat) : Option (Int32) :=
  if (hI h x0 4) = ((4 : Int32)) then some ((1 : Int32)) else some ((2 : Int32))
set_option maxHeartbeats 4000000 in
set_option maxRecDepth 100000 in
theorem go_X7_misplaced {Γ : Cx} (hO : Ok Γ mX7_misplaced) (h : Hp) (x0 : Nat) (hx0 : Is x0 7) {K : Int32 → Prop} (hR : ∀ r, K r → emPI h r = tgt Γ) : EG Γ mX7_misplaced 0 [(0, rf Γ x0)] [] h (F_X7_misplaced h x0) K := by
  unfold F_X7_misplaced
  refine x_aload_n hO 0 rfl rfl dX7_misplaced_0 ?_
  refine x_getI hO fl_RX7_25 hx0 dX7_misplaced_1 ?_
  refine x_iconst hO (v := 4) (by decide) dX7_misplaced_4 ?_
  refine x_icmp_ne hO (tg := 12) dX7_misplaced_5 (by decide) ?_ ?_
  · refine x_iconst hO (v := 2) (by decide) dX7_misplaced_12 ?_
    exact x_iret hO rfl dX7_misplaced_13 (hR _)
  · refine x_iconst hO (v := 1) (by decide) dX7_misplaced_8 ?_
    refine x_goto hO (tg := 13) dX7_misplaced_9 (by decide) ?_
    exact x_iret hO rfl dX7_misplaced_13 (hR _)
theorem ok_X7_misplaced (G : Gl) (h : Hp) (x0 : Nat) (hx0 : Is x0 7) : CN G mX7_misplaced [.ref (gb G + x0)] h ((F_X7_misplaced h x0).map (emPI h)) := CN.fn pn_RX7 (Nat.le_of_ble_eq_true rfl) (fun Γ hG hO => by subst hG; exact go_X7_misplaced hO h x0 hx0 (fun _ q => q))
noncomputable def B_X7_nameHere_7 (h : Hp) (x0 : Nat) (x1 : Int64) (x3 : Int32) : Option ((Int64 × Int32) ⊕ (Int64)) :=
  if (hI h x0 3) ≤ x3 then some (.inr x1) else if (hI h x0 1) ≤ x3 then some (.inr x1) else gd (ib x3 (LEN (hT h x0))) (bnd ((x1 * ((32 : Int64))) + ((((hI h (hT h x0) (nx x3)) - ((97 : Int32))) + ((1 : Int32))).toInt64)) (fun v2 => some (.inl (v2, x3 + (1 : Int32)))))
noncomputable def L_X7_nameHere_7 (h : Hp) (x0 : Nat) (x1 : Int64) (x3 : Int32) : Option (Int64) := iterW (fun s : Int64 × Int32 => B_X7_nameHere_7 h x0 s.1 s.2) (x1, x3)
set_option maxHeartbeats 4000000 in
set_option maxRecDepth 100000 in
theorem go_X7_nameHere_B7 {Γ : Cx} (hO : Ok Γ mX7_nameHere) (h : Hp) (x0 : Nat) (x1 : Int64) (x3 : Int32) (hx0 : Is x0 7) {K : (Int64 × Int32) ⊕ (Int64) → Prop} (hC : ∀ (x1 : Int64) (x3 : Int32), K (.inl (x1, x3)) → EW Γ mX7_nameHere 7 [(0, rf Γ x0), (1, .long x1), (3, .int x3)] [] h) (hR : ∀ r, K (.inr r) → emPL h r = tgt Γ) : EG Γ mX7_nameHere 7 [(0, rf Γ x0), (1, .long x1), (3, .int x3)] [] h (B_X7_nameHere_7 h x0 x1 x3) K := by
  unfold B_X7_nameHere_7
  refine x_iload_n hO 2 rfl rfl dX7_nameHere_7 ?_
  refine x_aload_n hO 0 rfl rfl dX7_nameHere_8 ?_
  refine x_getI hO fl_RX7_22 hx0 dX7_nameHere_9 ?_
  refine x_icmp_ge hO (tg := 48) dX7_nameHere_12 (by decide) ?_ ?_
  · refine x_lload_n hO 1 rfl rfl dX7_nameHere_48 ?_
    exact x_lret hO rfl dX7_nameHere_49 (hR _)
  · refine x_iload_n hO 2 rfl rfl dX7_nameHere_15 ?_
    refine x_aload_n hO 0 rfl rfl dX7_nameHere_16 ?_
    refine x_getI hO fl_RX7_15 hx0 dX7_nameHere_17 ?_
    refine x_icmp_ge hO (tg := 48) dX7_nameHere_20 (by decide) ?_ ?_
    · refine x_lload_n hO 1 rfl rfl dX7_nameHere_48 ?_
      exact x_lret hO rfl dX7_nameHere_49 (hR _)
    · refine x_lload_n hO 1 rfl rfl dX7_nameHere_23 ?_
      refine x_ldc2 hO cn_RX7_59 dX7_nameHere_24 ?_
      refine x_lmul hO dX7_nameHere_27 ?_
      refine x_aload_n hO 0 rfl rfl dX7_nameHere_28 ?_
      refine x_getT hO fl_RX7_9 rfl hx0 dX7_nameHere_29 (fun q1 => ?_)
      refine x_iload_n hO 2 rfl rfl dX7_nameHere_32 ?_
      refine x_iald hO q1 dX7_nameHere_33 ?_
      refine x_bipush hO (v := 97) (by decide) dX7_nameHere_34 ?_
      refine x_isub hO dX7_nameHere_36 ?_
      refine x_iconst hO (v := 1) (by decide) dX7_nameHere_37 ?_
      refine x_iadd hO dX7_nameHere_38 ?_
      refine x_i2l hO dX7_nameHere_39 ?_
      refine x_ladd hO dX7_nameHere_40 ?_
      refine x_bnd ?_
      generalize (x1 * ((32 : Int64))) + ((((hI h (hT h x0) (nx x3)) - ((97 : Int32))) + ((1 : Int32))).toInt64) = v2
      refine x_lstore_n hO rfl [(1, .long v2), (0, rf Γ x0), (3, .int x3)] dX7_nameHere_41 (by decide) rfl ?_
      refine x_iinc hO 2 (v := 1) [(3, .int (x3 + (1 : Int32))), (1, .long v2), (0, rf Γ x0)] dX7_nameHere_42 rfl (by decide) (by decide) rfl ?_
      refine x_goto hO (tg := 7) dX7_nameHere_45 (by decide) ?_
      exact x_leafs [2, 1, 0] rfl (hC v2 (x3 + (1 : Int32)))
set_option maxHeartbeats 4000000 in
set_option maxRecDepth 100000 in
theorem go_X7_nameHere_L7 {Γ : Cx} (hO : Ok Γ mX7_nameHere) (h : Hp) (x0 : Nat) (x1 : Int64) (x3 : Int32) (hx0 : Is x0 7) {K : Int64 → Prop} (hR : ∀ r, K (r) → emPL h r = tgt Γ) : EG Γ mX7_nameHere 7 [(0, rf Γ x0), (1, .long x1), (3, .int x3)] [] h (L_X7_nameHere_7 h x0 x1 x3) K := by
  have q := x_loop (Γ := Γ) (M := mX7_nameHere) (pc := 7) (B := fun s : Int64 × Int32 => B_X7_nameHere_7 h x0 s.1 s.2) (lvf := fun s => [(0, rf Γ x0), (1, .long s.1), (3, .int s.2)]) (hf := fun s => h) (Ky := K) (fun s => go_X7_nameHere_B7 hO h x0 s.1 s.2 hx0 (fun _ _ => id) hR) (x1, x3)
  exact q
noncomputable def F_X7_nameHere (h : Hp) (x0 : Nat) : Option (Int64) :=
  L_X7_nameHere_7 h x0 ((0 : Int64)) (hI h x0 2)
set_option maxHeartbeats 4000000 in
set_option maxRecDepth 100000 in
theorem go_X7_nameHere {Γ : Cx} (hO : Ok Γ mX7_nameHere) (h : Hp) (x0 : Nat) (hx0 : Is x0 7) {K : Int64 → Prop} (hR : ∀ r, K r → emPL h r = tgt Γ) : EG Γ mX7_nameHere 0 [(0, rf Γ x0)] [] h (F_X7_nameHere h x0) K := by
  unfold F_X7_nameHere
  refine x_lconst hO (v := 0) (by decide) dX7_nameHere_0 ?_
  refine x_lstore_n hO rfl [(1, .long ((0 : Int64))), (0, rf Γ x0)] dX7_nameHere_1 (by decide) rfl ?_
  refine x_aload_n hO 1 rfl rfl dX7_nameHere_2 ?_
  refine x_getI hO fl_RX7_19 hx0 dX7_nameHere_3 ?_
  refine x_istore_n hO rfl [(3, .int (hI h x0 2)), (1, .long ((0 : Int64))), (0, rf Γ x0)] dX7_nameHere_6 (by decide) rfl ?_
  exact x_sub [2, 1, 0] rfl (go_X7_nameHere_L7 hO h x0 ((0 : Int64)) (hI h x0 2) hx0 hR)
theorem ok_X7_nameHere (G : Gl) (h : Hp) (x0 : Nat) (hx0 : Is x0 7) : CN G mX7_nameHere [.ref (gb G + x0)] h ((F_X7_nameHere h x0).map (emPL h)) := CN.fn pn_RX7 (Nat.le_of_ble_eq_true rfl) (fun Γ hG hO => by subst hG; exact go_X7_nameHere hO h x0 hx0 (fun _ q => q))
noncomputable def B_X7_numberHere_7 (h : Hp) (x0 : Nat) (x1 : Int32) (x2 : Int32) : Option ((Int32 × Int32) ⊕ (Int32)) :=
  if (hI h x0 3) ≤ x2 then some (.inr x1) else if (hI h x0 1) ≤ x2 then some (.inr x1) else gd (ib x2 (LEN (hT h x0))) (bnd ((x1 * ((10 : Int32))) + ((hI h (hT h x0) (nx x2)) - ((48 : Int32)))) (fun v2 => some (.inl (v2, x2 + (1 : Int32)))))
noncomputable def L_X7_numberHere_7 (h : Hp) (x0 : Nat) (x1 : Int32) (x2 : Int32) : Option (Int32) := iterW (fun s : Int32 × Int32 => B_X7_numberHere_7 h x0 s.1 s.2) (x1, x2)
set_option maxHeartbeats 4000000 in
set_option maxRecDepth 100000 in
theorem go_X7_numberHere_B7 {Γ : Cx} (hO : Ok Γ mX7_numberHere) (h : Hp) (x0 : Nat) (x1 : Int32) (x2 : Int32) (hx0 : Is x0 7) {K : (Int32 × Int32) ⊕ (Int32) → Prop} (hC : ∀ (x1 : Int32) (x2 : Int32), K (.inl (x1, x2)) → EW Γ mX7_numberHere 7 [(0, rf Γ x0), (1, .int x1), (2, .int x2)] [] h) (hR : ∀ r, K (.inr r) → emPI h r = tgt Γ) : EG Γ mX7_numberHere 7 [(0, rf Γ x0), (1, .int x1), (2, .int x2)] [] h (B_X7_numberHere_7 h x0 x1 x2) K := by
  unfold B_X7_numberHere_7
  refine x_iload_n hO 2 rfl rfl dX7_numberHere_7 ?_
  refine x_aload_n hO 0 rfl rfl dX7_numberHere_8 ?_
  refine x_getI hO fl_RX7_22 hx0 dX7_numberHere_9 ?_
  refine x_icmp_ge hO (tg := 44) dX7_numberHere_12 (by decide) ?_ ?_
  · refine x_iload_n hO 1 rfl rfl dX7_numberHere_44 ?_
    exact x_iret hO rfl dX7_numberHere_45 (hR _)
  · refine x_iload_n hO 2 rfl rfl dX7_numberHere_15 ?_
    refine x_aload_n hO 0 rfl rfl dX7_numberHere_16 ?_
    refine x_getI hO fl_RX7_15 hx0 dX7_numberHere_17 ?_
    refine x_icmp_ge hO (tg := 44) dX7_numberHere_20 (by decide) ?_ ?_
    · refine x_iload_n hO 1 rfl rfl dX7_numberHere_44 ?_
      exact x_iret hO rfl dX7_numberHere_45 (hR _)
    · refine x_iload_n hO 1 rfl rfl dX7_numberHere_23 ?_
      refine x_bipush hO (v := 10) (by decide) dX7_numberHere_24 ?_
      refine x_imul hO dX7_numberHere_26 ?_
      refine x_aload_n hO 0 rfl rfl dX7_numberHere_27 ?_
      refine x_getT hO fl_RX7_9 rfl hx0 dX7_numberHere_28 (fun q1 => ?_)
      refine x_iload_n hO 2 rfl rfl dX7_numberHere_31 ?_
      refine x_iald hO q1 dX7_numberHere_32 ?_
      refine x_bipush hO (v := 48) (by decide) dX7_numberHere_33 ?_
      refine x_isub hO dX7_numberHere_35 ?_
      refine x_iadd hO dX7_numberHere_36 ?_
      refine x_bnd ?_
      generalize (x1 * ((10 : Int32))) + ((hI h (hT h x0) (nx x2)) - ((48 : Int32))) = v2
      refine x_istore_n hO rfl [(1, .int v2), (0, rf Γ x0), (2, .int x2)] dX7_numberHere_37 (by decide) rfl ?_
      refine x_iinc hO 2 (v := 1) [(2, .int (x2 + (1 : Int32))), (1, .int v2), (0, rf Γ x0)] dX7_numberHere_38 rfl (by decide) (by decide) rfl ?_
      refine x_goto hO (tg := 7) dX7_numberHere_41 (by decide) ?_
      exact x_leafs [2, 1, 0] rfl (hC v2 (x2 + (1 : Int32)))
set_option maxHeartbeats 4000000 in
set_option maxRecDepth 100000 in
theorem go_X7_numberHere_L7 {Γ : Cx} (hO : Ok Γ mX7_numberHere) (h : Hp) (x0 : Nat) (x1 : Int32) (x2 : Int32) (hx0 : Is x0 7) {K : Int32 → Prop} (hR : ∀ r, K (r) → emPI h r = tgt Γ) : EG Γ mX7_numberHere 7 [(0, rf Γ x0), (1, .int x1), (2, .int x2)] [] h (L_X7_numberHere_7 h x0 x1 x2) K := by
  have q := x_loop (Γ := Γ) (M := mX7_numberHere) (pc := 7) (B := fun s : Int32 × Int32 => B_X7_numberHere_7 h x0 s.1 s.2) (lvf := fun s => [(0, rf Γ x0), (1, .int s.1), (2, .int s.2)]) (hf := fun s => h) (Ky := K) (fun s => go_X7_numberHere_B7 hO h x0 s.1 s.2 hx0 (fun _ _ => id) hR) (x1, x2)
  exact q
noncomputable def F_X7_numberHere (h : Hp) (x0 : Nat) : Option (Int32) :=
  L_X7_numberHere_7 h x0 ((0 : Int32)) (hI h x0 2)
set_option maxHeartbeats 4000000 in
set_option maxRecDepth 100000 in
theorem go_X7_numberHere {Γ : Cx} (hO : Ok Γ mX7_numberHere) (h : Hp) (x0 : Nat) (hx0 : Is x0 7) {K : Int32 → Prop} (hR : ∀ r, K r → emPI h r = tgt Γ) : EG Γ mX7_numberHere 0 [(0, rf Γ x0)] [] h (F_X7_numberHere h x0) K := by
  unfold F_X7_numberHere
  refine x_iconst hO (v := 0) (by decide) dX7_numberHere_0 ?_
  refine x_istore_n hO rfl [(1, .int ((0 : Int32))), (0, rf Γ x0)] dX7_numberHere_1 (by decide) rfl ?_
  refine x_aload_n hO 1 rfl rfl dX7_numberHere_2 ?_
  refine x_getI hO fl_RX7_19 hx0 dX7_numberHere_3 ?_
  refine x_istore_n hO rfl [(2, .int (hI h x0 2)), (1, .int ((0 : Int32))), (0, rf Γ x0)] dX7_numberHere_6 (by decide) rfl ?_
  exact x_sub [2, 1, 0] rfl (go_X7_numberHere_L7 hO h x0 ((0 : Int32)) (hI h x0 2) hx0 hR)
theorem ok_X7_numberHere (G : Gl) (h : Hp) (x0 : Nat) (hx0 : Is x0 7) : CN G mX7_numberHere [.ref (gb G + x0)] h ((F_X7_numberHere h x0).map (emPI h)) := CN.fn pn_RX7 (Nat.le_of_ble_eq_true rfl) (fun Γ hG hO => by subst hG; exact go_X7_numberHere hO h x0 hx0 (fun _ q => q))
noncomputable def F_X7_tell (h : Hp) (x0 : Nat) (x1 : Int32) : Option (Hp × Int32) :=
  if (hI h x0 5) = 0 then some ((uI (uI h x0 5 x1) x0 6 (hI (uI h x0 5 x1) x0 2), (0 : Int32))) else some ((h, (0 : Int32)))
set_option maxHeartbeats 4000000 in
set_option maxRecDepth 100000 in
theorem go_X7_tell {Γ : Cx} (hO : Ok Γ mX7_tell) (h : Hp) (x0 : Nat) (x1 : Int32) (hx0 : Is x0 7) {K : Hp × Int32 → Prop} (hR : ∀ r, K r → emHI r = tgt Γ) : EG Γ mX7_tell 0 [(0, rf Γ x0), (1, .int x1)] [] h (F_X7_tell h x0 x1) K := by
  unfold F_X7_tell
  refine x_aload_n hO 0 rfl rfl dX7_tell_0 ?_
  refine x_getI hO fl_RX7_28 hx0 dX7_tell_1 ?_
  refine x_if_ne hO (tg := 20) dX7_tell_4 (by decide) ?_ ?_
  · refine x_iconst hO (v := 0) (by decide) dX7_tell_20 ?_
    exact x_zretv hO rfl (by decide) dX7_tell_21 (hR _)
  · refine x_aload_n hO 0 rfl rfl dX7_tell_7 ?_
    refine x_iload_n hO 1 rfl rfl dX7_tell_8 ?_
    refine x_putI hO fl_RX7_28 hx0 dX7_tell_9 ?_
    refine x_aload_n hO 0 rfl rfl dX7_tell_12 ?_
    refine x_aload_n hO 0 rfl rfl dX7_tell_13 ?_
    refine x_getI hO fl_RX7_19 hx0 dX7_tell_14 ?_
    refine x_putI hO fl_RX7_31 hx0 dX7_tell_17 ?_
    refine x_iconst hO (v := 0) (by decide) dX7_tell_20 ?_
    exact x_zretv hO rfl (by decide) dX7_tell_21 (hR _)
theorem ok_X7_tell (G : Gl) (h : Hp) (x0 : Nat) (x1 : Int32) (hx0 : Is x0 7) : CN G mX7_tell [.ref (gb G + x0), .int x1] h ((F_X7_tell h x0 x1).map (emHI)) := CN.fn pn_RX7 (Nat.le_of_ble_eq_true rfl) (fun Γ hG hO => by subst hG; exact go_X7_tell hO h x0 x1 hx0 (fun _ q => q))
noncomputable def F_X9_addEnd (h : Hp) (x0 : Nat) (x1 : Int32) : Option (Hp) :=
  if ((80 : Int32)) ≤ (hI h x0 1) then some h else gd (ib (hI h x0 1) (LEN (GR x0 2))) (gd (ib (hI (uI h (GR x0 2) (nx (hI h x0 1)) ((7 : Int32))) x0 1) (LEN (GR x0 5))) (gd (ib x1 (LEN (GR x0 5))) (bnd (uI (uI (uI h (GR x0 2) (nx (hI h x0 1)) ((7 : Int32))) (GR x0 5) (nx (hI (uI h (GR x0 2) (nx (hI h x0 1)) ((7 : Int32))) x0 1)) x1) (GR x0 5) (nx x1) (hI (uI (uI h (GR x0 2) (nx (hI h x0 1)) ((7 : Int32))) (GR x0 5) (nx (hI (uI h (GR x0 2) (nx (hI h x0 1)) ((7 : Int32))) x0 1)) x1) x0 1)) (fun h1 => some (uI h1 x0 1 ((hI h1 x0 1) + ((1 : Int32))))))))
set_option maxHeartbeats 4000000 in
set_option maxRecDepth 100000 in
theorem go_X9_addEnd {Γ : Cx} (hO : Ok Γ mX9_addEnd) (h : Hp) (x0 : Nat) (x1 : Int32) (hx0 : Is x0 9) {K : Hp → Prop} (hR : ∀ r, K r → emHV r = tgt Γ) : EG Γ mX9_addEnd 0 [(0, rf Γ x0), (1, .int x1)] [] h (F_X9_addEnd h x0 x1) K := by
  unfold F_X9_addEnd
  refine x_aload_n hO 0 rfl rfl dX9_addEnd_0 ?_
  refine x_getI hO fl_RX9_15 hx0 dX9_addEnd_1 ?_
  refine x_bipush hO (v := 80) (by decide) dX9_addEnd_4 ?_
  refine x_icmp_ge hO (tg := 50) dX9_addEnd_6 (by decide) ?_ ?_
  · exact x_vret hO rfl dX9_addEnd_50 (hR _)
  · refine x_aload_n hO 0 rfl rfl dX9_addEnd_9 ?_
    refine x_getR hO fl_RX9_18 hx0 dX9_addEnd_10 ?_
    refine x_aload_n hO 0 rfl rfl dX9_addEnd_13 ?_
    refine x_getI hO fl_RX9_15 hx0 dX9_addEnd_14 ?_
    refine x_bipush hO (v := 7) (by decide) dX9_addEnd_17 ?_
    refine x_iast hO (gr_9_2 hx0) dX9_addEnd_19 ?_
    refine x_aload_n hO 0 rfl rfl dX9_addEnd_20 ?_
    refine x_getR hO fl_RX9_28 hx0 dX9_addEnd_21 ?_
    refine x_aload_n hO 0 rfl rfl dX9_addEnd_24 ?_
    refine x_getI hO fl_RX9_15 hx0 dX9_addEnd_25 ?_
    refine x_iload_n hO 1 rfl rfl dX9_addEnd_28 ?_
    refine x_iast hO (gr_9_5 hx0) dX9_addEnd_29 ?_
    refine x_aload_n hO 0 rfl rfl dX9_addEnd_30 ?_
    refine x_getR hO fl_RX9_28 hx0 dX9_addEnd_31 ?_
    refine x_iload_n hO 1 rfl rfl dX9_addEnd_34 ?_
    refine x_aload_n hO 0 rfl rfl dX9_addEnd_35 ?_
    refine x_getI hO fl_RX9_15 hx0 dX9_addEnd_36 ?_
    refine x_iast hO (gr_9_5 hx0) dX9_addEnd_39 ?_
    refine x_bnd ?_
    generalize uI (uI (uI h (GR x0 2) (nx (hI h x0 1)) ((7 : Int32))) (GR x0 5) (nx (hI (uI h (GR x0 2) (nx (hI h x0 1)) ((7 : Int32))) x0 1)) x1) (GR x0 5) (nx x1) (hI (uI (uI h (GR x0 2) (nx (hI h x0 1)) ((7 : Int32))) (GR x0 5) (nx (hI (uI h (GR x0 2) (nx (hI h x0 1)) ((7 : Int32))) x0 1)) x1) x0 1) = h1
    refine x_aload_n hO 0 rfl rfl dX9_addEnd_40 ?_
    refine x_dup_r hO dX9_addEnd_41 ?_
    refine x_getI hO fl_RX9_15 hx0 dX9_addEnd_42 ?_
    refine x_iconst hO (v := 1) (by decide) dX9_addEnd_45 ?_
    refine x_iadd hO dX9_addEnd_46 ?_
    refine x_putI hO fl_RX9_15 hx0 dX9_addEnd_47 ?_
    exact x_vret hO rfl dX9_addEnd_50 (hR _)
theorem ok_X9_addEnd (G : Gl) (h : Hp) (x0 : Nat) (x1 : Int32) (hx0 : Is x0 9) : CN G mX9_addEnd [.ref (gb G + x0), .int x1] h ((F_X9_addEnd h x0 x1).map (emHV)) := CN.fn pn_RX9 (Nat.le_of_ble_eq_true rfl) (fun Γ hG hO => by subst hG; exact go_X9_addEnd hO h x0 x1 hx0 (fun _ q => q))
noncomputable def F_X9_addStep (h : Hp) (x0 : Nat) (x1 : Int32) (x2 : Int32) (x3 : Int32) : Option (Hp) :=
  if ((80 : Int32)) ≤ (hI h x0 1) then some h else gd (ib (hI h x0 1) (LEN (GR x0 2))) (gd (ib (hI (uI h (GR x0 2) (nx (hI h x0 1)) x1) x0 1) (LEN (GR x0 3))) (gd (ib (hI (uI (uI h (GR x0 2) (nx (hI h x0 1)) x1) (GR x0 3) (nx (hI (uI h (GR x0 2) (nx (hI h x0 1)) x1) x0 1)) x2) x0 1) (LEN (GR x0 4))) (bnd (uI (uI (uI h (GR x0 2) (nx (hI h x0 1)) x1) (GR x0 3) (nx (hI (uI h (GR x0 2) (nx (hI h x0 1)) x1) x0 1)) x2) (GR x0 4) (nx (hI (uI (uI h (GR x0 2) (nx (hI h x0 1)) x1) (GR x0 3) (nx (hI (uI h (GR x0 2) (nx (hI h x0 1)) x1) x0 1)) x2) x0 1)) x3) (fun h1 => gd (ib (hI h1 x0 1) (LEN (GR x0 5))) (bnd (uI (uI (uI h1 (GR x0 5) (nx (hI h1 x0 1)) (hI h1 x0 1)) x0 1 ((hI (uI h1 (GR x0 5) (nx (hI h1 x0 1)) (hI h1 x0 1)) x0 1) + ((1 : Int32)))) x0 0 ((hI (uI (uI h1 (GR x0 5) (nx (hI h1 x0 1)) (hI h1 x0 1)) x0 1 ((hI (uI h1 (GR x0 5) (nx (hI h1 x0 1)) (hI h1 x0 1)) x0 1) + ((1 : Int32)))) x0 0) + ((1 : Int32)))) (fun h2 => some h2))))))
set_option maxHeartbeats 4000000 in
set_option maxRecDepth 100000 in
theorem go_X9_addStep {Γ : Cx} (hO : Ok Γ mX9_addStep) (h : Hp) (x0 : Nat) (x1 : Int32) (x2 : Int32) (x3 : Int32) (hx0 : Is x0 9) {K : Hp → Prop} (hR : ∀ r, K r → emHV r = tgt Γ) : EG Γ mX9_addStep 0 [(0, rf Γ x0), (1, .int x1), (2, .int x2), (3, .int x3)] [] h (F_X9_addStep h x0 x1 x2 x3) K := by
  unfold F_X9_addStep
  refine x_aload_n hO 0 rfl rfl dX9_addStep_0 ?_
  refine x_getI hO fl_RX9_15 hx0 dX9_addStep_1 ?_
  refine x_bipush hO (v := 80) (by decide) dX9_addStep_4 ?_
  refine x_icmp_ge hO (tg := 72) dX9_addStep_6 (by decide) ?_ ?_
  · exact x_vret hO rfl dX9_addStep_72 (hR _)
  · refine x_aload_n hO 0 rfl rfl dX9_addStep_9 ?_
    refine x_getR hO fl_RX9_18 hx0 dX9_addStep_10 ?_
    refine x_aload_n hO 0 rfl rfl dX9_addStep_13 ?_
    refine x_getI hO fl_RX9_15 hx0 dX9_addStep_14 ?_
    refine x_iload_n hO 1 rfl rfl dX9_addStep_17 ?_
    refine x_iast hO (gr_9_2 hx0) dX9_addStep_18 ?_
    refine x_aload_n hO 0 rfl rfl dX9_addStep_19 ?_
    refine x_getR hO fl_RX9_22 hx0 dX9_addStep_20 ?_
    refine x_aload_n hO 0 rfl rfl dX9_addStep_23 ?_
    refine x_getI hO fl_RX9_15 hx0 dX9_addStep_24 ?_
    refine x_iload_n hO 2 rfl rfl dX9_addStep_27 ?_
    refine x_iast hO (gr_9_3 hx0) dX9_addStep_28 ?_
    refine x_aload_n hO 0 rfl rfl dX9_addStep_29 ?_
    refine x_getR hO fl_RX9_25 hx0 dX9_addStep_30 ?_
    refine x_aload_n hO 0 rfl rfl dX9_addStep_33 ?_
    refine x_getI hO fl_RX9_15 hx0 dX9_addStep_34 ?_
    refine x_iload_n hO 3 rfl rfl dX9_addStep_37 ?_
    refine x_iast hO (gr_9_4 hx0) dX9_addStep_38 ?_
    refine x_bnd ?_
    generalize uI (uI (uI h (GR x0 2) (nx (hI h x0 1)) x1) (GR x0 3) (nx (hI (uI h (GR x0 2) (nx (hI h x0 1)) x1) x0 1)) x2) (GR x0 4) (nx (hI (uI (uI h (GR x0 2) (nx (hI h x0 1)) x1) (GR x0 3) (nx (hI (uI h (GR x0 2) (nx (hI h x0 1)) x1) x0 1)) x2) x0 1)) x3 = h1
    refine x_aload_n hO 0 rfl rfl dX9_addStep_39 ?_
    refine x_getR hO fl_RX9_28 hx0 dX9_addStep_40 ?_
    refine x_aload_n hO 0 rfl rfl dX9_addStep_43 ?_
    refine x_getI hO fl_RX9_15 hx0 dX9_addStep_44 ?_
    refine x_aload_n hO 0 rfl rfl dX9_addStep_47 ?_
    refine x_getI hO fl_RX9_15 hx0 dX9_addStep_48 ?_
    refine x_iast hO (gr_9_5 hx0) dX9_addStep_51 ?_
    refine x_aload_n hO 0 rfl rfl dX9_addStep_52 ?_
    refine x_dup_r hO dX9_addStep_53 ?_
    refine x_getI hO fl_RX9_15 hx0 dX9_addStep_54 ?_
    refine x_iconst hO (v := 1) (by decide) dX9_addStep_57 ?_
    refine x_iadd hO dX9_addStep_58 ?_
    refine x_putI hO fl_RX9_15 hx0 dX9_addStep_59 ?_
    refine x_aload_n hO 0 rfl rfl dX9_addStep_62 ?_
    refine x_dup_r hO dX9_addStep_63 ?_
    refine x_getI hO fl_RX9_9 hx0 dX9_addStep_64 ?_
    refine x_iconst hO (v := 1) (by decide) dX9_addStep_67 ?_
    refine x_iadd hO dX9_addStep_68 ?_
    refine x_putI hO fl_RX9_9 hx0 dX9_addStep_69 ?_
    refine x_bnd ?_
    generalize uI (uI (uI h1 (GR x0 5) (nx (hI h1 x0 1)) (hI h1 x0 1)) x0 1 ((hI (uI h1 (GR x0 5) (nx (hI h1 x0 1)) (hI h1 x0 1)) x0 1) + ((1 : Int32)))) x0 0 ((hI (uI (uI h1 (GR x0 5) (nx (hI h1 x0 1)) (hI h1 x0 1)) x0 1 ((hI (uI h1 (GR x0 5) (nx (hI h1 x0 1)) (hI h1 x0 1)) x0 1) + ((1 : Int32)))) x0 0) + ((1 : Int32))) = h2
    exact x_vret hO rfl dX9_addStep_72 (hR _)
theorem ok_X9_addStep (G : Gl) (h : Hp) (x0 : Nat) (x1 : Int32) (x2 : Int32) (x3 : Int32) (hx0 : Is x0 9) : CN G mX9_addStep [.ref (gb G + x0), .int x1, .int x2, .int x3] h ((F_X9_addStep h x0 x1 x2 x3).map (emHV)) := CN.fn pn_RX9 (Nat.le_of_ble_eq_true rfl) (fun Γ hG hO => by subst hG; exact go_X9_addStep hO h x0 x1 x2 x3 hx0 (fun _ q => q))
noncomputable def F_X9_makeEmpty (h : Hp) (x0 : Nat) : Option (Hp) :=
  some (uI (uI h x0 0 ((0 : Int32))) x0 1 ((0 : Int32)))
set_option maxHeartbeats 4000000 in
set_option maxRecDepth 100000 in
theorem go_X9_makeEmpty {Γ : Cx} (hO : Ok Γ mX9_makeEmpty) (h : Hp) (x0 : Nat) (hx0 : Is x0 9) {K : Hp → Prop} (hR : ∀ r, K r → emHV r = tgt Γ) : EG Γ mX9_makeEmpty 0 [(0, rf Γ x0)] [] h (F_X9_makeEmpty h x0) K := by
  unfold F_X9_makeEmpty
  refine x_aload_n hO 0 rfl rfl dX9_makeEmpty_0 ?_
  refine x_iconst hO (v := 0) (by decide) dX9_makeEmpty_1 ?_
  refine x_putI hO fl_RX9_9 hx0 dX9_makeEmpty_2 ?_
  refine x_aload_n hO 0 rfl rfl dX9_makeEmpty_5 ?_
  refine x_iconst hO (v := 0) (by decide) dX9_makeEmpty_6 ?_
  refine x_putI hO fl_RX9_15 hx0 dX9_makeEmpty_7 ?_
  exact x_vret hO rfl dX9_makeEmpty_10 (hR _)
theorem ok_X9_makeEmpty (G : Gl) (h : Hp) (x0 : Nat) (hx0 : Is x0 9) : CN G mX9_makeEmpty [.ref (gb G + x0)] h ((F_X9_makeEmpty h x0).map (emHV)) := CN.fn pn_RX9 (Nat.le_of_ble_eq_true rfl) (fun Γ hG hO => by subst hG; exact go_X9_makeEmpty hO h x0 hx0 (fun _ q => q))
noncomputable def B_J7_fill_fda19_10 (h : Hp) (x0 : Nat) (x2 : Int32) (x3 : Int32) (x4 : Int32) : Option ((Hp × Int32) ⊕ (Hp)) :=
  if x2 ≤ x4 then some (.inr h) else gd (ib x4 (LEN x0)) (some (.inl (uI h x0 (nx x4) x3, x4 + (1 : Int32))))
noncomputable def L_J7_fill_fda19_10 (h : Hp) (x0 : Nat) (x2 : Int32) (x3 : Int32) (x4 : Int32) : Option (Hp) := iterW (fun s : Hp × Int32 => B_J7_fill_fda19_10 s.1 x0 x2 x3 s.2) (h, x4)
set_option maxHeartbeats 4000000 in
set_option maxRecDepth 100000 in
theorem go_J7_fill_fda19_B10 {Γ : Cx} (hO : Ok Γ mJ7_fill_fda19) (h : Hp) (x0 : Nat) (x2 : Int32) (x3 : Int32) (x4 : Int32) (hx0 : Is x0 14) {K : (Hp × Int32) ⊕ (Hp) → Prop} (hC : ∀ (h : Hp) (x4 : Int32), K (.inl (h, x4)) → EW Γ mJ7_fill_fda19 10 [(0, rf Γ x0), (2, .int x2), (3, .int x3), (4, .int x4)] [] h) (hR : ∀ r, K (.inr r) → emHV r = tgt Γ) : EG Γ mJ7_fill_fda19 10 [(0, rf Γ x0), (2, .int x2), (3, .int x3), (4, .int x4)] [] h (B_J7_fill_fda19_10 h x0 x2 x3 x4) K := by
  unfold B_J7_fill_fda19_10
  refine x_iload hO 3 rfl dJ7_fill_fda19_10 ?_
  refine x_iload_n hO 1 rfl rfl dJ7_fill_fda19_12 ?_
  refine x_icmp_ge hO (tg := 27) dJ7_fill_fda19_13 (by decide) ?_ ?_
  · exact x_vret hO rfl dJ7_fill_fda19_27 (hR _)
  · refine x_aload_n hO 0 rfl rfl dJ7_fill_fda19_16 ?_
    refine x_iload hO 3 rfl dJ7_fill_fda19_17 ?_
    refine x_iload_n hO 2 rfl rfl dJ7_fill_fda19_19 ?_
    refine x_iast hO hx0 dJ7_fill_fda19_20 ?_
    refine x_iinc hO 3 (v := 1) [(4, .int (x4 + (1 : Int32))), (0, rf Γ x0), (2, .int x2), (3, .int x3)] dJ7_fill_fda19_21 rfl (by decide) (by decide) rfl ?_
    refine x_goto hO (tg := 10) dJ7_fill_fda19_24 (by decide) ?_
    exact x_leafs [1, 2, 3, 0] rfl (hC (uI h x0 (nx x4) x3) (x4 + (1 : Int32)))
set_option maxHeartbeats 4000000 in
set_option maxRecDepth 100000 in
theorem go_J7_fill_fda19_L10 {Γ : Cx} (hO : Ok Γ mJ7_fill_fda19) (h : Hp) (x0 : Nat) (x2 : Int32) (x3 : Int32) (x4 : Int32) (hx0 : Is x0 14) {K : Hp → Prop} (hR : ∀ r, K (r) → emHV r = tgt Γ) : EG Γ mJ7_fill_fda19 10 [(0, rf Γ x0), (2, .int x2), (3, .int x3), (4, .int x4)] [] h (L_J7_fill_fda19_10 h x0 x2 x3 x4) K := by
  have q := x_loop (Γ := Γ) (M := mJ7_fill_fda19) (pc := 10) (B := fun s : Hp × Int32 => B_J7_fill_fda19_10 s.1 x0 x2 x3 s.2) (lvf := fun s => [(0, rf Γ x0), (2, .int x2), (3, .int x3), (4, .int s.2)]) (hf := fun s => s.1) (Ky := K) (fun s => go_J7_fill_fda19_B10 hO s.1 x0 x2 x3 s.2 hx0 (fun _ _ => id) hR) (h, x4)
  exact q
noncomputable def F_J7_fill_fda19 (h : Hp) (x0 : Nat) (x1 : Int32) (x2 : Int32) (x3 : Int32) : Option (Hp) :=
  (F_J7_rangeCheck_23922 h (nI (LEN x0)) x1 x2).bind (fun r1 => L_J7_fill_fda19_10 h x0 x2 x3 x1)
set_option maxHeartbeats 4000000 in
set_option maxRecDepth 100000 in
theorem go_J7_fill_fda19 {Γ : Cx} (hO : Ok Γ mJ7_fill_fda19) (h : Hp) (x0 : Nat) (x1 : Int32) (x2 : Int32) (x3 : Int32) (hx0 : Is x0 14) {K : Hp → Prop} (hR : ∀ r, K r → emHV r = tgt Γ) : EG Γ mJ7_fill_fda19 0 [(0, rf Γ x0), (1, .int x1), (2, .int x2), (3, .int x3)] [] h (F_J7_fill_fda19 h x0 x1 x2 x3) K := by
  unfold F_J7_fill_fda19
  refine x_aload_n hO 0 rfl rfl dJ7_fill_fda19_0 ?_
  refine x_alenI hO hx0 dJ7_fill_fda19_1 ?_
  refine x_iload_n hO 1 rfl rfl dJ7_fill_fda19_2 ?_
  refine x_iload_n hO 2 rfl rfl dJ7_fill_fda19_3 ?_
  refine y_PV (x_callS hO lt_RJ7_13 (As := [.int (nI (LEN x0)), .int x1, .int x2]) rfl (Nat.le_of_ble_eq_true rfl) (ok_J7_rangeCheck_23922 (cG Γ) h (nI (LEN x0)) x1 x2) dJ7_fill_fda19_4 rfl (Nat.le_of_ble_eq_true rfl)) (fun r1 => ?_)
  refine x_iload_n hO 1 rfl rfl dJ7_fill_fda19_7 ?_
  refine x_istore hO [(4, .int x1), (0, rf Γ x0), (1, .int x1), (2, .int x2), (3, .int x3)] dJ7_fill_fda19_8 (by decide) rfl ?_
  exact x_sub [1, 3, 4, 0] rfl (go_J7_fill_fda19_L10 hO h x0 x2 x3 x1 hx0 hR)
theorem ok_J7_fill_fda19 (G : Gl) (h : Hp) (x0 : Nat) (x1 : Int32) (x2 : Int32) (x3 : Int32) (hx0 : Is x0 14) : CN G mJ7_fill_fda19 [.ref (gb G + x0), .int x1, .int x2, .int x3] h ((F_J7_fill_fda19 h x0 x1 x2 x3).map (emHV)) := CN.fn pn_RJ7 (Nat.le_of_ble_eq_true rfl) (fun Γ hG hO => by subst hG; exact go_J7_fill_fda19 hO h x0 x1 x2 x3 hx0 (fun _ q => q))
noncomputable def F_X0_copyFrom (h : Hp) (x0 : Nat) (x1 : Nat) : Option (Hp) :=
  gd (cpok ((0 : Int32)) ((0 : Int32)) ((4 : Int32)) (LEN (GR x1 2)) (LEN (GR x0 2))) (bnd (sI (uI (uI h x0 0 (hI h x1 0)) x0 1 (hI (uI h x0 0 (hI h x1 0)) x1 1)) (GR x0 2) (va_cpy (hI (uI (uI h x0 0 (hI h x1 0)) x0 1 (hI (uI h x0 0 (hI h x1 0)) x1 1)) (GR x1 2)) (hI (uI (uI h x0 0 (hI h x1 0)) x0 1 (hI (uI h x0 0 (hI h x1 0)) x1 1)) (GR x0 2)) (nx ((0 : Int32))) (nx ((0 : Int32))) (nx ((4 : Int32))))) (fun h1 => gd (cpok ((0 : Int32)) ((0 : Int32)) ((20 : Int32)) (LEN (GR x1 3)) (LEN (GR x0 3))) (gd (cpok ((0 : Int32)) ((0 : Int32)) ((20 : Int32)) (LEN (GR x1 4)) (LEN (GR x0 4))) (bnd (sI (sI h1 (GR x0 3) (va_cpy (hI h1 (GR x1 3)) (hI h1 (GR x0 3)) (nx ((0 : Int32))) (nx ((0 : Int32))) (nx ((20 : Int32))))) (GR x0 4) (va_cpy (hI (sI h1 (GR x0 3) (va_cpy (hI h1 (GR x1 3)) (hI h1 (GR x0 3)) (nx ((0 : Int32))) (nx ((0 : Int32))) (nx ((20 : Int32))))) (GR x1 4)) (hI (sI h1 (GR x0 3) (va_cpy (hI h1 (GR x1 3)) (hI h1 (GR x0 3)) (nx ((0 : Int32))) (nx ((0 : Int32))) (nx ((20 : Int32))))) (GR x0 4)) (nx ((0 : Int32))) (nx ((0 : Int32))) (nx ((20 : Int32))))) (fun h2 => gd (cpok ((0 : Int32)) ((0 : Int32)) ((80 : Int32)) (LEN (GR x1 5)) (LEN (GR x0 5))) (some (sI h2 (GR x0 5) (va_cpy (hI h2 (GR x1 5)) (hI h2 (GR x0 5)) (nx ((0 : Int32))) (nx ((0 : Int32))) (nx ((80 : Int32)))))))))))
set_option maxHeartbeats 4000000 in
set_option maxRecDepth 100000 in
theorem go_X0_copyFrom {Γ : Cx} (hO : Ok Γ mX0_copyFrom) (h : Hp) (x0 : Nat) (x1 : Nat) (hx0 : Is x0 0) (hx1 : Is x1 0) {K : Hp → Prop} (hR : ∀ r, K r → emHV r = tgt Γ) : EG Γ mX0_copyFrom 0 [(0, rf Γ x0), (1, rf Γ x1)] [] h (F_X0_copyFrom h x0 x1) K := by
  unfold F_X0_copyFrom
  refine x_aload_n hO 0 rfl rfl dX0_copyFrom_0 ?_
  refine x_aload_n hO 1 rfl rfl dX0_copyFrom_1 ?_
  refine x_getI hO fl_RX0_9 hx1 dX0_copyFrom_2 ?_
  refine x_putI hO fl_RX0_9 hx0 dX0_copyFrom_5 ?_
  refine x_aload_n hO 0 rfl rfl dX0_copyFrom_8 ?_
  refine x_aload_n hO 1 rfl rfl dX0_copyFrom_9 ?_
  refine x_getI hO fl_RX0_15 hx1 dX0_copyFrom_10 ?_
  refine x_putI hO fl_RX0_15 hx0 dX0_copyFrom_13 ?_
  refine x_aload_n hO 1 rfl rfl dX0_copyFrom_16 ?_
  refine x_getR hO fl_RX0_18 hx1 dX0_copyFrom_17 ?_
  refine x_iconst hO (v := 0) (by decide) dX0_copyFrom_20 ?_
  refine x_aload_n hO 0 rfl rfl dX0_copyFrom_21 ?_
  refine x_getR hO fl_RX0_18 hx0 dX0_copyFrom_22 ?_
  refine x_iconst hO (v := 0) (by decide) dX0_copyFrom_25 ?_
  refine x_iconst hO (v := 4) (by decide) dX0_copyFrom_26 ?_
  refine x_copyI hO lc_RX0_31 (gr_0_2 hx1) (gr_0_2 hx0) (Nat.le_of_ble_eq_true rfl) (Nat.le_of_ble_eq_true rfl) dX0_copyFrom_27 ?_
  refine x_bnd ?_
  generalize sI (uI (uI h x0 0 (hI h x1 0)) x0 1 (hI (uI h x0 0 (hI h x1 0)) x1 1)) (GR x0 2) (va_cpy (hI (uI (uI h x0 0 (hI h x1 0)) x0 1 (hI (uI h x0 0 (hI h x1 0)) x1 1)) (GR x1 2)) (hI (uI (uI h x0 0 (hI h x1 0)) x0 1 (hI (uI h x0 0 (hI h x1 0)) x1 1)) (GR x0 2)) (nx ((0 : Int32))) (nx ((0 : Int32))) (nx ((4 : Int32)))) = h1
  refine x_aload_n hO 1 rfl rfl dX0_copyFrom_30 ?_
  refine x_getR hO fl_RX0_22 hx1 dX0_copyFrom_31 ?_
  refine x_iconst hO (v := 0) (by decide) dX0_copyFrom_34 ?_
  refine x_aload_n hO 0 rfl rfl dX0_copyFrom_35 ?_
  refine x_getR hO fl_RX0_22 hx0 dX0_copyFrom_36 ?_
  refine x_iconst hO (v := 0) (by decide) dX0_copyFrom_39 ?_
  refine x_bipush hO (v := 20) (by decide) dX0_copyFrom_40 ?_
  refine x_copyI hO lc_RX0_31 (gr_0_3 hx1) (gr_0_3 hx0) (Nat.le_of_ble_eq_true rfl) (Nat.le_of_ble_eq_true rfl) dX0_copyFrom_42 ?_
  refine x_aload_n hO 1 rfl rfl dX0_copyFrom_45 ?_
  refine x_getR hO fl_RX0_25 hx1 dX0_copyFrom_46 ?_
  refine x_iconst hO (v := 0) (by decide) dX0_copyFrom_49 ?_
  refine x_aload_n hO 0 rfl rfl dX0_copyFrom_50 ?_
  refine x_getR hO fl_RX0_25 hx0 dX0_copyFrom_51 ?_
  refine x_iconst hO (v := 0) (by decide) dX0_copyFrom_54 ?_
  refine x_bipush hO (v := 20) (by decide) dX0_copyFrom_55 ?_
  refine x_copyI hO lc_RX0_31 (gr_0_4 hx1) (gr_0_4 hx0) (Nat.le_of_ble_eq_true rfl) (Nat.le_of_ble_eq_true rfl) dX0_copyFrom_57 ?_
  refine x_bnd ?_
  generalize sI (sI h1 (GR x0 3) (va_cpy (hI h1 (GR x1 3)) (hI h1 (GR x0 3)) (nx ((0 : Int32))) (nx ((0 : Int32))) (nx ((20 : Int32))))) (GR x0 4) (va_cpy (hI (sI h1 (GR x0 3) (va_cpy (hI h1 (GR x1 3)) (hI h1 (GR x0 3)) (nx ((0 : Int32))) (nx ((0 : Int32))) (nx ((20 : Int32))))) (GR x1 4)) (hI (sI h1 (GR x0 3) (va_cpy (hI h1 (GR x1 3)) (hI h1 (GR x0 3)) (nx ((0 : Int32))) (nx ((0 : Int32))) (nx ((20 : Int32))))) (GR x0 4)) (nx ((0 : Int32))) (nx ((0 : Int32))) (nx ((20 : Int32)))) = h2
  refine x_aload_n hO 1 rfl rfl dX0_copyFrom_60 ?_
  refine x_getR hO fl_RX0_28 hx1 dX0_copyFrom_61 ?_
  refine x_iconst hO (v := 0) (by decide) dX0_copyFrom_64 ?_
  refine x_aload_n hO 0 rfl rfl dX0_copyFrom_65 ?_
  refine x_getR hO fl_RX0_28 hx0 dX0_copyFrom_66 ?_
  refine x_iconst hO (v := 0) (by decide) dX0_copyFrom_69 ?_
  refine x_bipush hO (v := 80) (by decide) dX0_copyFrom_70 ?_
  refine x_copyI hO lc_RX0_31 (gr_0_5 hx1) (gr_0_5 hx0) (Nat.le_of_ble_eq_true rfl) (Nat.le_of_ble_eq_true rfl) dX0_copyFrom_72 ?_
  exact x_vret hO rfl dX0_copyFrom_75 (hR _)
theorem ok_X0_copyFrom (G : Gl) (h : Hp) (x0 : Nat) (x1 : Nat) (hx0 : Is x0 0) (hx1 : Is x1 0) : CN G mX0_copyFrom [.ref (gb G + x0), .ref (gb G + x1)] h ((F_X0_copyFrom h x0 x1).map (emHV)) := CN.fn pn_RX0 (Nat.le_of_ble_eq_true rfl) (fun Γ hG hO => by subst hG; exact go_X0_copyFrom hO h x0 x1 hx0 hx1 (fun _ q => q))
noncomputable def B_X0_joinedFrom_5 (h : Hp) (x0 : Nat) (x1 : Int32) (x2 : Int32) (x3 : Int32) (x4 : Int32) : Option ((Int32 × Int32) ⊕ (Int32)) :=
  if (hI h x0 1) ≤ x4 then some (.inr x3) else gd (ib x4 (LEN (GR x0 3))) (if (hI h (GR x0 3) (nx x4)) = x1 then gd (ib x2 (LEN (GR x0 3))) ((F_X0_joinOf h x0 x4 (hI h (GR x0 3) (nx x2))).bind (fun r1 => if r1 = x2 then some (.inl (x3 + (1 : Int32), x4 + (1 : Int32))) else some (.inl (x3, x4 + (1 : Int32))))) else some (.inl (x3, x4 + (1 : Int32))))
noncomputable def L_X0_joinedFrom_5 (h : Hp) (x0 : Nat) (x1 : Int32) (x2 : Int32) (x3 : Int32) (x4 : Int32) : Option (Int32) := iterW (fun s : Int32 × Int32 => B_X0_joinedFrom_5 h x0 x1 x2 s.1 s.2) (x3, x4)
set_option maxHeartbeats 4000000 in
set_option maxRecDepth 100000 in
theorem go_X0_joinedFrom_B5 {Γ : Cx} (hO : Ok Γ mX0_joinedFrom) (h : Hp) (x0 : Nat) (x1 : Int32) (x2 : Int32) (x3 : Int32) (x4 : Int32) (hx0 : Is x0 0) {K : (Int32 × Int32) ⊕ (Int32) → Prop} (hC : ∀ (x3 : Int32) (x4 : Int32), K (.inl (x3, x4)) → EW Γ mX0_joinedFrom 5 [(0, rf Γ x0), (1, .int x1), (2, .int x2), (3, .int x3), (4, .int x4)] [] h) (hR : ∀ r, K (.inr r) → emPI h r = tgt Γ) : EG Γ mX0_joinedFrom 5 [(0, rf Γ x0), (1, .int x1), (2, .int x2), (3, .int x3), (4, .int x4)] [] h (B_X0_joinedFrom_5 h x0 x1 x2 x3 x4) K := by
  unfold B_X0_joinedFrom_5
  refine x_iload hO 4 rfl dX0_joinedFrom_5 ?_
  refine x_aload_n hO 0 rfl rfl dX0_joinedFrom_7 ?_
  refine x_getI hO fl_RX0_15 hx0 dX0_joinedFrom_8 ?_
  refine x_icmp_ge hO (tg := 50) dX0_joinedFrom_11 (by decide) ?_ ?_
  · refine x_iload_n hO 3 rfl rfl dX0_joinedFrom_50 ?_
    exact x_iret hO rfl dX0_joinedFrom_51 (hR _)
  · refine x_aload_n hO 0 rfl rfl dX0_joinedFrom_14 ?_
    refine x_getR hO fl_RX0_22 hx0 dX0_joinedFrom_15 ?_
    refine x_iload hO 4 rfl dX0_joinedFrom_18 ?_
    refine x_iald hO (gr_0_3 hx0) dX0_joinedFrom_20 ?_
    refine x_iload_n hO 1 rfl rfl dX0_joinedFrom_21 ?_
    refine x_icmp_ne hO (tg := 44) dX0_joinedFrom_22 (by decide) ?_ ?_
    · refine x_iinc hO 4 (v := 1) [(4, .int (x4 + (1 : Int32))), (0, rf Γ x0), (1, .int x1), (2, .int x2), (3, .int x3)] dX0_joinedFrom_44 rfl (by decide) (by decide) rfl ?_
      refine x_goto hO (tg := 5) dX0_joinedFrom_47 (by decide) ?_
      exact x_leafs [1, 2, 3, 4, 0] rfl (hC x3 (x4 + (1 : Int32)))
    · refine x_aload_n hO 0 rfl rfl dX0_joinedFrom_25 ?_
      refine x_iload hO 4 rfl dX0_joinedFrom_26 ?_
      refine x_aload_n hO 0 rfl rfl dX0_joinedFrom_28 ?_
      refine x_getR hO fl_RX0_22 hx0 dX0_joinedFrom_29 ?_
      refine x_iload_n hO 2 rfl rfl dX0_joinedFrom_32 ?_
      refine x_iald hO (gr_0_3 hx0) dX0_joinedFrom_33 ?_
      refine y_PI (x_callV hO lv_RX0_43 hx0 vc_0 (by decide) (As := [.int x4, .int (hI h (GR x0 3) (nx x2))]) rfl (Nat.le_of_ble_eq_true rfl) (ok_X0_joinOf (cG Γ) h x0 x4 (hI h (GR x0 3) (nx x2)) hx0) dX0_joinedFrom_34 rfl (Nat.le_of_ble_eq_true rfl)) (fun r1 => ?_)
      refine x_iload_n hO 2 rfl rfl dX0_joinedFrom_37 ?_
      refine x_icmp_ne hO (tg := 44) dX0_joinedFrom_38 (by decide) ?_ ?_
      · refine x_iinc hO 4 (v := 1) [(4, .int (x4 + (1 : Int32))), (0, rf Γ x0), (1, .int x1), (2, .int x2), (3, .int x3)] dX0_joinedFrom_44 rfl (by decide) (by decide) rfl ?_
        refine x_goto hO (tg := 5) dX0_joinedFrom_47 (by decide) ?_
        exact x_leafs [1, 2, 3, 4, 0] rfl (hC x3 (x4 + (1 : Int32)))
      · refine x_iinc hO 3 (v := 1) [(3, .int (x3 + (1 : Int32))), (0, rf Γ x0), (1, .int x1), (2, .int x2), (4, .int x4)] dX0_joinedFrom_41 rfl (by decide) (by decide) rfl ?_
        refine x_iinc hO 4 (v := 1) [(4, .int (x4 + (1 : Int32))), (3, .int (x3 + (1 : Int32))), (0, rf Γ x0), (1, .int x1), (2, .int x2)] dX0_joinedFrom_44 rfl (by decide) (by decide) rfl ?_
        refine x_goto hO (tg := 5) dX0_joinedFrom_47 (by decide) ?_
        exact x_leafs [2, 3, 4, 1, 0] rfl (hC (x3 + (1 : Int32)) (x4 + (1 : Int32)))
set_option maxHeartbeats 4000000 in
set_option maxRecDepth 100000 in
theorem go_X0_joinedFrom_L5 {Γ : Cx} (hO : Ok Γ mX0_joinedFrom) (h : Hp) (x0 : Nat) (x1 : Int32) (x2 : Int32) (x3 : Int32) (x4 : Int32) (hx0 : Is x0 0) {K : Int32 → Prop} (hR : ∀ r, K (r) → emPI h r = tgt Γ) : EG Γ mX0_joinedFrom 5 [(0, rf Γ x0), (1, .int x1), (2, .int x2), (3, .int x3), (4, .int x4)] [] h (L_X0_joinedFrom_5 h x0 x1 x2 x3 x4) K := by
  have q := x_loop (Γ := Γ) (M := mX0_joinedFrom) (pc := 5) (B := fun s : Int32 × Int32 => B_X0_joinedFrom_5 h x0 x1 x2 s.1 s.2) (lvf := fun s => [(0, rf Γ x0), (1, .int x1), (2, .int x2), (3, .int s.1), (4, .int s.2)]) (hf := fun s => h) (Ky := K) (fun s => go_X0_joinedFrom_B5 hO h x0 x1 x2 s.1 s.2 hx0 (fun _ _ => id) hR) (x3, x4)
  exact q
noncomputable def F_X0_joinedFrom (h : Hp) (x0 : Nat) (x1 : Int32) (x2 : Int32) : Option (Int32) :=
  L_X0_joinedFrom_5 h x0 x1 x2 ((0 : Int32)) ((0 : Int32))
set_option maxHeartbeats 4000000 in
set_option maxRecDepth 100000 in
theorem go_X0_joinedFrom {Γ : Cx} (hO : Ok Γ mX0_joinedFrom) (h : Hp) (x0 : Nat) (x1 : Int32) (x2 : Int32) (hx0 : Is x0 0) {K : Int32 → Prop} (hR : ∀ r, K r → emPI h r = tgt Γ) : EG Γ mX0_joinedFrom 0 [(0, rf Γ x0), (1, .int x1), (2, .int x2)] [] h (F_X0_joinedFrom h x0 x1 x2) K := by
  unfold F_X0_joinedFrom
  refine x_iconst hO (v := 0) (by decide) dX0_joinedFrom_0 ?_
  refine x_istore_n hO rfl [(3, .int ((0 : Int32))), (0, rf Γ x0), (1, .int x1), (2, .int x2)] dX0_joinedFrom_1 (by decide) rfl ?_
  refine x_iconst hO (v := 0) (by decide) dX0_joinedFrom_2 ?_
  refine x_istore hO [(4, .int ((0 : Int32))), (3, .int ((0 : Int32))), (0, rf Γ x0), (1, .int x1), (2, .int x2)] dX0_joinedFrom_3 (by decide) rfl ?_
  exact x_sub [2, 3, 4, 1, 0] rfl (go_X0_joinedFrom_L5 hO h x0 x1 x2 ((0 : Int32)) ((0 : Int32)) hx0 hR)
theorem ok_X0_joinedFrom (G : Gl) (h : Hp) (x0 : Nat) (x1 : Int32) (x2 : Int32) (hx0 : Is x0 0) : CN G mX0_joinedFrom [.ref (gb G + x0), .int x1, .int x2] h ((F_X0_joinedFrom h x0 x1 x2).map (emPI h)) := CN.fn pn_RX0 (Nat.le_of_ble_eq_true rfl) (fun Γ hG hO => by subst hG; exact go_X0_joinedFrom hO h x0 x1 x2 hx0 (fun _ q => q))
noncomputable def F_X10_makeNew (h : Hp) (x0 : Nat) (x1 : Int32) (x2 : Int32) : Option (Hp) :=
  (F_J7_fill_d0a16 (uI (uI (uI h x0 0 ((0 : Int32))) x0 1 x1) x0 2 x2) (GR x0 3) ((0 : Int64))).bind (fun r1 => some r1)
set_option maxHeartbeats 4000000 in
set_option maxRecDepth 100000 in
theorem go_X10_makeNew {Γ : Cx} (hO : Ok Γ mX10_makeNew) (h : Hp) (x0 : Nat) (x1 : Int32) (x2 : Int32) (hx0 : Is x0 10) {K : Hp → Prop} (hR : ∀ r, K r → emHV r = tgt Γ) : EG Γ mX10_makeNew 0 [(0, rf Γ x0), (1, .int x1), (2, .int x2)] [] h (F_X10_makeNew h x0 x1 x2) K := by
  unfold F_X10_makeNew
  refine x_aload_n hO 0 rfl rfl dX10_makeNew_0 ?_
  refine x_iconst hO (v := 0) (by decide) dX10_makeNew_1 ?_
  refine x_putZ hO (by decide) fl_RX10_9 hx0 dX10_makeNew_2 ?_
  refine x_aload_n hO 0 rfl rfl dX10_makeNew_5 ?_
  refine x_iload_n hO 1 rfl rfl dX10_makeNew_6 ?_
  refine x_putI hO fl_RX10_15 hx0 dX10_makeNew_7 ?_
  refine x_aload_n hO 0 rfl rfl dX10_makeNew_10 ?_
  refine x_iload_n hO 2 rfl rfl dX10_makeNew_11 ?_
  refine x_putI hO fl_RX10_19 hx0 dX10_makeNew_12 ?_
  refine x_aload_n hO 0 rfl rfl dX10_makeNew_15 ?_
  refine x_getR hO fl_RX10_22 hx0 dX10_makeNew_16 ?_
  refine x_lconst hO (v := 0) (by decide) dX10_makeNew_19 ?_
  refine y_HV (x_callS hO lt_RX10_26 (As := [rf Γ (GR x0 3), .long ((0 : Int64))]) rfl (Nat.le_of_ble_eq_true rfl) (ok_J7_fill_d0a16 (cG Γ) (uI (uI (uI h x0 0 ((0 : Int32))) x0 1 x1) x0 2 x2) (GR x0 3) ((0 : Int64)) (gr_10_3 hx0)) dX10_makeNew_20 rfl (Nat.le_of_ble_eq_true rfl)) (fun r1 => ?_)
  exact x_vret hO rfl dX10_makeNew_23 (hR _)
theorem ok_X10_makeNew (G : Gl) (h : Hp) (x0 : Nat) (x1 : Int32) (x2 : Int32) (hx0 : Is x0 10) : CN G mX10_makeNew [.ref (gb G + x0), .int x1, .int x2] h ((F_X10_makeNew h x0 x1 x2).map (emHV)) := CN.fn pn_RX10 (Nat.le_of_ble_eq_true rfl) (fun Γ hG hO => by subst hG; exact go_X10_makeNew hO h x0 x1 x2 hx0 (fun _ q => q))
noncomputable def F_X10_put (h : Hp) (x0 : Nat) (x1 : Int32) (x2 : Int64) : Option (Hp) :=
  (F_X10_cut h x0 x2).bind (fun r1 => gd (ib x1 (LEN (GR x0 3))) (some (uL h (GR x0 3) (nx x1) r1)))
set_option maxHeartbeats 4000000 in
set_option maxRecDepth 100000 in
theorem go_X10_put {Γ : Cx} (hO : Ok Γ mX10_put) (h : Hp) (x0 : Nat) (x1 : Int32) (x2 : Int64) (hx0 : Is x0 10) {K : Hp → Prop} (hR : ∀ r, K r → emHV r = tgt Γ) : EG Γ mX10_put 0 [(0, rf Γ x0), (1, .int x1), (2, .long x2)] [] h (F_X10_put h x0 x1 x2) K := by
  unfold F_X10_put
  refine x_aload_n hO 0 rfl rfl dX10_put_0 ?_
  refine x_getR hO fl_RX10_22 hx0 dX10_put_1 ?_
  refine x_iload_n hO 1 rfl rfl dX10_put_4 ?_
  refine x_aload_n hO 0 rfl rfl dX10_put_5 ?_
  refine x_lload_n hO 2 rfl rfl dX10_put_6 ?_
  refine y_PL (x_callV hO lv_RX10_32 hx0 vc_10 (by decide) (As := [.long x2]) rfl (Nat.le_of_ble_eq_true rfl) (ok_X10_cut (cG Γ) h x0 x2 hx0) dX10_put_7 rfl (Nat.le_of_ble_eq_true rfl)) (fun r1 => ?_)
  refine x_last hO (gr_10_3 hx0) dX10_put_10 ?_
  exact x_vret hO rfl dX10_put_11 (hR _)
theorem ok_X10_put (G : Gl) (h : Hp) (x0 : Nat) (x1 : Int32) (x2 : Int64) (hx0 : Is x0 10) : CN G mX10_put [.ref (gb G + x0), .int x1, .long x2] h ((F_X10_put h x0 x1 x2).map (emHV)) := CN.fn pn_RX10 (Nat.le_of_ble_eq_true rfl) (fun Γ hG hO => by subst hG; exact go_X10_put hO h x0 x1 x2 hx0 (fun _ q => q))
noncomputable def F_X11_anew (h : Hp) (x0 : Nat) (x1 : Int32) : Option (Hp × Int32) :=
  (F_X2_isCard h (GR x0 2) x1).bind (fun r1 => if r1 = 0 then (F_X11_refuse h x0 ((1 : Int32))).bind (fun r3 => some ((r3.1, r3.2))) else gd (ib x1 (LEN (GR (GR x0 2) 6))) (gd (ib x1 (LEN (GR (GR x0 2) 6))) ((F_X11_answer (uI h (GR (GR x0 2) 6) (nx x1) ((0 : Int32))) x0 (hI h (GR (GR x0 2) 6) (nx x1))).bind (fun r2 => some ((r2.1, r2.2))))))
set_option maxHeartbeats 4000000 in
set_option maxRecDepth 100000 in
theorem go_X11_anew {Γ : Cx} (hO : Ok Γ mX11_anew) (h : Hp) (x0 : Nat) (x1 : Int32) (hx0 : Is x0 11) {K : Hp × Int32 → Prop} (hR : ∀ r, K r → emHI r = tgt Γ) : EG Γ mX11_anew 0 [(0, rf Γ x0), (1, .int x1)] [] h (F_X11_anew h x0 x1) K := by
  unfold F_X11_anew
  refine x_aload_n hO 0 rfl rfl dX11_anew_0 ?_
  refine x_getR hO fl_RX11_22 hx0 dX11_anew_1 ?_
  refine x_iload_n hO 1 rfl rfl dX11_anew_4 ?_
  refine y_PI (x_callV hO lv_RX11_160 (gr_11_2 hx0) vc_2 (by decide) (As := [.int x1]) rfl (Nat.le_of_ble_eq_true rfl) (ok_X2_isCard (cG Γ) h (GR x0 2) x1 (gr_11_2 hx0)) dX11_anew_5 rfl (Nat.le_of_ble_eq_true rfl)) (fun r1 => ?_)
  refine x_if_ne hO (tg := 17) dX11_anew_8 (by decide) ?_ ?_
  · refine x_aload_n hO 0 rfl rfl dX11_anew_17 ?_
    refine x_getR hO fl_RX11_22 hx0 dX11_anew_18 ?_
    refine x_getR hO fl_RX11_182 (gr_11_2 hx0) dX11_anew_21 ?_
    refine x_iload_n hO 1 rfl rfl dX11_anew_24 ?_
    refine x_iald hO (gr_2_6 (gr_11_2 hx0)) dX11_anew_25 ?_
    refine x_istore_n hO rfl [(2, .int (hI h (GR (GR x0 2) 6) (nx x1))), (0, rf Γ x0), (1, .int x1)] dX11_anew_26 (by decide) rfl ?_
    refine x_aload_n hO 1 rfl rfl dX11_anew_27 ?_
    refine x_getR hO fl_RX11_22 hx0 dX11_anew_28 ?_
    refine x_getR hO fl_RX11_182 (gr_11_2 hx0) dX11_anew_31 ?_
    refine x_iload_n hO 2 rfl rfl dX11_anew_34 ?_
    refine x_iconst hO (v := 0) (by decide) dX11_anew_35 ?_
    refine x_iast hO (gr_2_6 (gr_11_2 hx0)) dX11_anew_36 ?_
    refine x_aload_n hO 1 rfl rfl dX11_anew_37 ?_
    refine x_iload_n hO 0 rfl rfl dX11_anew_38 ?_
    refine y_HI (x_callV hO lv_RX11_157 hx0 vc_11 (by decide) (As := [.int (hI h (GR (GR x0 2) 6) (nx x1))]) rfl (Nat.le_of_ble_eq_true rfl) (ok_X11_answer (cG Γ) (uI h (GR (GR x0 2) 6) (nx x1) ((0 : Int32))) x0 (hI h (GR (GR x0 2) 6) (nx x1)) hx0) dX11_anew_39 rfl (Nat.le_of_ble_eq_true rfl)) (fun r2 => ?_)
    exact x_iret hO rfl dX11_anew_42 (hR _)
  · refine x_aload_n hO 0 rfl rfl dX11_anew_11 ?_
    refine x_iconst hO (v := 1) (by decide) dX11_anew_12 ?_
    refine y_HI (x_callV hO lv_RX11_119 hx0 vc_11 (by decide) (As := [.int ((1 : Int32))]) rfl (Nat.le_of_ble_eq_true rfl) (ok_X11_refuse (cG Γ) h x0 ((1 : Int32)) hx0) dX11_anew_13 rfl (Nat.le_of_ble_eq_true rfl)) (fun r3 => ?_)
    exact x_iret hO rfl dX11_anew_16 (hR _)
theorem ok_X11_anew (G : Gl) (h : Hp) (x0 : Nat) (x1 : Int32) (hx0 : Is x0 11) : CN G mX11_anew [.ref (gb G + x0), .int x1] h ((F_X11_anew h x0 x1).map (emHI)) := CN.fn pn_RX11 (Nat.le_of_ble_eq_true rfl) (fun Γ hG hO => by subst hG; exact go_X11_anew hO h x0 x1 hx0 (fun _ q => q))
noncomputable def F_X11_card (h : Hp) (x0 : Nat) (x1 : Int32) (x2 : Int32) : Option (Hp × Int32) :=
  (F_X2_isCard h (GR x0 2) x1).bind (fun r1 => if r1 = 0 then (F_X11_refuse h x0 ((1 : Int32))).bind (fun r2 => some ((r2.1, r2.2))) else if x2 < 0 then (F_X11_refuse h x0 ((1 : Int32))).bind (fun r3 => some ((r3.1, r3.2))) else if x2 ≤ ((19 : Int32)) then if ((8 : Int32)) ≤ x2 then if ((16 : Int32)) ≤ x2 then swt (x2 - ((16 : Int32))) 0 [gd (ib x1 (LEN (GR (GR x0 2) 4))) ((F_X11_answer h x0 (hI h (GR (GR x0 2) 4) (nx x1))).bind (fun r4 => some ((r4.1, r4.2)))), gd (ib x1 (LEN (GR (GR x0 2) 5))) (if (hI h (GR (GR x0 2) 5) (nx x1)) = ((-1 : Int32)) then (F_X11_refuse h x0 ((6 : Int32))).bind (fun r6 => some ((r6.1, r6.2))) else gd (ib x1 (LEN (GR (GR x0 2) 5))) ((F_X11_answer h x0 (hI h (GR (GR x0 2) 5) (nx x1))).bind (fun r5 => some ((r5.1, r5.2))))), gd (ib x1 (LEN (GR (GR x0 2) 6))) ((F_X11_answer h x0 (hI h (GR (GR x0 2) 6) (nx x1))).bind (fun r7 => some ((r7.1, r7.2))))] ((F_X2_placeOf h (GR x0 2) x1).bind (fun r8 => (F_X11_answer h x0 r8).bind (fun r9 => some ((r9.1, r9.2))))) else (F_X2_reading h (GR x0 2) x1 (x2 - ((8 : Int32)))).bind (fun r10 => (F_X11_answer h x0 r10).bind (fun r11 => some ((r11.1, r11.2)))) else (F_X2_holesOf h (GR x0 2) x1 x2).bind (fun r12 => (F_X11_answer h x0 r12).bind (fun r13 => some ((r13.1, r13.2)))) else (F_X11_refuse h x0 ((1 : Int32))).bind (fun r14 => some ((r14.1, r14.2))))
set_option maxHeartbeats 4000000 in
set_option maxRecDepth 100000 in
theorem go_X11_card {Γ : Cx} (hO : Ok Γ mX11_card) (h : Hp) (x0 : Nat) (x1 : Int32) (x2 : Int32) (hx0 : Is x0 11) {K : Hp × Int32 → Prop} (hR : ∀ r, K r → emHI r = tgt Γ) : EG Γ mX11_card 0 [(0, rf Γ x0), (1, .int x1), (2, .int x2)] [] h (F_X11_card h x0 x1 x2) K := by
  unfold F_X11_card
  refine x_aload_n hO 0 rfl rfl dX11_card_0 ?_
  refine x_getR hO fl_RX11_22 hx0 dX11_card_1 ?_
  refine x_iload_n hO 1 rfl rfl dX11_card_4 ?_
  refine y_PI (x_callV hO lv_RX11_160 (gr_11_2 hx0) vc_2 (by decide) (As := [.int x1]) rfl (Nat.le_of_ble_eq_true rfl) (ok_X2_isCard (cG Γ) h (GR x0 2) x1 (gr_11_2 hx0)) dX11_card_5 rfl (Nat.le_of_ble_eq_true rfl)) (fun r1 => ?_)
  refine x_if_eq hO (tg := 21) dX11_card_8 (by decide) ?_ ?_
  · refine x_aload_n hO 0 rfl rfl dX11_card_21 ?_
    refine x_iconst hO (v := 1) (by decide) dX11_card_22 ?_
    refine y_HI (x_callV hO lv_RX11_119 hx0 vc_11 (by decide) (As := [.int ((1 : Int32))]) rfl (Nat.le_of_ble_eq_true rfl) (ok_X11_refuse (cG Γ) h x0 ((1 : Int32)) hx0) dX11_card_23 rfl (Nat.le_of_ble_eq_true rfl)) (fun r2 => ?_)
    exact x_iret hO rfl dX11_card_26 (hR _)
  · refine x_iload_n hO 2 rfl rfl dX11_card_11 ?_
    refine x_if_lt hO (tg := 21) dX11_card_12 (by decide) ?_ ?_
    · refine x_aload_n hO 0 rfl rfl dX11_card_21 ?_
      refine x_iconst hO (v := 1) (by decide) dX11_card_22 ?_
      refine y_HI (x_callV hO lv_RX11_119 hx0 vc_11 (by decide) (As := [.int ((1 : Int32))]) rfl (Nat.le_of_ble_eq_true rfl) (ok_X11_refuse (cG Γ) h x0 ((1 : Int32)) hx0) dX11_card_23 rfl (Nat.le_of_ble_eq_true rfl)) (fun r3 => ?_)
      exact x_iret hO rfl dX11_card_26 (hR _)
    · refine x_iload_n hO 2 rfl rfl dX11_card_15 ?_
      refine x_bipush hO (v := 19) (by decide) dX11_card_16 ?_
      refine x_icmp_le hO (tg := 27) dX11_card_18 (by decide) ?_ ?_
      · refine x_iload_n hO 2 rfl rfl dX11_card_27 ?_
        refine x_bipush hO (v := 8) (by decide) dX11_card_28 ?_
        refine x_icmp_ge hO (tg := 47) dX11_card_30 (by decide) ?_ ?_
        · refine x_iload_n hO 2 rfl rfl dX11_card_47 ?_
          refine x_bipush hO (v := 16) (by decide) dX11_card_48 ?_
          refine x_icmp_ge hO (tg := 70) dX11_card_50 (by decide) ?_ ?_
          · refine x_iload_n hO 2 rfl rfl dX11_card_70 ?_
            refine x_bipush hO (v := 16) (by decide) dX11_card_71 ?_
            refine x_isub hO dX11_card_73 ?_
            refine x_tsw hO (tgs := [100, 114, 150]) (dt := 164) dX11_card_74 rfl (by decide) (by decide) ⟨?_, ?_, ?_, trivial⟩ ?_
            · refine x_aload_n hO 0 rfl rfl dX11_card_100 ?_
              refine x_aload_n hO 0 rfl rfl dX11_card_101 ?_
              refine x_getR hO fl_RX11_22 hx0 dX11_card_102 ?_
              refine x_getR hO fl_RX11_176 (gr_11_2 hx0) dX11_card_105 ?_
              refine x_iload_n hO 1 rfl rfl dX11_card_108 ?_
              refine x_iald hO (gr_2_4 (gr_11_2 hx0)) dX11_card_109 ?_
              refine y_HI (x_callV hO lv_RX11_157 hx0 vc_11 (by decide) (As := [.int (hI h (GR (GR x0 2) 4) (nx x1))]) rfl (Nat.le_of_ble_eq_true rfl) (ok_X11_answer (cG Γ) h x0 (hI h (GR (GR x0 2) 4) (nx x1)) hx0) dX11_card_110 rfl (Nat.le_of_ble_eq_true rfl)) (fun r4 => ?_)
              exact x_iret hO rfl dX11_card_113 (hR _)
            · refine x_aload_n hO 0 rfl rfl dX11_card_114 ?_
              refine x_getR hO fl_RX11_22 hx0 dX11_card_115 ?_
              refine x_getR hO fl_RX11_179 (gr_11_2 hx0) dX11_card_118 ?_
              refine x_iload_n hO 1 rfl rfl dX11_card_121 ?_
              refine x_iald hO (gr_2_5 (gr_11_2 hx0)) dX11_card_122 ?_
              refine x_iconst hO (v := -1) (by decide) dX11_card_123 ?_
              refine x_icmp_ne hO (tg := 136) dX11_card_124 (by decide) ?_ ?_
              · refine x_aload_n hO 0 rfl rfl dX11_card_136 ?_
                refine x_aload_n hO 0 rfl rfl dX11_card_137 ?_
                refine x_getR hO fl_RX11_22 hx0 dX11_card_138 ?_
                refine x_getR hO fl_RX11_179 (gr_11_2 hx0) dX11_card_141 ?_
                refine x_iload_n hO 1 rfl rfl dX11_card_144 ?_
                refine x_iald hO (gr_2_5 (gr_11_2 hx0)) dX11_card_145 ?_
                refine y_HI (x_callV hO lv_RX11_157 hx0 vc_11 (by decide) (As := [.int (hI h (GR (GR x0 2) 5) (nx x1))]) rfl (Nat.le_of_ble_eq_true rfl) (ok_X11_answer (cG Γ) h x0 (hI h (GR (GR x0 2) 5) (nx x1)) hx0) dX11_card_146 rfl (Nat.le_of_ble_eq_true rfl)) (fun r5 => ?_)
                exact x_iret hO rfl dX11_card_149 (hR _)
              · refine x_aload_n hO 0 rfl rfl dX11_card_127 ?_
                refine x_bipush hO (v := 6) (by decide) dX11_card_128 ?_
                refine y_HI (x_callV hO lv_RX11_119 hx0 vc_11 (by decide) (As := [.int ((6 : Int32))]) rfl (Nat.le_of_ble_eq_true rfl) (ok_X11_refuse (cG Γ) h x0 ((6 : Int32)) hx0) dX11_card_130 rfl (Nat.le_of_ble_eq_true rfl)) (fun r6 => ?_)
                refine x_goto hO (tg := 149) dX11_card_133 (by decide) ?_
                exact x_iret hO rfl dX11_card_149 (hR _)
            · refine x_aload_n hO 0 rfl rfl dX11_card_150 ?_
              refine x_aload_n hO 0 rfl rfl dX11_card_151 ?_
              refine x_getR hO fl_RX11_22 hx0 dX11_card_152 ?_
              refine x_getR hO fl_RX11_182 (gr_11_2 hx0) dX11_card_155 ?_
              refine x_iload_n hO 1 rfl rfl dX11_card_158 ?_
              refine x_iald hO (gr_2_6 (gr_11_2 hx0)) dX11_card_159 ?_
              refine y_HI (x_callV hO lv_RX11_157 hx0 vc_11 (by decide) (As := [.int (hI h (GR (GR x0 2) 6) (nx x1))]) rfl (Nat.le_of_ble_eq_true rfl) (ok_X11_answer (cG Γ) h x0 (hI h (GR (GR x0 2) 6) (nx x1)) hx0) dX11_card_160 rfl (Nat.le_of_ble_eq_true rfl)) (fun r7 => ?_)
              exact x_iret hO rfl dX11_card_163 (hR _)
            · refine x_aload_n hO 0 rfl rfl dX11_card_164 ?_
              refine x_aload_n hO 0 rfl rfl dX11_card_165 ?_
              refine x_getR hO fl_RX11_22 hx0 dX11_card_166 ?_
              refine x_iload_n hO 1 rfl rfl dX11_card_169 ?_
              refine y_PI (x_callV hO lv_RX11_185 (gr_11_2 hx0) vc_2 (by decide) (As := [.int x1]) rfl (Nat.le_of_ble_eq_true rfl) (ok_X2_placeOf (cG Γ) h (GR x0 2) x1 (gr_11_2 hx0)) dX11_card_170 rfl (Nat.le_of_ble_eq_true rfl)) (fun r8 => ?_)
              refine y_HI (x_callV hO lv_RX11_157 hx0 vc_11 (by decide) (As := [.int r8]) rfl (Nat.le_of_ble_eq_true rfl) (ok_X11_answer (cG Γ) h x0 r8 hx0) dX11_card_173 rfl (Nat.le_of_ble_eq_true rfl)) (fun r9 => ?_)
              exact x_iret hO rfl dX11_card_176 (hR _)
          · refine x_aload_n hO 0 rfl rfl dX11_card_53 ?_
            refine x_aload_n hO 0 rfl rfl dX11_card_54 ?_
            refine x_getR hO fl_RX11_22 hx0 dX11_card_55 ?_
            refine x_iload_n hO 1 rfl rfl dX11_card_58 ?_
            refine x_iload_n hO 2 rfl rfl dX11_card_59 ?_
            refine x_bipush hO (v := 8) (by decide) dX11_card_60 ?_
            refine x_isub hO dX11_card_62 ?_
            refine y_PI (x_callV hO lv_RX11_173 (gr_11_2 hx0) vc_2 (by decide) (As := [.int x1, .int (x2 - ((8 : Int32)))]) rfl (Nat.le_of_ble_eq_true rfl) (ok_X2_reading (cG Γ) h (GR x0 2) x1 (x2 - ((8 : Int32))) (gr_11_2 hx0)) dX11_card_63 rfl (Nat.le_of_ble_eq_true rfl)) (fun r10 => ?_)
            refine y_HI (x_callV hO lv_RX11_157 hx0 vc_11 (by decide) (As := [.int r10]) rfl (Nat.le_of_ble_eq_true rfl) (ok_X11_answer (cG Γ) h x0 r10 hx0) dX11_card_66 rfl (Nat.le_of_ble_eq_true rfl)) (fun r11 => ?_)
            exact x_iret hO rfl dX11_card_69 (hR _)
        · refine x_aload_n hO 0 rfl rfl dX11_card_33 ?_
          refine x_aload_n hO 0 rfl rfl dX11_card_34 ?_
          refine x_getR hO fl_RX11_22 hx0 dX11_card_35 ?_
          refine x_iload_n hO 1 rfl rfl dX11_card_38 ?_
          refine x_iload_n hO 2 rfl rfl dX11_card_39 ?_
          refine y_PI (x_callV hO lv_RX11_170 (gr_11_2 hx0) vc_2 (by decide) (As := [.int x1, .int x2]) rfl (Nat.le_of_ble_eq_true rfl) (ok_X2_holesOf (cG Γ) h (GR x0 2) x1 x2 (gr_11_2 hx0)) dX11_card_40 rfl (Nat.le_of_ble_eq_true rfl)) (fun r12 => ?_)
          refine y_HI (x_callV hO lv_RX11_157 hx0 vc_11 (by decide) (As := [.int r12]) rfl (Nat.le_of_ble_eq_true rfl) (ok_X11_answer (cG Γ) h x0 r12 hx0) dX11_card_43 rfl (Nat.le_of_ble_eq_true rfl)) (fun r13 => ?_)
          exact x_iret hO rfl dX11_card_46 (hR _)
      · refine x_aload_n hO 0 rfl rfl dX11_card_21 ?_
        refine x_iconst hO (v := 1) (by decide) dX11_card_22 ?_
        refine y_HI (x_callV hO lv_RX11_119 hx0 vc_11 (by decide) (As := [.int ((1 : Int32))]) rfl (Nat.le_of_ble_eq_true rfl) (ok_X11_refuse (cG Γ) h x0 ((1 : Int32)) hx0) dX11_card_23 rfl (Nat.le_of_ble_eq_true rfl)) (fun r14 => ?_)
        exact x_iret hO rfl dX11_card_26 (hR _)
theorem ok_X11_card (G : Gl) (h : Hp) (x0 : Nat) (x1 : Int32) (x2 : Int32) (hx0 : Is x0 11) : CN G mX11_card [.ref (gb G + x0), .int x1, .int x2] h ((F_X11_card h x0 x1 x2).map (emHI)) := CN.fn pn_RX11 (Nat.le_of_ble_eq_true rfl) (fun Γ hG hO => by subst hG; exact go_X11_card hO h x0 x1 x2 hx0 (fun _ q => q))
noncomputable def F_X11_code (h : Hp) (x0 : Nat) (x1 : Int32) (x2 : Int32) : Option (Hp × Int32) :=
  (F_X0_isCode h (GR (GR x0 2) 8) x1).bind (fun r1 => if r1 = 0 then (F_X11_refuse h x0 ((1 : Int32))).bind (fun r2 => some ((r2.1, r2.2))) else if x2 < 0 then (F_X11_refuse h x0 ((1 : Int32))).bind (fun r3 => some ((r3.1, r3.2))) else if x2 ≤ ((2 : Int32)) then if x2 = 0 then gd (ib x1 (LEN (GR (GR (GR x0 2) 8) 2))) ((F_X11_answer h x0 (hI h (GR (GR (GR x0 2) 8) 2) (nx x1))).bind (fun r9 => some ((r9.1, r9.2)))) else if x2 = ((2 : Int32)) then (F_X0_meansOf h (GR (GR x0 2) 8) x1).bind (fun r7 => (F_X11_answer h x0 r7).bind (fun r8 => some ((r8.1, r8.2)))) else (F_X0_firstMeanOf h (GR (GR x0 2) 8) x1).bind (fun r4 => if r4 = ((-1 : Int32)) then (F_X11_refuse h x0 ((6 : Int32))).bind (fun r6 => some ((r6.1, r6.2))) else (F_X11_answer h x0 r4).bind (fun r5 => some ((r5.1, r5.2)))) else (F_X11_refuse h x0 ((1 : Int32))).bind (fun r10 => some ((r10.1, r10.2))))
set_option maxHeartbeats 4000000 in
set_option maxRecDepth 100000 in
theorem go_X11_code {Γ : Cx} (hO : Ok Γ mX11_code) (h : Hp) (x0 : Nat) (x1 : Int32) (x2 : Int32) (hx0 : Is x0 11) {K : Hp × Int32 → Prop} (hR : ∀ r, K r → emHI r = tgt Γ) : EG Γ mX11_code 0 [(0, rf Γ x0), (1, .int x1), (2, .int x2)] [] h (F_X11_code h x0 x1 x2) K := by
  unfold F_X11_code
  refine x_aload_n hO 0 rfl rfl dX11_code_0 ?_
  refine x_getR hO fl_RX11_22 hx0 dX11_code_1 ?_
  refine x_getR hO fl_RX11_207 (gr_11_2 hx0) dX11_code_4 ?_
  refine x_astore_n hO rfl [(3, rf Γ (GR (GR x0 2) 8)), (0, rf Γ x0), (1, .int x1), (2, .int x2)] dX11_code_7 (by decide) rfl ?_
  refine x_aload_n hO 0 rfl rfl dX11_code_8 ?_
  refine x_iload_n hO 2 rfl rfl dX11_code_9 ?_
  refine y_PI (x_callV hO lv_RX11_227 (gr_2_8 (gr_11_2 hx0)) vc_0 (by decide) (As := [.int x1]) rfl (Nat.le_of_ble_eq_true rfl) (ok_X0_isCode (cG Γ) h (GR (GR x0 2) 8) x1 (gr_2_8 (gr_11_2 hx0))) dX11_code_10 rfl (Nat.le_of_ble_eq_true rfl)) (fun r1 => ?_)
  refine x_if_eq hO (tg := 25) dX11_code_13 (by decide) ?_ ?_
  · refine x_aload_n hO 1 rfl rfl dX11_code_25 ?_
    refine x_iconst hO (v := 1) (by decide) dX11_code_26 ?_
    refine y_HI (x_callV hO lv_RX11_119 hx0 vc_11 (by decide) (As := [.int ((1 : Int32))]) rfl (Nat.le_of_ble_eq_true rfl) (ok_X11_refuse (cG Γ) h x0 ((1 : Int32)) hx0) dX11_code_27 rfl (Nat.le_of_ble_eq_true rfl)) (fun r2 => ?_)
    exact x_iret hO rfl dX11_code_30 (hR _)
  · refine x_iload_n hO 3 rfl rfl dX11_code_16 ?_
    refine x_if_lt hO (tg := 25) dX11_code_17 (by decide) ?_ ?_
    · refine x_aload_n hO 1 rfl rfl dX11_code_25 ?_
      refine x_iconst hO (v := 1) (by decide) dX11_code_26 ?_
      refine y_HI (x_callV hO lv_RX11_119 hx0 vc_11 (by decide) (As := [.int ((1 : Int32))]) rfl (Nat.le_of_ble_eq_true rfl) (ok_X11_refuse (cG Γ) h x0 ((1 : Int32)) hx0) dX11_code_27 rfl (Nat.le_of_ble_eq_true rfl)) (fun r3 => ?_)
      exact x_iret hO rfl dX11_code_30 (hR _)
    · refine x_iload_n hO 3 rfl rfl dX11_code_20 ?_
      refine x_iconst hO (v := 2) (by decide) dX11_code_21 ?_
      refine x_icmp_le hO (tg := 31) dX11_code_22 (by decide) ?_ ?_
      · refine x_iload_n hO 3 rfl rfl dX11_code_31 ?_
        refine x_if_ne hO (tg := 46) dX11_code_32 (by decide) ?_ ?_
        · refine x_iload_n hO 3 rfl rfl dX11_code_46 ?_
          refine x_iconst hO (v := 2) (by decide) dX11_code_47 ?_
          refine x_icmp_ne hO (tg := 61) dX11_code_48 (by decide) ?_ ?_
          · refine x_aload_n hO 0 rfl rfl dX11_code_61 ?_
            refine x_iload_n hO 2 rfl rfl dX11_code_62 ?_
            refine y_PI (x_callV hO lv_RX11_236 (gr_2_8 (gr_11_2 hx0)) vc_0 (by decide) (As := [.int x1]) rfl (Nat.le_of_ble_eq_true rfl) (ok_X0_firstMeanOf (cG Γ) h (GR (GR x0 2) 8) x1 (gr_2_8 (gr_11_2 hx0))) dX11_code_63 rfl (Nat.le_of_ble_eq_true rfl)) (fun r4 => ?_)
            refine x_istore hO [(4, .int r4), (3, rf Γ (GR (GR x0 2) 8)), (0, rf Γ x0), (1, .int x1), (2, .int x2)] dX11_code_66 (by decide) rfl ?_
            refine x_iload hO 0 rfl dX11_code_68 ?_
            refine x_iconst hO (v := -1) (by decide) dX11_code_70 ?_
            refine x_icmp_ne hO (tg := 83) dX11_code_71 (by decide) ?_ ?_
            · refine x_aload_n hO 2 rfl rfl dX11_code_83 ?_
              refine x_iload hO 0 rfl dX11_code_84 ?_
              refine y_HI (x_callV hO lv_RX11_157 hx0 vc_11 (by decide) (As := [.int r4]) rfl (Nat.le_of_ble_eq_true rfl) (ok_X11_answer (cG Γ) h x0 r4 hx0) dX11_code_86 rfl (Nat.le_of_ble_eq_true rfl)) (fun r5 => ?_)
              exact x_iret hO rfl dX11_code_89 (hR _)
            · refine x_aload_n hO 2 rfl rfl dX11_code_74 ?_
              refine x_bipush hO (v := 6) (by decide) dX11_code_75 ?_
              refine y_HI (x_callV hO lv_RX11_119 hx0 vc_11 (by decide) (As := [.int ((6 : Int32))]) rfl (Nat.le_of_ble_eq_true rfl) (ok_X11_refuse (cG Γ) h x0 ((6 : Int32)) hx0) dX11_code_77 rfl (Nat.le_of_ble_eq_true rfl)) (fun r6 => ?_)
              refine x_goto hO (tg := 89) dX11_code_80 (by decide) ?_
              exact x_iret hO rfl dX11_code_89 (hR _)
          · refine x_aload_n hO 1 rfl rfl dX11_code_51 ?_
            refine x_aload_n hO 0 rfl rfl dX11_code_52 ?_
            refine x_iload_n hO 2 rfl rfl dX11_code_53 ?_
            refine y_PI (x_callV hO lv_RX11_233 (gr_2_8 (gr_11_2 hx0)) vc_0 (by decide) (As := [.int x1]) rfl (Nat.le_of_ble_eq_true rfl) (ok_X0_meansOf (cG Γ) h (GR (GR x0 2) 8) x1 (gr_2_8 (gr_11_2 hx0))) dX11_code_54 rfl (Nat.le_of_ble_eq_true rfl)) (fun r7 => ?_)
            refine y_HI (x_callV hO lv_RX11_157 hx0 vc_11 (by decide) (As := [.int r7]) rfl (Nat.le_of_ble_eq_true rfl) (ok_X11_answer (cG Γ) h x0 r7 hx0) dX11_code_57 rfl (Nat.le_of_ble_eq_true rfl)) (fun r8 => ?_)
            exact x_iret hO rfl dX11_code_60 (hR _)
        · refine x_aload_n hO 1 rfl rfl dX11_code_35 ?_
          refine x_aload_n hO 0 rfl rfl dX11_code_36 ?_
          refine x_getR hO fl_RX11_230 (gr_2_8 (gr_11_2 hx0)) dX11_code_37 ?_
          refine x_iload_n hO 2 rfl rfl dX11_code_40 ?_
          refine x_iald hO (gr_0_2 (gr_2_8 (gr_11_2 hx0))) dX11_code_41 ?_
          refine y_HI (x_callV hO lv_RX11_157 hx0 vc_11 (by decide) (As := [.int (hI h (GR (GR (GR x0 2) 8) 2) (nx x1))]) rfl (Nat.le_of_ble_eq_true rfl) (ok_X11_answer (cG Γ) h x0 (hI h (GR (GR (GR x0 2) 8) 2) (nx x1)) hx0) dX11_code_42 rfl (Nat.le_of_ble_eq_true rfl)) (fun r9 => ?_)
          exact x_iret hO rfl dX11_code_45 (hR _)
      · refine x_aload_n hO 1 rfl rfl dX11_code_25 ?_
        refine x_iconst hO (v := 1) (by decide) dX11_code_26 ?_
        refine y_HI (x_callV hO lv_RX11_119 hx0 vc_11 (by decide) (As := [.int ((1 : Int32))]) rfl (Nat.le_of_ble_eq_true rfl) (ok_X11_refuse (cG Γ) h x0 ((1 : Int32)) hx0) dX11_code_27 rfl (Nat.le_of_ble_eq_true rfl)) (fun r10 => ?_)
        exact x_iret hO rfl dX11_code_30 (hR _)
theorem ok_X11_code (G : Gl) (h : Hp) (x0 : Nat) (x1 : Int32) (x2 : Int32) (hx0 : Is x0 11) : CN G mX11_code [.ref (gb G + x0), .int x1, .int x2] h ((F_X11_code h x0 x1 x2).map (emHI)) := CN.fn pn_RX11 (Nat.le_of_ble_eq_true rfl) (fun Γ hG hO => by subst hG; exact go_X11_code hO h x0 x1 x2 hx0 (fun _ q => q))
noncomputable def B_X11_commonDivisor_6 (h : Hp) (x0 : Int32) (x1 : Int32) (x2 : Int32) : Option ((Int32) ⊕ (Int32)) :=
  if x2 ≤ ((1 : Int32)) then some (.inr ((1 : Int32))) else gd (!decide (x2 = 0)) (if (x0 - x0 / x2 * x2) = 0 then gd (!decide (x2 = 0)) (if (x1 - x1 / x2 * x2) = 0 then some (.inr x2) else some (.inl (x2 + (-1 : Int32)))) else some (.inl (x2 + (-1 : Int32))))
noncomputable def L_X11_commonDivisor_6 (h : Hp) (x0 : Int32) (x1 : Int32) (x2 : Int32) : Option (Int32) := iterW (fun s : Int32 => B_X11_commonDivisor_6 h x0 x1 s) x2
set_option maxHeartbeats 4000000 in
set_option maxRecDepth 100000 in
theorem go_X11_commonDivisor_B6 {Γ : Cx} (hO : Ok Γ mX11_commonDivisor) (h : Hp) (x0 : Int32) (x1 : Int32) (x2 : Int32) {K : (Int32) ⊕ (Int32) → Prop} (hC : ∀ (x2 : Int32), K (.inl x2) → EW Γ mX11_commonDivisor 6 [(0, .int x0), (1, .int x1), (2, .int x2)] [] h) (hR : ∀ r, K (.inr r) → emPI h r = tgt Γ) : EG Γ mX11_commonDivisor 6 [(0, .int x0), (1, .int x1), (2, .int x2)] [] h (B_X11_commonDivisor_6 h x0 x1 x2) K := by
  unfold B_X11_commonDivisor_6
  refine x_iload_n hO 2 rfl rfl dX11_commonDivisor_6 ?_
  refine x_iconst hO (v := 1) (by decide) dX11_commonDivisor_7 ?_
  refine x_icmp_le hO (tg := 31) dX11_commonDivisor_8 (by decide) ?_ ?_
  · refine x_iconst hO (v := 1) (by decide) dX11_commonDivisor_31 ?_
    exact x_iret hO rfl dX11_commonDivisor_32 (hR _)
  · refine x_iload_n hO 0 rfl rfl dX11_commonDivisor_11 ?_
    refine x_iload_n hO 2 rfl rfl dX11_commonDivisor_12 ?_
    refine x_irem hO dX11_commonDivisor_13 ?_
    refine x_if_ne hO (tg := 25) dX11_commonDivisor_14 (by decide) ?_ ?_
    · refine x_iinc hO 2 (v := -1) [(2, .int (x2 + (-1 : Int32))), (0, .int x0), (1, .int x1)] dX11_commonDivisor_25 rfl (by decide) (by decide) rfl ?_
      refine x_goto hO (tg := 6) dX11_commonDivisor_28 (by decide) ?_
      exact x_leafs [1, 2, 0] rfl (hC (x2 + (-1 : Int32)))
    · refine x_iload_n hO 1 rfl rfl dX11_commonDivisor_17 ?_
      refine x_iload_n hO 2 rfl rfl dX11_commonDivisor_18 ?_
      refine x_irem hO dX11_commonDivisor_19 ?_
      refine x_if_ne hO (tg := 25) dX11_commonDivisor_20 (by decide) ?_ ?_
      · refine x_iinc hO 2 (v := -1) [(2, .int (x2 + (-1 : Int32))), (0, .int x0), (1, .int x1)] dX11_commonDivisor_25 rfl (by decide) (by decide) rfl ?_
        refine x_goto hO (tg := 6) dX11_commonDivisor_28 (by decide) ?_
        exact x_leafs [1, 2, 0] rfl (hC (x2 + (-1 : Int32)))
      · refine x_iload_n hO 2 rfl rfl dX11_commonDivisor_23 ?_
        exact x_iret hO rfl dX11_commonDivisor_24 (hR _)
set_option maxHeartbeats 4000000 in
set_option maxRecDepth 100000 in
theorem go_X11_commonDivisor_L6 {Γ : Cx} (hO : Ok Γ mX11_commonDivisor) (h : Hp) (x0 : Int32) (x1 : Int32) (x2 : Int32) {K : Int32 → Prop} (hR : ∀ r, K (r) → emPI h r = tgt Γ) : EG Γ mX11_commonDivisor 6 [(0, .int x0), (1, .int x1), (2, .int x2)] [] h (L_X11_commonDivisor_6 h x0 x1 x2) K := by
  have q := x_loop (Γ := Γ) (M := mX11_commonDivisor) (pc := 6) (B := fun s : Int32 => B_X11_commonDivisor_6 h x0 x1 s) (lvf := fun s => [(0, .int x0), (1, .int x1), (2, .int s)]) (hf := fun s => h) (Ky := K) (fun s => go_X11_commonDivisor_B6 hO h x0 x1 s (fun _ => id) hR) x2
  exact q
noncomputable def F_X11_commonDivisor (h : Hp) (x0 : Int32) (x1 : Int32) : Option (Int32) :=
  L_X11_commonDivisor_6 h x0 x1 (if x0 < x1 then x1 else x0)
set_option maxHeartbeats 4000000 in
set_option maxRecDepth 100000 in
theorem go_X11_commonDivisor {Γ : Cx} (hO : Ok Γ mX11_commonDivisor) (h : Hp) (x0 : Int32) (x1 : Int32) {K : Int32 → Prop} (hR : ∀ r, K r → emPI h r = tgt Γ) : EG Γ mX11_commonDivisor 0 [(0, .int x0), (1, .int x1)] [] h (F_X11_commonDivisor h x0 x1) K := by
  unfold F_X11_commonDivisor
  refine x_iload_n hO 0 rfl rfl dX11_commonDivisor_0 ?_
  refine x_iload_n hO 1 rfl rfl dX11_commonDivisor_1 ?_
  refine x_mmax hO lm_RX11_412 (Nat.le_of_ble_eq_true rfl) (Nat.le_of_ble_eq_true rfl) dX11_commonDivisor_2 ?_
  refine x_istore_n hO rfl [(2, .int (if x0 < x1 then x1 else x0)), (0, .int x0), (1, .int x1)] dX11_commonDivisor_5 (by decide) rfl ?_
  exact x_sub [1, 2, 0] rfl (go_X11_commonDivisor_L6 hO h x0 x1 (if x0 < x1 then x1 else x0) hR)
theorem ok_X11_commonDivisor (G : Gl) (h : Hp) (x0 : Int32) (x1 : Int32) : CN G mX11_commonDivisor [.int x0, .int x1] h ((F_X11_commonDivisor h x0 x1).map (emPI h)) := CN.fn pn_RX11 (Nat.le_of_ble_eq_true rfl) (fun Γ hG hO => by subst hG; exact go_X11_commonDivisor hO h x0 x1 (fun _ q => q))
noncomputable def F_X11_exchange (h : Hp) (x0 : Nat) (x1 : Int32) (x2 : Int32) : Option (Hp × Int32) :=
  (F_X2_isCard h (GR x0 2) x1).bind (fun r1 => if r1 = 0 then (F_X11_deny h x0 ((1 : Int32))).bind (fun r2 => some ((r2.1, r2.2 &&& 1))) else (F_X2_isCard h (GR x0 2) x2).bind (fun r3 => if r3 = 0 then (F_X11_deny h x0 ((1 : Int32))).bind (fun r4 => some ((r4.1, r4.2 &&& 1))) else if x1 = x2 then (F_X11_deny h x0 ((1 : Int32))).bind (fun r8 => some ((r8.1, r8.2 &&& 1))) else (F_X2_placeOf h (GR x0 2) x1).bind (fun r5 => (F_X2_placeOf h (GR x0 2) x2).bind (fun r6 => gd (ib r5 (LEN (GR (GR x0 2) 7))) (gd (ib r6 (LEN (GR (GR x0 2) 7))) ((F_X11_agree (uI (uI h (GR (GR x0 2) 7) (nx r5) x2) (GR (GR x0 2) 7) (nx r6) x1) x0).bind (fun r7 => some ((r7.1, r7.2 &&& 1)))))))))
set_option maxHeartbeats 4000000 in
set_option maxRecDepth 100000 in
theorem go_X11_exchange {Γ : Cx} (hO : Ok Γ mX11_exchange) (h : Hp) (x0 : Nat) (x1 : Int32) (x2 : Int32) (hx0 : Is x0 11) {K : Hp × Int32 → Prop} (hR : ∀ r, K r → emHI r = tgt Γ) : EG Γ mX11_exchange 0 [(0, rf Γ x0), (1, .int x1), (2, .int x2)] [] h (F_X11_exchange h x0 x1 x2) K := by
  unfold F_X11_exchange
  refine x_aload_n hO 0 rfl rfl dX11_exchange_0 ?_
  refine x_getR hO fl_RX11_22 hx0 dX11_exchange_1 ?_
  refine x_iload_n hO 1 rfl rfl dX11_exchange_4 ?_
  refine y_PI (x_callV hO lv_RX11_160 (gr_11_2 hx0) vc_2 (by decide) (As := [.int x1]) rfl (Nat.le_of_ble_eq_true rfl) (ok_X2_isCard (cG Γ) h (GR x0 2) x1 (gr_11_2 hx0)) dX11_exchange_5 rfl (Nat.le_of_ble_eq_true rfl)) (fun r1 => ?_)
  refine x_if_eq hO (tg := 27) dX11_exchange_8 (by decide) ?_ ?_
  · refine x_aload_n hO 0 rfl rfl dX11_exchange_27 ?_
    refine x_iconst hO (v := 1) (by decide) dX11_exchange_28 ?_
    refine y_HI (x_callV hO lv_RX11_100 hx0 vc_11 (by decide) (As := [.int ((1 : Int32))]) rfl (Nat.le_of_ble_eq_true rfl) (ok_X11_deny (cG Γ) h x0 ((1 : Int32)) hx0) dX11_exchange_29 rfl (Nat.le_of_ble_eq_true rfl)) (fun r2 => ?_)
    exact x_zret hO rfl dX11_exchange_32 (hR _)
  · refine x_aload_n hO 0 rfl rfl dX11_exchange_11 ?_
    refine x_getR hO fl_RX11_22 hx0 dX11_exchange_12 ?_
    refine x_iload_n hO 2 rfl rfl dX11_exchange_15 ?_
    refine y_PI (x_callV hO lv_RX11_160 (gr_11_2 hx0) vc_2 (by decide) (As := [.int x2]) rfl (Nat.le_of_ble_eq_true rfl) (ok_X2_isCard (cG Γ) h (GR x0 2) x2 (gr_11_2 hx0)) dX11_exchange_16 rfl (Nat.le_of_ble_eq_true rfl)) (fun r3 => ?_)
    refine x_if_eq hO (tg := 27) dX11_exchange_19 (by decide) ?_ ?_
    · refine x_aload_n hO 0 rfl rfl dX11_exchange_27 ?_
      refine x_iconst hO (v := 1) (by decide) dX11_exchange_28 ?_
      refine y_HI (x_callV hO lv_RX11_100 hx0 vc_11 (by decide) (As := [.int ((1 : Int32))]) rfl (Nat.le_of_ble_eq_true rfl) (ok_X11_deny (cG Γ) h x0 ((1 : Int32)) hx0) dX11_exchange_29 rfl (Nat.le_of_ble_eq_true rfl)) (fun r4 => ?_)
      exact x_zret hO rfl dX11_exchange_32 (hR _)
    · refine x_iload_n hO 1 rfl rfl dX11_exchange_22 ?_
      refine x_iload_n hO 2 rfl rfl dX11_exchange_23 ?_
      refine x_icmp_ne hO (tg := 33) dX11_exchange_24 (by decide) ?_ ?_
      · refine x_aload_n hO 0 rfl rfl dX11_exchange_33 ?_
        refine x_getR hO fl_RX11_22 hx0 dX11_exchange_34 ?_
        refine x_iload_n hO 1 rfl rfl dX11_exchange_37 ?_
        refine y_PI (x_callV hO lv_RX11_185 (gr_11_2 hx0) vc_2 (by decide) (As := [.int x1]) rfl (Nat.le_of_ble_eq_true rfl) (ok_X2_placeOf (cG Γ) h (GR x0 2) x1 (gr_11_2 hx0)) dX11_exchange_38 rfl (Nat.le_of_ble_eq_true rfl)) (fun r5 => ?_)
        refine x_istore_n hO rfl [(3, .int r5), (0, rf Γ x0), (1, .int x1), (2, .int x2)] dX11_exchange_41 (by decide) rfl ?_
        refine x_aload_n hO 1 rfl rfl dX11_exchange_42 ?_
        refine x_getR hO fl_RX11_22 hx0 dX11_exchange_43 ?_
        refine x_iload_n hO 3 rfl rfl dX11_exchange_46 ?_
        refine y_PI (x_callV hO lv_RX11_185 (gr_11_2 hx0) vc_2 (by decide) (As := [.int x2]) rfl (Nat.le_of_ble_eq_true rfl) (ok_X2_placeOf (cG Γ) h (GR x0 2) x2 (gr_11_2 hx0)) dX11_exchange_47 rfl (Nat.le_of_ble_eq_true rfl)) (fun r6 => ?_)
        refine x_istore hO [(4, .int r6), (3, .int r5), (0, rf Γ x0), (1, .int x1), (2, .int x2)] dX11_exchange_50 (by decide) rfl ?_
        refine x_aload_n hO 2 rfl rfl dX11_exchange_52 ?_
        refine x_getR hO fl_RX11_22 hx0 dX11_exchange_53 ?_
        refine x_getR hO fl_RX11_188 (gr_11_2 hx0) dX11_exchange_56 ?_
        refine x_iload_n hO 1 rfl rfl dX11_exchange_59 ?_
        refine x_iload_n hO 4 rfl rfl dX11_exchange_60 ?_
        refine x_iast hO (gr_2_7 (gr_11_2 hx0)) dX11_exchange_61 ?_
        refine x_aload_n hO 2 rfl rfl dX11_exchange_62 ?_
        refine x_getR hO fl_RX11_22 hx0 dX11_exchange_63 ?_
        refine x_getR hO fl_RX11_188 (gr_11_2 hx0) dX11_exchange_66 ?_
        refine x_iload hO 0 rfl dX11_exchange_69 ?_
        refine x_iload_n hO 3 rfl rfl dX11_exchange_71 ?_
        refine x_iast hO (gr_2_7 (gr_11_2 hx0)) dX11_exchange_72 ?_
        refine x_aload_n hO 2 rfl rfl dX11_exchange_73 ?_
        refine y_HI (x_callV hO lv_RX11_107 hx0 vc_11 (by decide) (As := []) rfl (Nat.le_of_ble_eq_true rfl) (ok_X11_agree (cG Γ) (uI (uI h (GR (GR x0 2) 7) (nx r5) x2) (GR (GR x0 2) 7) (nx r6) x1) x0 hx0) dX11_exchange_74 rfl (Nat.le_of_ble_eq_true rfl)) (fun r7 => ?_)
        exact x_zret hO rfl dX11_exchange_77 (hR _)
      · refine x_aload_n hO 0 rfl rfl dX11_exchange_27 ?_
        refine x_iconst hO (v := 1) (by decide) dX11_exchange_28 ?_
        refine y_HI (x_callV hO lv_RX11_100 hx0 vc_11 (by decide) (As := [.int ((1 : Int32))]) rfl (Nat.le_of_ble_eq_true rfl) (ok_X11_deny (cG Γ) h x0 ((1 : Int32)) hx0) dX11_exchange_29 rfl (Nat.le_of_ble_eq_true rfl)) (fun r8 => ?_)
        exact x_zret hO rfl dX11_exchange_32 (hR _)
theorem ok_X11_exchange (G : Gl) (h : Hp) (x0 : Nat) (x1 : Int32) (x2 : Int32) (hx0 : Is x0 11) : CN G mX11_exchange [.ref (gb G + x0), .int x1, .int x2] h ((F_X11_exchange h x0 x1 x2).map (emHI)) := CN.fn pn_RX11 (Nat.le_of_ble_eq_true rfl) (fun Γ hG hO => by subst hG; exact go_X11_exchange hO h x0 x1 x2 hx0 (fun _ q => q))
