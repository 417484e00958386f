def Fi_X0_init (h : Hc) (c : Nat) : Hc := cR (cN (cR (cN (cR (cN (cR (cN (cI (cI h c 0 ((0 : Int32))) c 1 ((0 : Int32)))) c 2 (h.1 + 0))) c 3 (h.1 + 1))) c 4 (h.1 + 2))) c 5 (h.1 + 3)
set_option maxHeartbeats 4000000 in
set_option maxRecDepth 100000 in
theorem cc_X0_init (G : Gl) (h : Hc) (n c : Nat) (hn : h.1 = n) (hl : LAY n [(14, 4), (14, 20), (14, 20), (14, 80)]) (hc : c < n) (hk : KD c = 0) : CC G mX0_init c 4 124 h (Fi_X0_init h c) := by
  subst hn
  refine CC.of pn_RX0 (by decide +kernel) rfl (by decide) (fun Γ hG hO hao hi ret => ?_)
  subst hG
  obtain ⟨n, I, L, R⟩ := h
  refine c_aload_n hO 0 rfl rfl dX0_init_0 ?_
  refine c_obj hO lo_RX0_3 (by decide) (by decide) dX0_init_1 ?_
  refine c_aload_n hO 0 rfl rfl dX0_init_4 ?_
  refine c_iconst hO (v := 0) (by decide) dX0_init_5 ?_
  refine c_putI hO hi fk_RX0_9 hc hk dX0_init_6 ?_
  refine c_aload_n hO 0 rfl rfl dX0_init_9 ?_
  refine c_iconst hO (v := 0) (by decide) dX0_init_10 ?_
  refine c_putI hO hi fk_RX0_15 hc hk dX0_init_11 ?_
  refine c_aload_n hO 0 rfl rfl dX0_init_14 ?_
  refine c_iconst hO (v := 4) (by decide) dX0_init_15 ?_
  refine c_newI hO (n + 0) rfl aw_int (N := 4) (by decide) (by decide) (hl 0 _ rfl).1 (hl 0 _ rfl).2 (by decide) (by decide) dX0_init_16 ?_
  refine c_putR hO hi (by decide) (fty := .array (.int)) (by decide +kernel) (Or.inr ⟨_, rfl⟩) fk_RX0_18 (show c < n + 1 from Nat.lt_of_lt_of_le hc (Nat.le_add_right n 1)) hk dX0_init_18 ?_
  refine c_aload_n hO 0 rfl rfl dX0_init_21 ?_
  refine c_bipush hO (v := 20) (by decide) dX0_init_22 ?_
  refine c_newI hO (n + 1) rfl aw_int (N := 20) (by decide) (by decide) (hl 1 _ rfl).1 (hl 1 _ rfl).2 (by decide) (by decide) dX0_init_24 ?_
  refine c_putR hO hi (by decide) (fty := .array (.int)) (by decide +kernel) (Or.inr ⟨_, rfl⟩) fk_RX0_22 (show c < n + 2 from Nat.lt_of_lt_of_le hc (Nat.le_add_right n 2)) hk dX0_init_26 ?_
  refine c_aload_n hO 0 rfl rfl dX0_init_29 ?_
  refine c_bipush hO (v := 20) (by decide) dX0_init_30 ?_
  refine c_newI hO (n + 2) rfl aw_int (N := 20) (by decide) (by decide) (hl 2 _ rfl).1 (hl 2 _ rfl).2 (by decide) (by decide) dX0_init_32 ?_
  refine c_putR hO hi (by decide) (fty := .array (.int)) (by decide +kernel) (Or.inr ⟨_, rfl⟩) fk_RX0_25 (show c < n + 3 from Nat.lt_of_lt_of_le hc (Nat.le_add_right n 3)) hk dX0_init_34 ?_
  refine c_aload_n hO 0 rfl rfl dX0_init_37 ?_
  refine c_bipush hO (v := 80) (by decide) dX0_init_38 ?_
  refine c_newI hO (n + 3) rfl aw_int (N := 80) (by decide) (by decide) (hl 3 _ rfl).1 (hl 3 _ rfl).2 (by decide) (by decide) dX0_init_40 ?_
  refine c_putR hO hi (by decide) (fty := .array (.int)) (by decide +kernel) (Or.inr ⟨_, rfl⟩) fk_RX0_28 (show c < n + 4 from Nat.lt_of_lt_of_le hc (Nat.le_add_right n 4)) hk dX0_init_42 ?_
  exact c_widen (by decide) (by decide) (ret _ _ dX0_init_45.1)
def Fi_X9_init (h : Hc) (c : Nat) : Hc := cR (cN (cR (cN (cR (cN (cR (cN (cI (cI h c 0 ((0 : Int32))) c 1 ((0 : Int32)))) c 2 (h.1 + 0))) c 3 (h.1 + 1))) c 4 (h.1 + 2))) c 5 (h.1 + 3)
set_option maxHeartbeats 4000000 in
set_option maxRecDepth 100000 in
theorem cc_X9_init (G : Gl) (h : Hc) (n c : Nat) (hn : h.1 = n) (hl : LAY n [(14, 80), (14, 80), (14, 80), (14, 80)]) (hc : c < n) (hk : KD c = 9) : CC G mX9_init c 4 320 h (Fi_X9_init h c) := by
  subst hn
  refine CC.of pn_RX9 (by decide +kernel) rfl (by decide) (fun Γ hG hO hao hi ret => ?_)
  subst hG
  obtain ⟨n, I, L, R⟩ := h
  refine c_aload_n hO 0 rfl rfl dX9_init_0 ?_
  refine c_obj hO lo_RX9_3 (by decide) (by decide) dX9_init_1 ?_
  refine c_aload_n hO 0 rfl rfl dX9_init_4 ?_
  refine c_iconst hO (v := 0) (by decide) dX9_init_5 ?_
  refine c_putI hO hi fk_RX9_9 hc hk dX9_init_6 ?_
  refine c_aload_n hO 0 rfl rfl dX9_init_9 ?_
  refine c_iconst hO (v := 0) (by decide) dX9_init_10 ?_
  refine c_putI hO hi fk_RX9_15 hc hk dX9_init_11 ?_
  refine c_aload_n hO 0 rfl rfl dX9_init_14 ?_
  refine c_bipush hO (v := 80) (by decide) dX9_init_15 ?_
  refine c_newI hO (n + 0) rfl aw_int (N := 80) (by decide) (by decide) (hl 0 _ rfl).1 (hl 0 _ rfl).2 (by decide) (by decide) dX9_init_17 ?_
  refine c_putR hO hi (by decide) (fty := .array (.int)) (by decide +kernel) (Or.inr ⟨_, rfl⟩) fk_RX9_18 (show c < n + 1 from Nat.lt_of_lt_of_le hc (Nat.le_add_right n 1)) hk dX9_init_19 ?_
  refine c_aload_n hO 0 rfl rfl dX9_init_22 ?_
  refine c_bipush hO (v := 80) (by decide) dX9_init_23 ?_
  refine c_newI hO (n + 1) rfl aw_int (N := 80) (by decide) (by decide) (hl 1 _ rfl).1 (hl 1 _ rfl).2 (by decide) (by decide) dX9_init_25 ?_
  refine c_putR hO hi (by decide) (fty := .array (.int)) (by decide +kernel) (Or.inr ⟨_, rfl⟩) fk_RX9_22 (show c < n + 2 from Nat.lt_of_lt_of_le hc (Nat.le_add_right n 2)) hk dX9_init_27 ?_
  refine c_aload_n hO 0 rfl rfl dX9_init_30 ?_
  refine c_bipush hO (v := 80) (by decide) dX9_init_31 ?_
  refine c_newI hO (n + 2) rfl aw_int (N := 80) (by decide) (by decide) (hl 2 _ rfl).1 (hl 2 _ rfl).2 (by decide) (by decide) dX9_init_33 ?_
  refine c_putR hO hi (by decide) (fty := .array (.int)) (by decide +kernel) (Or.inr ⟨_, rfl⟩) fk_RX9_25 (show c < n + 3 from Nat.lt_of_lt_of_le hc (Nat.le_add_right n 3)) hk dX9_init_35 ?_
  refine c_aload_n hO 0 rfl rfl dX9_init_38 ?_
  refine c_bipush hO (v := 80) (by decide) dX9_init_39 ?_
  refine c_newI hO (n + 3) rfl aw_int (N := 80) (by decide) (by decide) (hl 3 _ rfl).1 (hl 3 _ rfl).2 (by decide) (by decide) dX9_init_41 ?_
  refine c_putR hO hi (by decide) (fty := .array (.int)) (by decide +kernel) (Or.inr ⟨_, rfl⟩) fk_RX9_28 (show c < n + 4 from Nat.lt_of_lt_of_le hc (Nat.le_add_right n 4)) hk dX9_init_43 ?_
  exact c_widen (by decide) (by decide) (ret _ _ dX9_init_46.1)
def Fi_X7_init (h : Hc) (c : Nat) : Hc := cI (cI (cI (cI (cI (cI (cR (cN h) c 0 (h.1 + 0)) c 1 ((0 : Int32))) c 2 ((0 : Int32))) c 3 ((0 : Int32))) c 4 ((0 : Int32))) c 5 ((0 : Int32))) c 6 ((-1 : Int32))
set_option maxHeartbeats 4000000 in
set_option maxRecDepth 100000 in
theorem cc_X7_init (G : Gl) (h : Hc) (n c : Nat) (hn : h.1 = n) (hl : LAY n [(14, 0)]) (hc : c < n) (hk : KD c = 7) : CC G mX7_init c 1 0 h (Fi_X7_init h c) := by
  subst hn
  refine CC.of pn_RX7 (by decide +kernel) rfl (by decide) (fun Γ hG hO hao hi ret => ?_)
  subst hG
  obtain ⟨n, I, L, R⟩ := h
  refine c_aload_n hO 0 rfl rfl dX7_init_0 ?_
  refine c_obj hO lo_RX7_3 (by decide) (by decide) dX7_init_1 ?_
  refine c_aload_n hO 0 rfl rfl dX7_init_4 ?_
  refine c_iconst hO (v := 0) (by decide) dX7_init_5 ?_
  refine c_newI hO (n + 0) rfl aw_int (N := 0) (by decide) (by decide) (hl 0 _ rfl).1 (hl 0 _ rfl).2 (by decide) (by decide) dX7_init_6 ?_
  refine c_putR hO hi (by decide) (fty := .array (.int)) (by decide +kernel) (Or.inr ⟨_, rfl⟩) fk_RX7_9 (show c < n + 1 from Nat.lt_of_lt_of_le hc (Nat.le_add_right n 1)) hk dX7_init_8 ?_
  refine c_aload_n hO 0 rfl rfl dX7_init_11 ?_
  refine c_iconst hO (v := 0) (by decide) dX7_init_12 ?_
  refine c_putI hO hi fk_RX7_15 (show c < n + 1 from Nat.lt_of_lt_of_le hc (Nat.le_add_right n 1)) hk dX7_init_13 ?_
  refine c_aload_n hO 0 rfl rfl dX7_init_16 ?_
  refine c_iconst hO (v := 0) (by decide) dX7_init_17 ?_
  refine c_putI hO hi fk_RX7_19 (show c < n + 1 from Nat.lt_of_lt_of_le hc (Nat.le_add_right n 1)) hk dX7_init_18 ?_
  refine c_aload_n hO 0 rfl rfl dX7_init_21 ?_
  refine c_iconst hO (v := 0) (by decide) dX7_init_22 ?_
  refine c_putI hO hi fk_RX7_22 (show c < n + 1 from Nat.lt_of_lt_of_le hc (Nat.le_add_right n 1)) hk dX7_init_23 ?_
  refine c_aload_n hO 0 rfl rfl dX7_init_26 ?_
  refine c_iconst hO (v := 0) (by decide) dX7_init_27 ?_
  refine c_putI hO hi fk_RX7_25 (show c < n + 1 from Nat.lt_of_lt_of_le hc (Nat.le_add_right n 1)) hk dX7_init_28 ?_
  refine c_aload_n hO 0 rfl rfl dX7_init_31 ?_
  refine c_iconst hO (v := 0) (by decide) dX7_init_32 ?_
  refine c_putI hO hi fk_RX7_28 (show c < n + 1 from Nat.lt_of_lt_of_le hc (Nat.le_add_right n 1)) hk dX7_init_33 ?_
  refine c_aload_n hO 0 rfl rfl dX7_init_36 ?_
  refine c_iconst hO (v := -1) (by decide) dX7_init_37 ?_
  refine c_putI hO hi fk_RX7_31 (show c < n + 1 from Nat.lt_of_lt_of_le hc (Nat.le_add_right n 1)) hk dX7_init_38 ?_
  exact c_widen (by decide) (by decide) (ret _ _ dX7_init_41.1)
def Fi_X10_init (h : Hc) (c : Nat) : Hc := cR (cN (cI (cI (cI h c 0 ((1 : Int32))) c 1 ((0 : Int32))) c 2 ((0 : Int32)))) c 3 (h.1 + 0)
set_option maxHeartbeats 4000000 in
set_option maxRecDepth 100000 in
theorem cc_X10_init (G : Gl) (h : Hc) (n c : Nat) (hn : h.1 = n) (hl : LAY n [(15, 60)]) (hc : c < n) (hk : KD c = 10) : CC G mX10_init c 1 60 h (Fi_X10_init h c) := by
  subst hn
  refine CC.of pn_RX10 (by decide +kernel) rfl (by decide) (fun Γ hG hO hao hi ret => ?_)
  subst hG
  obtain ⟨n, I, L, R⟩ := h
  refine c_aload_n hO 0 rfl rfl dX10_init_0 ?_
  refine c_obj hO lo_RX10_3 (by decide) (by decide) dX10_init_1 ?_
  refine c_aload_n hO 0 rfl rfl dX10_init_4 ?_
  refine c_iconst hO (v := 1) (by decide) dX10_init_5 ?_
  refine c_putZ hO hi (by decide) fk_RX10_9 hc hk dX10_init_6 ?_
  refine c_aload_n hO 0 rfl rfl dX10_init_9 ?_
  refine c_iconst hO (v := 0) (by decide) dX10_init_10 ?_
  refine c_putI hO hi fk_RX10_15 hc hk dX10_init_11 ?_
  refine c_aload_n hO 0 rfl rfl dX10_init_14 ?_
  refine c_iconst hO (v := 0) (by decide) dX10_init_15 ?_
  refine c_putI hO hi fk_RX10_19 hc hk dX10_init_16 ?_
  refine c_aload_n hO 0 rfl rfl dX10_init_19 ?_
  refine c_bipush hO (v := 60) (by decide) dX10_init_20 ?_
  refine c_newL hO (n + 0) rfl aw_long (N := 60) (by decide) (by decide) (hl 0 _ rfl).1 (hl 0 _ rfl).2 (by decide) (by decide) dX10_init_22 ?_
  refine c_putR hO hi (by decide) (fty := .array (.long)) (by decide +kernel) (Or.inr ⟨_, rfl⟩) fk_RX10_22 (show c < n + 1 from Nat.lt_of_lt_of_le hc (Nat.le_add_right n 1)) hk dX10_init_24 ?_
  exact c_widen (by decide) (by decide) (ret _ _ dX10_init_27.1)
def Fi_X3_init (h : Hc) (c : Nat) : Hc := cI (cI (cI (cL (cI (cR (cN (cR (cN (cR (cN h) c 0 (h.1 + 0))) c 1 (h.1 + 1))) c 2 (h.1 + 2)) c 3 ((0 : Int32))) c 4 ((0 : Int64))) c 5 ((0 : Int32))) c 6 ((0 : Int32))) c 7 ((0 : Int32))
set_option maxHeartbeats 4000000 in
set_option maxRecDepth 100000 in
theorem cc_X3_init (G : Gl) (h : Hc) (n c : Nat) (hn : h.1 = n) (hl : LAY n [(14, 30), (14, 13), (14, 80)]) (hc : c < n) (hk : KD c = 3) : CC G mX3_init c 3 123 h (Fi_X3_init h c) := by
  subst hn
  refine CC.of pn_RX3 (by decide +kernel) rfl (by decide) (fun Γ hG hO hao hi ret => ?_)
  subst hG
  obtain ⟨n, I, L, R⟩ := h
  refine c_aload_n hO 0 rfl rfl dX3_init_0 ?_
  refine c_obj hO lo_RX3_3 (by decide) (by decide) dX3_init_1 ?_
  refine c_aload_n hO 0 rfl rfl dX3_init_4 ?_
  refine c_bipush hO (v := 30) (by decide) dX3_init_5 ?_
  refine c_newI hO (n + 0) rfl aw_int (N := 30) (by decide) (by decide) (hl 0 _ rfl).1 (hl 0 _ rfl).2 (by decide) (by decide) dX3_init_7 ?_
  refine c_putR hO hi (by decide) (fty := .array (.int)) (by decide +kernel) (Or.inr ⟨_, rfl⟩) fk_RX3_9 (show c < n + 1 from Nat.lt_of_lt_of_le hc (Nat.le_add_right n 1)) hk dX3_init_9 ?_
  refine c_aload_n hO 0 rfl rfl dX3_init_12 ?_
  refine c_bipush hO (v := 13) (by decide) dX3_init_13 ?_
  refine c_newI hO (n + 1) rfl aw_int (N := 13) (by decide) (by decide) (hl 1 _ rfl).1 (hl 1 _ rfl).2 (by decide) (by decide) dX3_init_15 ?_
  refine c_putR hO hi (by decide) (fty := .array (.int)) (by decide +kernel) (Or.inr ⟨_, rfl⟩) fk_RX3_15 (show c < n + 2 from Nat.lt_of_lt_of_le hc (Nat.le_add_right n 2)) hk dX3_init_17 ?_
  refine c_aload_n hO 0 rfl rfl dX3_init_20 ?_
  refine c_bipush hO (v := 80) (by decide) dX3_init_21 ?_
  refine c_newI hO (n + 2) rfl aw_int (N := 80) (by decide) (by decide) (hl 2 _ rfl).1 (hl 2 _ rfl).2 (by decide) (by decide) dX3_init_23 ?_
  refine c_putR hO hi (by decide) (fty := .array (.int)) (by decide +kernel) (Or.inr ⟨_, rfl⟩) fk_RX3_20 (show c < n + 3 from Nat.lt_of_lt_of_le hc (Nat.le_add_right n 3)) hk dX3_init_25 ?_
  refine c_aload_n hO 0 rfl rfl dX3_init_28 ?_
  refine c_iconst hO (v := 0) (by decide) dX3_init_29 ?_
  refine c_putZ hO hi (by decide) fk_RX3_23 (show c < n + 3 from Nat.lt_of_lt_of_le hc (Nat.le_add_right n 3)) hk dX3_init_30 ?_
  refine c_aload_n hO 0 rfl rfl dX3_init_33 ?_
  refine c_lconst hO (v := 0) (by decide) dX3_init_34 ?_
  refine c_putL hO hi fk_RX3_27 (show c < n + 3 from Nat.lt_of_lt_of_le hc (Nat.le_add_right n 3)) hk dX3_init_35 ?_
  refine c_aload_n hO 0 rfl rfl dX3_init_38 ?_
  refine c_iconst hO (v := 0) (by decide) dX3_init_39 ?_
  refine c_putI hO hi fk_RX3_31 (show c < n + 3 from Nat.lt_of_lt_of_le hc (Nat.le_add_right n 3)) hk dX3_init_40 ?_
  refine c_aload_n hO 0 rfl rfl dX3_init_43 ?_
  refine c_iconst hO (v := 0) (by decide) dX3_init_44 ?_
  refine c_putZ hO hi (by decide) fk_RX3_35 (show c < n + 3 from Nat.lt_of_lt_of_le hc (Nat.le_add_right n 3)) hk dX3_init_45 ?_
  refine c_aload_n hO 0 rfl rfl dX3_init_48 ?_
  refine c_iconst hO (v := 0) (by decide) dX3_init_49 ?_
  refine c_putI hO hi fk_RX3_38 (show c < n + 3 from Nat.lt_of_lt_of_le hc (Nat.le_add_right n 3)) hk dX3_init_50 ?_
  exact c_widen (by decide) (by decide) (ret _ _ dX3_init_53.1)
def Fi_X4_init (h : Hc) (c : Nat) : Hc := cI (cI (cR (cN (cR (cN (cR (cN (cR (cN (cR (cN (cI (cI (cI h c 0 ((0 : Int32))) c 1 ((0 : Int32))) c 2 ((0 : Int32)))) c 3 (h.1 + 0))) c 4 (h.1 + 1))) c 5 (h.1 + 2))) c 6 (h.1 + 3))) c 7 (h.1 + 4)) c 8 ((0 : Int32))) c 9 ((-1 : Int32))
set_option maxHeartbeats 4000000 in
set_option maxRecDepth 100000 in
theorem cc_X4_init (G : Gl) (h : Hc) (n c : Nat) (hn : h.1 = n) (hl : LAY n [(14, 4), (14, 4), (15, 13), (14, 30), (14, 30)]) (hc : c < n) (hk : KD c = 4) : CC G mX4_init c 5 81 h (Fi_X4_init h c) := by
  subst hn
  refine CC.of pn_RX4 (by decide +kernel) rfl (by decide) (fun Γ hG hO hao hi ret => ?_)
  subst hG
  obtain ⟨n, I, L, R⟩ := h
  refine c_aload_n hO 0 rfl rfl dX4_init_0 ?_
  refine c_obj hO lo_RX4_3 (by decide) (by decide) dX4_init_1 ?_
  refine c_aload_n hO 0 rfl rfl dX4_init_4 ?_
  refine c_iconst hO (v := 0) (by decide) dX4_init_5 ?_
  refine c_putZ hO hi (by decide) fk_RX4_9 hc hk dX4_init_6 ?_
  refine c_aload_n hO 0 rfl rfl dX4_init_9 ?_
  refine c_iconst hO (v := 0) (by decide) dX4_init_10 ?_
  refine c_putI hO hi fk_RX4_15 hc hk dX4_init_11 ?_
  refine c_aload_n hO 0 rfl rfl dX4_init_14 ?_
  refine c_iconst hO (v := 0) (by decide) dX4_init_15 ?_
  refine c_putI hO hi fk_RX4_19 hc hk dX4_init_16 ?_
  refine c_aload_n hO 0 rfl rfl dX4_init_19 ?_
  refine c_iconst hO (v := 4) (by decide) dX4_init_20 ?_
  refine c_newI hO (n + 0) rfl aw_int (N := 4) (by decide) (by decide) (hl 0 _ rfl).1 (hl 0 _ rfl).2 (by decide) (by decide) dX4_init_21 ?_
  refine c_putR hO hi (by decide) (fty := .array (.int)) (by decide +kernel) (Or.inr ⟨_, rfl⟩) fk_RX4_22 (show c < n + 1 from Nat.lt_of_lt_of_le hc (Nat.le_add_right n 1)) hk dX4_init_23 ?_
  refine c_aload_n hO 0 rfl rfl dX4_init_26 ?_
  refine c_iconst hO (v := 4) (by decide) dX4_init_27 ?_
  refine c_newI hO (n + 1) rfl aw_int (N := 4) (by decide) (by decide) (hl 1 _ rfl).1 (hl 1 _ rfl).2 (by decide) (by decide) dX4_init_28 ?_
  refine c_putR hO hi (by decide) (fty := .array (.int)) (by decide +kernel) (Or.inr ⟨_, rfl⟩) fk_RX4_26 (show c < n + 2 from Nat.lt_of_lt_of_le hc (Nat.le_add_right n 2)) hk dX4_init_30 ?_
  refine c_aload_n hO 0 rfl rfl dX4_init_33 ?_
  refine c_bipush hO (v := 13) (by decide) dX4_init_34 ?_
  refine c_newL hO (n + 2) rfl aw_long (N := 13) (by decide) (by decide) (hl 2 _ rfl).1 (hl 2 _ rfl).2 (by decide) (by decide) dX4_init_36 ?_
  refine c_putR hO hi (by decide) (fty := .array (.long)) (by decide +kernel) (Or.inr ⟨_, rfl⟩) fk_RX4_29 (show c < n + 3 from Nat.lt_of_lt_of_le hc (Nat.le_add_right n 3)) hk dX4_init_38 ?_
  refine c_aload_n hO 0 rfl rfl dX4_init_41 ?_
  refine c_bipush hO (v := 30) (by decide) dX4_init_42 ?_
  refine c_newI hO (n + 3) rfl aw_int (N := 30) (by decide) (by decide) (hl 3 _ rfl).1 (hl 3 _ rfl).2 (by decide) (by decide) dX4_init_44 ?_
  refine c_putR hO hi (by decide) (fty := .array (.int)) (by decide +kernel) (Or.inr ⟨_, rfl⟩) fk_RX4_33 (show c < n + 4 from Nat.lt_of_lt_of_le hc (Nat.le_add_right n 4)) hk dX4_init_46 ?_
  refine c_aload_n hO 0 rfl rfl dX4_init_49 ?_
  refine c_bipush hO (v := 30) (by decide) dX4_init_50 ?_
  refine c_newI hO (n + 4) rfl aw_int (N := 30) (by decide) (by decide) (hl 4 _ rfl).1 (hl 4 _ rfl).2 (by decide) (by decide) dX4_init_52 ?_
  refine c_putR hO hi (by decide) (fty := .array (.int)) (by decide +kernel) (Or.inr ⟨_, rfl⟩) fk_RX4_36 (show c < n + 5 from Nat.lt_of_lt_of_le hc (Nat.le_add_right n 5)) hk dX4_init_54 ?_
  refine c_aload_n hO 0 rfl rfl dX4_init_57 ?_
  refine c_iconst hO (v := 0) (by decide) dX4_init_58 ?_
  refine c_putI hO hi fk_RX4_39 (show c < n + 5 from Nat.lt_of_lt_of_le hc (Nat.le_add_right n 5)) hk dX4_init_59 ?_
  refine c_aload_n hO 0 rfl rfl dX4_init_62 ?_
  refine c_iconst hO (v := -1) (by decide) dX4_init_63 ?_
  refine c_putI hO hi fk_RX4_42 (show c < n + 5 from Nat.lt_of_lt_of_le hc (Nat.le_add_right n 5)) hk dX4_init_64 ?_
  exact c_widen (by decide) (by decide) (ret _ _ dX4_init_67.1)
def Fi_X5_init (h : Hc) (c : Nat) : Hc := cR (cN (cR (cN (cR (cN (cR (cN (cR (cN (cI (cI (cI h c 0 ((0 : Int32))) c 1 ((0 : Int32))) c 2 ((0 : Int32)))) c 3 (h.1 + 0))) c 4 (h.1 + 1))) c 5 (h.1 + 2))) c 6 (h.1 + 3))) c 7 (h.1 + 4)
set_option maxHeartbeats 4000000 in
set_option maxRecDepth 100000 in
theorem cc_X5_init (G : Gl) (h : Hc) (n c : Nat) (hn : h.1 = n) (hl : LAY n [(14, 30), (14, 31), (14, 31), (14, 31), (14, 31)]) (hc : c < n) (hk : KD c = 5) : CC G mX5_init c 5 154 h (Fi_X5_init h c) := by
  subst hn
  refine CC.of pn_RX5 (by decide +kernel) rfl (by decide) (fun Γ hG hO hao hi ret => ?_)
  subst hG
  obtain ⟨n, I, L, R⟩ := h
  refine c_aload_n hO 0 rfl rfl dX5_init_0 ?_
  refine c_obj hO lo_RX5_3 (by decide) (by decide) dX5_init_1 ?_
  refine c_aload_n hO 0 rfl rfl dX5_init_4 ?_
  refine c_iconst hO (v := 0) (by decide) dX5_init_5 ?_
  refine c_putZ hO hi (by decide) fk_RX5_9 hc hk dX5_init_6 ?_
  refine c_aload_n hO 0 rfl rfl dX5_init_9 ?_
  refine c_iconst hO (v := 0) (by decide) dX5_init_10 ?_
  refine c_putI hO hi fk_RX5_15 hc hk dX5_init_11 ?_
  refine c_aload_n hO 0 rfl rfl dX5_init_14 ?_
  refine c_iconst hO (v := 0) (by decide) dX5_init_15 ?_
  refine c_putI hO hi fk_RX5_19 hc hk dX5_init_16 ?_
  refine c_aload_n hO 0 rfl rfl dX5_init_19 ?_
  refine c_bipush hO (v := 30) (by decide) dX5_init_20 ?_
  refine c_newI hO (n + 0) rfl aw_int (N := 30) (by decide) (by decide) (hl 0 _ rfl).1 (hl 0 _ rfl).2 (by decide) (by decide) dX5_init_22 ?_
  refine c_putR hO hi (by decide) (fty := .array (.int)) (by decide +kernel) (Or.inr ⟨_, rfl⟩) fk_RX5_22 (show c < n + 1 from Nat.lt_of_lt_of_le hc (Nat.le_add_right n 1)) hk dX5_init_24 ?_
  refine c_aload_n hO 0 rfl rfl dX5_init_27 ?_
  refine c_bipush hO (v := 31) (by decide) dX5_init_28 ?_
  refine c_newI hO (n + 1) rfl aw_int (N := 31) (by decide) (by decide) (hl 1 _ rfl).1 (hl 1 _ rfl).2 (by decide) (by decide) dX5_init_30 ?_
  refine c_putR hO hi (by decide) (fty := .array (.int)) (by decide +kernel) (Or.inr ⟨_, rfl⟩) fk_RX5_26 (show c < n + 2 from Nat.lt_of_lt_of_le hc (Nat.le_add_right n 2)) hk dX5_init_32 ?_
  refine c_aload_n hO 0 rfl rfl dX5_init_35 ?_
  refine c_bipush hO (v := 31) (by decide) dX5_init_36 ?_
  refine c_newI hO (n + 2) rfl aw_int (N := 31) (by decide) (by decide) (hl 2 _ rfl).1 (hl 2 _ rfl).2 (by decide) (by decide) dX5_init_38 ?_
  refine c_putR hO hi (by decide) (fty := .array (.int)) (by decide +kernel) (Or.inr ⟨_, rfl⟩) fk_RX5_29 (show c < n + 3 from Nat.lt_of_lt_of_le hc (Nat.le_add_right n 3)) hk dX5_init_40 ?_
  refine c_aload_n hO 0 rfl rfl dX5_init_43 ?_
  refine c_bipush hO (v := 31) (by decide) dX5_init_44 ?_
  refine c_newI hO (n + 3) rfl aw_int (N := 31) (by decide) (by decide) (hl 3 _ rfl).1 (hl 3 _ rfl).2 (by decide) (by decide) dX5_init_46 ?_
  refine c_putR hO hi (by decide) (fty := .array (.int)) (by decide +kernel) (Or.inr ⟨_, rfl⟩) fk_RX5_32 (show c < n + 4 from Nat.lt_of_lt_of_le hc (Nat.le_add_right n 4)) hk dX5_init_48 ?_
  refine c_aload_n hO 0 rfl rfl dX5_init_51 ?_
  refine c_bipush hO (v := 31) (by decide) dX5_init_52 ?_
  refine c_newI hO (n + 4) rfl aw_int (N := 31) (by decide) (by decide) (hl 4 _ rfl).1 (hl 4 _ rfl).2 (by decide) (by decide) dX5_init_54 ?_
  refine c_putR hO hi (by decide) (fty := .array (.int)) (by decide +kernel) (Or.inr ⟨_, rfl⟩) fk_RX5_35 (show c < n + 5 from Nat.lt_of_lt_of_le hc (Nat.le_add_right n 5)) hk dX5_init_56 ?_
  exact c_widen (by decide) (by decide) (ret _ _ dX5_init_59.1)
def Fi_X6_init (h : Hc) (c : Nat) : Hc := cR (cN (cI (cI (cI (cR (cN (cR (cN (cI (cR (cN (cR (cN (cI (cR (cN h) c 0 (h.1 + 0)) c 1 ((0 : Int32)))) c 2 (h.1 + 1))) c 3 (h.1 + 2)) c 4 ((0 : Int32)))) c 5 (h.1 + 3))) c 6 (h.1 + 4)) c 7 ((0 : Int32))) c 8 ((0 : Int32))) c 9 ((0 : Int32)))) c 10 (h.1 + 5)
set_option maxHeartbeats 4000000 in
set_option maxRecDepth 100000 in
theorem cc_X6_init (G : Gl) (h : Hc) (n c : Nat) (hn : h.1 = n) (hl : LAY n [(14, 4), (14, 30), (14, 4), (14, 4), (14, 30), (14, 4)]) (hc : c < n) (hk : KD c = 6) : CC G mX6_init c 6 76 h (Fi_X6_init h c) := by
  subst hn
  refine CC.of pn_RX6 (by decide +kernel) rfl (by decide) (fun Γ hG hO hao hi ret => ?_)
  subst hG
  obtain ⟨n, I, L, R⟩ := h
  refine c_aload_n hO 0 rfl rfl dX6_init_0 ?_
  refine c_obj hO lo_RX6_3 (by decide) (by decide) dX6_init_1 ?_
  refine c_aload_n hO 0 rfl rfl dX6_init_4 ?_
  refine c_iconst hO (v := 4) (by decide) dX6_init_5 ?_
  refine c_newI hO (n + 0) rfl aw_int (N := 4) (by decide) (by decide) (hl 0 _ rfl).1 (hl 0 _ rfl).2 (by decide) (by decide) dX6_init_6 ?_
  refine c_putR hO hi (by decide) (fty := .array (.int)) (by decide +kernel) (Or.inr ⟨_, rfl⟩) fk_RX6_9 (show c < n + 1 from Nat.lt_of_lt_of_le hc (Nat.le_add_right n 1)) hk dX6_init_8 ?_
  refine c_aload_n hO 0 rfl rfl dX6_init_11 ?_
  refine c_iconst hO (v := 0) (by decide) dX6_init_12 ?_
  refine c_putI hO hi fk_RX6_15 (show c < n + 1 from Nat.lt_of_lt_of_le hc (Nat.le_add_right n 1)) hk dX6_init_13 ?_
  refine c_aload_n hO 0 rfl rfl dX6_init_16 ?_
  refine c_bipush hO (v := 30) (by decide) dX6_init_17 ?_
  refine c_newI hO (n + 1) rfl aw_int (N := 30) (by decide) (by decide) (hl 1 _ rfl).1 (hl 1 _ rfl).2 (by decide) (by decide) dX6_init_19 ?_
  refine c_putR hO hi (by decide) (fty := .array (.int)) (by decide +kernel) (Or.inr ⟨_, rfl⟩) fk_RX6_19 (show c < n + 2 from Nat.lt_of_lt_of_le hc (Nat.le_add_right n 2)) hk dX6_init_21 ?_
  refine c_aload_n hO 0 rfl rfl dX6_init_24 ?_
  refine c_iconst hO (v := 4) (by decide) dX6_init_25 ?_
  refine c_newI hO (n + 2) rfl aw_int (N := 4) (by decide) (by decide) (hl 2 _ rfl).1 (hl 2 _ rfl).2 (by decide) (by decide) dX6_init_26 ?_
  refine c_putR hO hi (by decide) (fty := .array (.int)) (by decide +kernel) (Or.inr ⟨_, rfl⟩) fk_RX6_22 (show c < n + 3 from Nat.lt_of_lt_of_le hc (Nat.le_add_right n 3)) hk dX6_init_28 ?_
  refine c_aload_n hO 0 rfl rfl dX6_init_31 ?_
  refine c_iconst hO (v := 0) (by decide) dX6_init_32 ?_
  refine c_putI hO hi fk_RX6_25 (show c < n + 3 from Nat.lt_of_lt_of_le hc (Nat.le_add_right n 3)) hk dX6_init_33 ?_
  refine c_aload_n hO 0 rfl rfl dX6_init_36 ?_
  refine c_iconst hO (v := 4) (by decide) dX6_init_37 ?_
  refine c_newI hO (n + 3) rfl aw_int (N := 4) (by decide) (by decide) (hl 3 _ rfl).1 (hl 3 _ rfl).2 (by decide) (by decide) dX6_init_38 ?_
  refine c_putR hO hi (by decide) (fty := .array (.int)) (by decide +kernel) (Or.inr ⟨_, rfl⟩) fk_RX6_28 (show c < n + 4 from Nat.lt_of_lt_of_le hc (Nat.le_add_right n 4)) hk dX6_init_40 ?_
  refine c_aload_n hO 0 rfl rfl dX6_init_43 ?_
  refine c_bipush hO (v := 30) (by decide) dX6_init_44 ?_
  refine c_newI hO (n + 4) rfl aw_int (N := 30) (by decide) (by decide) (hl 4 _ rfl).1 (hl 4 _ rfl).2 (by decide) (by decide) dX6_init_46 ?_
  refine c_putR hO hi (by decide) (fty := .array (.int)) (by decide +kernel) (Or.inr ⟨_, rfl⟩) fk_RX6_31 (show c < n + 5 from Nat.lt_of_lt_of_le hc (Nat.le_add_right n 5)) hk dX6_init_48 ?_
  refine c_aload_n hO 0 rfl rfl dX6_init_51 ?_
  refine c_iconst hO (v := 0) (by decide) dX6_init_52 ?_
  refine c_putZ hO hi (by decide) fk_RX6_34 (show c < n + 5 from Nat.lt_of_lt_of_le hc (Nat.le_add_right n 5)) hk dX6_init_53 ?_
  refine c_aload_n hO 0 rfl rfl dX6_init_56 ?_
  refine c_iconst hO (v := 0) (by decide) dX6_init_57 ?_
  refine c_putI hO hi fk_RX6_38 (show c < n + 5 from Nat.lt_of_lt_of_le hc (Nat.le_add_right n 5)) hk dX6_init_58 ?_
  refine c_aload_n hO 0 rfl rfl dX6_init_61 ?_
  refine c_iconst hO (v := 0) (by decide) dX6_init_62 ?_
  refine c_putI hO hi fk_RX6_41 (show c < n + 5 from Nat.lt_of_lt_of_le hc (Nat.le_add_right n 5)) hk dX6_init_63 ?_
  refine c_aload_n hO 0 rfl rfl dX6_init_66 ?_
  refine c_iconst hO (v := 4) (by decide) dX6_init_67 ?_
  refine c_newI hO (n + 5) rfl aw_int (N := 4) (by decide) (by decide) (hl 5 _ rfl).1 (hl 5 _ rfl).2 (by decide) (by decide) dX6_init_68 ?_
  refine c_putR hO hi (by decide) (fty := .array (.int)) (by decide +kernel) (Or.inr ⟨_, rfl⟩) fk_RX6_44 (show c < n + 6 from Nat.lt_of_lt_of_le hc (Nat.le_add_right n 6)) hk dX6_init_70 ?_
  exact c_widen (by decide) (by decide) (ret _ _ dX6_init_73.1)
def Fi_X2_init (h : Hc) (c : Nat) : Hc := cR (Fi_X9_init (cN (cR (Fi_X0_init (cN (cR (cN (cR (cN (cR (cN (cR (cN (cR (cN (cR (cN (cI (cI h c 0 ((0 : Int32))) c 1 ((0 : Int32)))) c 2 (h.1 + 0))) c 3 (h.1 + 1))) c 4 (h.1 + 2))) c 5 (h.1 + 3))) c 6 (h.1 + 4))) c 7 (h.1 + 5))) (h.1 + 6)) c 8 (h.1 + 6))) (h.1 + 11)) c 9 (h.1 + 11)
set_option maxHeartbeats 4000000 in
set_option maxRecDepth 100000 in
theorem cc_X2_init (G : Gl) (h : Hc) (n c : Nat) (hn : h.1 = n) (hl : LAY n [(14, 240), (14, 240), (14, 30), (14, 30), (14, 30), (14, 30), (0, 0), (14, 4), (14, 20), (14, 20), (14, 80), (9, 0), (14, 80), (14, 80), (14, 80), (14, 80)]) (hc : c < n) (hk : KD c = 2) : CC G mX2_init c 16 1056 h (Fi_X2_init h c) := by
  subst hn
  refine CC.of pn_RX2 (by decide +kernel) rfl (by decide) (fun Γ hG hO hao hi ret => ?_)
  subst hG
  obtain ⟨n, I, L, R⟩ := h
  refine c_aload_n hO 0 rfl rfl dX2_init_0 ?_
  refine c_obj hO lo_RX2_3 (by decide) (by decide) dX2_init_1 ?_
  refine c_aload_n hO 0 rfl rfl dX2_init_4 ?_
  refine c_iconst hO (v := 0) (by decide) dX2_init_5 ?_
  refine c_putI hO hi fk_RX2_9 hc hk dX2_init_6 ?_
  refine c_aload_n hO 0 rfl rfl dX2_init_9 ?_
  refine c_iconst hO (v := 0) (by decide) dX2_init_10 ?_
  refine c_putI hO hi fk_RX2_15 hc hk dX2_init_11 ?_
  refine c_aload_n hO 0 rfl rfl dX2_init_14 ?_
  refine c_sipush hO (v := 240) (by decide) dX2_init_15 ?_
  refine c_newI hO (n + 0) rfl aw_int (N := 240) (by decide) (by decide) (hl 0 _ rfl).1 (hl 0 _ rfl).2 (by decide) (by decide) dX2_init_18 ?_
  refine c_putR hO hi (by decide) (fty := .array (.int)) (by decide +kernel) (Or.inr ⟨_, rfl⟩) fk_RX2_18 (show c < n + 1 from Nat.lt_of_lt_of_le hc (Nat.le_add_right n 1)) hk dX2_init_20 ?_
  refine c_aload_n hO 0 rfl rfl dX2_init_23 ?_
  refine c_sipush hO (v := 240) (by decide) dX2_init_24 ?_
  refine c_newI hO (n + 1) rfl aw_int (N := 240) (by decide) (by decide) (hl 1 _ rfl).1 (hl 1 _ rfl).2 (by decide) (by decide) dX2_init_27 ?_
  refine c_putR hO hi (by decide) (fty := .array (.int)) (by decide +kernel) (Or.inr ⟨_, rfl⟩) fk_RX2_22 (show c < n + 2 from Nat.lt_of_lt_of_le hc (Nat.le_add_right n 2)) hk dX2_init_29 ?_
  refine c_aload_n hO 0 rfl rfl dX2_init_32 ?_
  refine c_bipush hO (v := 30) (by decide) dX2_init_33 ?_
  refine c_newI hO (n + 2) rfl aw_int (N := 30) (by decide) (by decide) (hl 2 _ rfl).1 (hl 2 _ rfl).2 (by decide) (by decide) dX2_init_35 ?_
  refine c_putR hO hi (by decide) (fty := .array (.int)) (by decide +kernel) (Or.inr ⟨_, rfl⟩) fk_RX2_25 (show c < n + 3 from Nat.lt_of_lt_of_le hc (Nat.le_add_right n 3)) hk dX2_init_37 ?_
  refine c_aload_n hO 0 rfl rfl dX2_init_40 ?_
  refine c_bipush hO (v := 30) (by decide) dX2_init_41 ?_
  refine c_newI hO (n + 3) rfl aw_int (N := 30) (by decide) (by decide) (hl 3 _ rfl).1 (hl 3 _ rfl).2 (by decide) (by decide) dX2_init_43 ?_
  refine c_putR hO hi (by decide) (fty := .array (.int)) (by decide +kernel) (Or.inr ⟨_, rfl⟩) fk_RX2_28 (show c < n + 4 from Nat.lt_of_lt_of_le hc (Nat.le_add_right n 4)) hk dX2_init_45 ?_
  refine c_aload_n hO 0 rfl rfl dX2_init_48 ?_
  refine c_bipush hO (v := 30) (by decide) dX2_init_49 ?_
  refine c_newI hO (n + 4) rfl aw_int (N := 30) (by decide) (by decide) (hl 4 _ rfl).1 (hl 4 _ rfl).2 (by decide) (by decide) dX2_init_51 ?_
  refine c_putR hO hi (by decide) (fty := .array (.int)) (by decide +kernel) (Or.inr ⟨_, rfl⟩) fk_RX2_31 (show c < n + 5 from Nat.lt_of_lt_of_le hc (Nat.le_add_right n 5)) hk dX2_init_53 ?_
  refine c_aload_n hO 0 rfl rfl dX2_init_56 ?_
  refine c_bipush hO (v := 30) (by decide) dX2_init_57 ?_
  refine c_newI hO (n + 5) rfl aw_int (N := 30) (by decide) (by decide) (hl 5 _ rfl).1 (hl 5 _ rfl).2 (by decide) (by decide) dX2_init_59 ?_
  refine c_putR hO hi (by decide) (fty := .array (.int)) (by decide +kernel) (Or.inr ⟨_, rfl⟩) fk_RX2_34 (show c < n + 6 from Nat.lt_of_lt_of_le hc (Nat.le_add_right n 6)) hk dX2_init_61 ?_
  refine c_aload_n hO 0 rfl rfl dX2_init_64 ?_
  refine c_new hO (n + 6) rfl lw_RX2_37 (hl 6 _ rfl).1 (by decide) (by decide) dX2_init_65 ?_
  refine c_dup hO dX2_init_68 ?_
  refine c_call hO hao li_RX2_39 (cc_X0_init (cG Γ) (cN (cR (cN (cR (cN (cR (cN (cR (cN (cR (cN (cR (cN (cI (cI (n, I, L, R) c 0 ((0 : Int32))) c 1 ((0 : Int32)))) c 2 (n + 0))) c 3 (n + 1))) c 4 (n + 2))) c 5 (n + 3))) c 6 (n + 4))) c 7 (n + 5))) (n + 7) (n + 6) rfl (hl.sub 7 rfl) (show n + 6 < n + 7 by omega) (hl 6 _ rfl).1) (Nat.le_of_ble_eq_true rfl) (Nat.le_of_ble_eq_true rfl) (Nat.le_of_ble_eq_true rfl) (Nat.le_of_ble_eq_true rfl) dX2_init_69 ?_
  refine c_putR hO hi (by decide) (fty := .object "HoleDeck$Book") (by decide +kernel) (Or.inl ⟨_, rfl⟩) fk_RX2_40 (show c < n + 11 from Nat.lt_of_lt_of_le hc (Nat.le_add_right n 11)) hk dX2_init_72 ?_
  refine c_aload_n hO 0 rfl rfl dX2_init_75 ?_
  refine c_new hO (n + 11) rfl lw_RX2_44 (hl 11 _ rfl).1 (by decide) (by decide) dX2_init_76 ?_
  refine c_dup hO dX2_init_79 ?_
  refine c_call hO hao li_RX2_46 (cc_X9_init (cG Γ) (cN (cR (Fi_X0_init (cN (cR (cN (cR (cN (cR (cN (cR (cN (cR (cN (cR (cN (cI (cI (n, I, L, R) c 0 ((0 : Int32))) c 1 ((0 : Int32)))) c 2 (n + 0))) c 3 (n + 1))) c 4 (n + 2))) c 5 (n + 3))) c 6 (n + 4))) c 7 (n + 5))) (n + 6)) c 8 (n + 6))) (n + 12) (n + 11) rfl (hl.sub 12 rfl) (show n + 11 < n + 12 by omega) (hl 11 _ rfl).1) (Nat.le_of_ble_eq_true rfl) (Nat.le_of_ble_eq_true rfl) (Nat.le_of_ble_eq_true rfl) (Nat.le_of_ble_eq_true rfl) dX2_init_80 ?_
  refine c_putR hO hi (by decide) (fty := .object "HoleDeck$Steps") (by decide +kernel) (Or.inl ⟨_, rfl⟩) fk_RX2_47 (show c < n + 16 from Nat.lt_of_lt_of_le hc (Nat.le_add_right n 16)) hk dX2_init_83 ?_
  exact c_widen (by decide) (by decide) (ret _ _ dX2_init_86.1)
def Fi_X1_init (h : Hc) (c : Nat) : Hc := cI (cR (cN (cR (cN (cR (Fi_X0_init (cN (cR (Fi_X7_init (cN h) (h.1 + 0)) c 0 (h.1 + 0))) (h.1 + 2)) c 1 (h.1 + 2))) c 2 (h.1 + 7))) c 3 (h.1 + 8)) c 4 ((0 : Int32))
set_option maxHeartbeats 4000000 in
set_option maxRecDepth 100000 in
theorem cc_X1_init (G : Gl) (h : Hc) (n c : Nat) (hn : h.1 = n) (hl : LAY n [(7, 0), (14, 0), (0, 0), (14, 4), (14, 20), (14, 20), (14, 80), (15, 4), (15, 20)]) (hc : c < n) (hk : KD c = 1) : CC G mX1_init c 9 161 h (Fi_X1_init h c) := by
  subst hn
  refine CC.of pn_RX1 (by decide +kernel) rfl (by decide) (fun Γ hG hO hao hi ret => ?_)
  subst hG
  obtain ⟨n, I, L, R⟩ := h
  refine c_aload_n hO 0 rfl rfl dX1_init_0 ?_
  refine c_obj hO lo_RX1_3 (by decide) (by decide) dX1_init_1 ?_
  refine c_aload_n hO 0 rfl rfl dX1_init_4 ?_
  refine c_new hO (n + 0) rfl lw_RX1_9 (hl 0 _ rfl).1 (by decide) (by decide) dX1_init_5 ?_
  refine c_dup hO dX1_init_8 ?_
  refine c_call hO hao li_RX1_11 (cc_X7_init (cG Γ) (cN (n, I, L, R)) (n + 1) (n + 0) rfl (hl.sub 1 rfl) (show n + 0 < n + 1 by omega) (hl 0 _ rfl).1) (Nat.le_of_ble_eq_true rfl) (Nat.le_of_ble_eq_true rfl) (Nat.le_of_ble_eq_true rfl) (Nat.le_of_ble_eq_true rfl) dX1_init_9 ?_
  refine c_putR hO hi (by decide) (fty := .object "HoleDeck$Reader") (by decide +kernel) (Or.inl ⟨_, rfl⟩) fk_RX1_12 (show c < n + 2 from Nat.lt_of_lt_of_le hc (Nat.le_add_right n 2)) hk dX1_init_12 ?_
  refine c_aload_n hO 0 rfl rfl dX1_init_15 ?_
  refine c_new hO (n + 2) rfl lw_RX1_18 (hl 2 _ rfl).1 (by decide) (by decide) dX1_init_16 ?_
  refine c_dup hO dX1_init_19 ?_
  refine c_call hO hao li_RX1_20 (cc_X0_init (cG Γ) (cN (cR (Fi_X7_init (cN (n, I, L, R)) (n + 0)) c 0 (n + 0))) (n + 3) (n + 2) rfl (hl.sub 3 rfl) (show n + 2 < n + 3 by omega) (hl 2 _ rfl).1) (Nat.le_of_ble_eq_true rfl) (Nat.le_of_ble_eq_true rfl) (Nat.le_of_ble_eq_true rfl) (Nat.le_of_ble_eq_true rfl) dX1_init_20 ?_
  refine c_putR hO hi (by decide) (fty := .object "HoleDeck$Book") (by decide +kernel) (Or.inl ⟨_, rfl⟩) fk_RX1_21 (show c < n + 7 from Nat.lt_of_lt_of_le hc (Nat.le_add_right n 7)) hk dX1_init_23 ?_
  refine c_aload_n hO 0 rfl rfl dX1_init_26 ?_
  refine c_iconst hO (v := 4) (by decide) dX1_init_27 ?_
  refine c_newL hO (n + 7) rfl aw_long (N := 4) (by decide) (by decide) (hl 7 _ rfl).1 (hl 7 _ rfl).2 (by decide) (by decide) dX1_init_28 ?_
  refine c_putR hO hi (by decide) (fty := .array (.long)) (by decide +kernel) (Or.inr ⟨_, rfl⟩) fk_RX1_25 (show c < n + 8 from Nat.lt_of_lt_of_le hc (Nat.le_add_right n 8)) hk dX1_init_30 ?_
  refine c_aload_n hO 0 rfl rfl dX1_init_33 ?_
  refine c_bipush hO (v := 20) (by decide) dX1_init_34 ?_
  refine c_newL hO (n + 8) rfl aw_long (N := 20) (by decide) (by decide) (hl 8 _ rfl).1 (hl 8 _ rfl).2 (by decide) (by decide) dX1_init_36 ?_
  refine c_putR hO hi (by decide) (fty := .array (.long)) (by decide +kernel) (Or.inr ⟨_, rfl⟩) fk_RX1_29 (show c < n + 9 from Nat.lt_of_lt_of_le hc (Nat.le_add_right n 9)) hk dX1_init_38 ?_
  refine c_aload_n hO 0 rfl rfl dX1_init_41 ?_
  refine c_iconst hO (v := 0) (by decide) dX1_init_42 ?_
  refine c_putI hO hi fk_RX1_32 (show c < n + 9 from Nat.lt_of_lt_of_le hc (Nat.le_add_right n 9)) hk dX1_init_43 ?_
  exact c_widen (by decide) (by decide) (ret _ _ dX1_init_46.1)
def Fi_X8_init (h : Hc) (c : Nat) : Hc := cI (cI (cI (cR (cN (cR (Fi_X9_init (cN (cR (Fi_X7_init (cN h) (h.1 + 0)) c 0 (h.1 + 0))) (h.1 + 2)) c 1 (h.1 + 2))) c 2 (h.1 + 7)) c 3 ((0 : Int32))) c 4 ((0 : Int32))) c 5 ((0 : Int32))
set_option maxHeartbeats 4000000 in
set_option maxRecDepth 100000 in
theorem cc_X8_init (G : Gl) (h : Hc) (n c : Nat) (hn : h.1 = n) (hl : LAY n [(7, 0), (14, 0), (9, 0), (14, 80), (14, 80), (14, 80), (14, 80), (14, 3)]) (hc : c < n) (hk : KD c = 8) : CC G mX8_init c 8 336 h (Fi_X8_init h c) := by
  subst hn
  refine CC.of pn_RX8 (by decide +kernel) rfl (by decide) (fun Γ hG hO hao hi ret => ?_)
  subst hG
  obtain ⟨n, I, L, R⟩ := h
  refine c_aload_n hO 0 rfl rfl dX8_init_0 ?_
  refine c_obj hO lo_RX8_3 (by decide) (by decide) dX8_init_1 ?_
  refine c_aload_n hO 0 rfl rfl dX8_init_4 ?_
  refine c_new hO (n + 0) rfl lw_RX8_9 (hl 0 _ rfl).1 (by decide) (by decide) dX8_init_5 ?_
  refine c_dup hO dX8_init_8 ?_
  refine c_call hO hao li_RX8_11 (cc_X7_init (cG Γ) (cN (n, I, L, R)) (n + 1) (n + 0) rfl (hl.sub 1 rfl) (show n + 0 < n + 1 by omega) (hl 0 _ rfl).1) (Nat.le_of_ble_eq_true rfl) (Nat.le_of_ble_eq_true rfl) (Nat.le_of_ble_eq_true rfl) (Nat.le_of_ble_eq_true rfl) dX8_init_9 ?_
  refine c_putR hO hi (by decide) (fty := .object "HoleDeck$Reader") (by decide +kernel) (Or.inl ⟨_, rfl⟩) fk_RX8_12 (show c < n + 2 from Nat.lt_of_lt_of_le hc (Nat.le_add_right n 2)) hk dX8_init_12 ?_
  refine c_aload_n hO 0 rfl rfl dX8_init_15 ?_
  refine c_new hO (n + 2) rfl lw_RX8_18 (hl 2 _ rfl).1 (by decide) (by decide) dX8_init_16 ?_
  refine c_dup hO dX8_init_19 ?_
  refine c_call hO hao li_RX8_20 (cc_X9_init (cG Γ) (cN (cR (Fi_X7_init (cN (n, I, L, R)) (n + 0)) c 0 (n + 0))) (n + 3) (n + 2) rfl (hl.sub 3 rfl) (show n + 2 < n + 3 by omega) (hl 2 _ rfl).1) (Nat.le_of_ble_eq_true rfl) (Nat.le_of_ble_eq_true rfl) (Nat.le_of_ble_eq_true rfl) (Nat.le_of_ble_eq_true rfl) dX8_init_20 ?_
  refine c_putR hO hi (by decide) (fty := .object "HoleDeck$Steps") (by decide +kernel) (Or.inl ⟨_, rfl⟩) fk_RX8_21 (show c < n + 7 from Nat.lt_of_lt_of_le hc (Nat.le_add_right n 7)) hk dX8_init_23 ?_
  refine c_aload_n hO 0 rfl rfl dX8_init_26 ?_
  refine c_iconst hO (v := 3) (by decide) dX8_init_27 ?_
  refine c_newI hO (n + 7) rfl aw_int (N := 3) (by decide) (by decide) (hl 7 _ rfl).1 (hl 7 _ rfl).2 (by decide) (by decide) dX8_init_28 ?_
  refine c_putR hO hi (by decide) (fty := .array (.int)) (by decide +kernel) (Or.inr ⟨_, rfl⟩) fk_RX8_25 (show c < n + 8 from Nat.lt_of_lt_of_le hc (Nat.le_add_right n 8)) hk dX8_init_30 ?_
  refine c_aload_n hO 0 rfl rfl dX8_init_33 ?_
  refine c_iconst hO (v := 0) (by decide) dX8_init_34 ?_
  refine c_putI hO hi fk_RX8_29 (show c < n + 8 from Nat.lt_of_lt_of_le hc (Nat.le_add_right n 8)) hk dX8_init_35 ?_
  refine c_aload_n hO 0 rfl rfl dX8_init_38 ?_
  refine c_iconst hO (v := 0) (by decide) dX8_init_39 ?_
  refine c_putI hO hi fk_RX8_33 (show c < n + 8 from Nat.lt_of_lt_of_le hc (Nat.le_add_right n 8)) hk dX8_init_40 ?_
  refine c_aload_n hO 0 rfl rfl dX8_init_43 ?_
  refine c_iconst hO (v := 0) (by decide) dX8_init_44 ?_
  refine c_putI hO hi fk_RX8_36 (show c < n + 8 from Nat.lt_of_lt_of_le hc (Nat.le_add_right n 8)) hk dX8_init_45 ?_
  exact c_widen (by decide) (by decide) (ret _ _ dX8_init_48.1)
def Fi_X11_init (h : Hc) (c : Nat) : Hc := cR (Fi_X2_init (cN (cR (Fi_X2_init (cN (cR (Fi_X2_init (cN (cR (Fi_X10_init (cN (cR (Fi_X10_init (cN (cR (Fi_X10_init (cN (cR (Fi_X10_init (cN (cI (cI (cI (cI (cL (cL (cI (cR (Fi_X5_init (cN (cR (Fi_X4_init (cN (cR (Fi_X6_init (cN (cR (Fi_X3_init (cN (cR (Fi_X8_init (cN (cR (Fi_X1_init (cN (cR (cN (cR (Fi_X2_init (cN (cR (cN (cR (cN h) 0 0 1)) 0 1 2)) 3) 0 2 3)) 0 3 20)) 21) 0 4 21)) 31) 0 5 31)) 40) 0 6 40)) 44) 0 7 44)) 51) 0 8 51)) 57) 0 9 57) 0 10 ((0 : Int32))) 0 11 ((0 : Int64))) 0 12 ((1 : Int64))) 0 13 ((0 : Int32))) 0 14 ((0 : Int32))) 0 15 ((-1 : Int32))) 0 16 ((-1 : Int32)))) 63) 1 0 63)) 65) 1 1 65)) 67) 1 2 67)) 69) 1 3 69)) 71) 20 0 71)) 88) 20 1 88)) 105) 20 2 105
set_option maxHeartbeats 4000000 in
set_option maxRecDepth 100000 in
theorem cc_X11_init (G : Gl) (h : Hc) (hn : h.1 = 1) : CC G mX11_init 0 121 6006 h (Fi_X11_init h 0) := by
  have hl : LAY 1 [(17, 4), (14, 500), (2, 0), (14, 240), (14, 240), (14, 30), (14, 30), (14, 30), (14, 30), (0, 0), (14, 4), (14, 20), (14, 20), (14, 80), (9, 0), (14, 80), (14, 80), (14, 80), (14, 80), (16, 3), (1, 0), (7, 0), (14, 0), (0, 0), (14, 4), (14, 20), (14, 20), (14, 80), (15, 4), (15, 20), (8, 0), (7, 0), (14, 0), (9, 0), (14, 80), (14, 80), (14, 80), (14, 80), (14, 3), (3, 0), (14, 30), (14, 13), (14, 80), (6, 0), (14, 4), (14, 30), (14, 4), (14, 4), (14, 30), (14, 4), (4, 0), (14, 4), (14, 4), (15, 13), (14, 30), (14, 30), (5, 0), (14, 30), (14, 31), (14, 31), (14, 31), (14, 31), (10, 0), (15, 60), (10, 0), (15, 60), (10, 0), (15, 60), (10, 0), (15, 60), (2, 0), (14, 240), (14, 240), (14, 30), (14, 30), (14, 30), (14, 30), (0, 0), (14, 4), (14, 20), (14, 20), (14, 80), (9, 0), (14, 80), (14, 80), (14, 80), (14, 80), (2, 0), (14, 240), (14, 240), (14, 30), (14, 30), (14, 30), (14, 30), (0, 0), (14, 4), (14, 20), (14, 20), (14, 80), (9, 0), (14, 80), (14, 80), (14, 80), (14, 80), (2, 0), (14, 240), (14, 240), (14, 30), (14, 30), (14, 30), (14, 30), (0, 0), (14, 4), (14, 20), (14, 20), (14, 80), (9, 0), (14, 80), (14, 80), (14, 80), (14, 80)] := LAY.of (by decide +kernel)
  have hk : KD 0 = 11 := by decide +kernel
  refine CC.of pn_RX11 (by decide +kernel) rfl (by decide) (fun Γ hG hO hao hi ret => ?_)
  subst hG
  obtain ⟨n, I, L, R⟩ := h
  have hn : n = 1 := hn
  subst hn
  refine c_aload_n hO 0 rfl rfl dX11_init_0 ?_
  refine c_obj hO lo_RX11_1 (by decide) (by decide) dX11_init_1 ?_
  refine c_aload_n hO 0 rfl rfl dX11_init_4 ?_
  refine c_iconst hO (v := 4) (by decide) dX11_init_5 ?_
  refine c_newq hO 1 rfl (C := "HoleDeck$Tray") (kd := 17) (List.mem_filter.mpr ⟨List.mem_append_right _ (tbi1 _ (List.mem_of_getElem? (i := 30) rfl)), rfl⟩) (fun s e => e ▸ hao.2) (by decide) (N := 4) (by decide) (by decide) (hl 0 _ rfl).1 (hl 0 _ rfl).2 (by decide) (by decide) dX11_init_6 ?_
  refine c_putR hO hi (by decide) (fty := .array (.object "HoleDeck$Tray")) (by decide +kernel) (Or.inr ⟨_, rfl⟩) fk_RX11_11 (show 0 < 2 by decide) hk dX11_init_9 ?_
  refine c_aload_n hO 0 rfl rfl dX11_init_12 ?_
  refine c_sipush hO (v := 500) (by decide) dX11_init_13 ?_
  refine c_newI hO 2 rfl aw_int (N := 500) (by decide) (by decide) (hl 1 _ rfl).1 (hl 1 _ rfl).2 (by decide) (by decide) dX11_init_16 ?_
  refine c_putR hO hi (by decide) (fty := .array (.int)) (by decide +kernel) (Or.inr ⟨_, rfl⟩) fk_RX11_15 (show 0 < 3 by decide) hk dX11_init_18 ?_
  refine c_aload_n hO 0 rfl rfl dX11_init_21 ?_
  refine c_new hO 3 rfl lw_RX11_19 (hl 2 _ rfl).1 (by decide) (by decide) dX11_init_22 ?_
  refine c_dup hO dX11_init_25 ?_
  refine c_call hO hao li_RX11_21 (cc_X2_init (cG Γ) (cN (cR (cN (cR (cN (1, I, L, R)) 0 0 1)) 0 1 2)) 4 3 rfl (hl.sub 3 rfl) (show 3 < 4 by decide) (hl 2 _ rfl).1) (Nat.le_of_ble_eq_true rfl) (Nat.le_of_ble_eq_true rfl) (Nat.le_of_ble_eq_true rfl) (Nat.le_of_ble_eq_true rfl) dX11_init_26 ?_
  refine c_putR hO hi (by decide) (fty := .object "HoleDeck$House") (by decide +kernel) (Or.inl ⟨_, rfl⟩) fk_RX11_22 (show 0 < 20 by decide) hk dX11_init_29 ?_
  refine c_aload_n hO 0 rfl rfl dX11_init_32 ?_
  refine c_iconst hO (v := 3) (by decide) dX11_init_33 ?_
  refine c_newq hO 20 rfl (C := "HoleDeck$House") (kd := 16) (List.mem_filter.mpr ⟨List.mem_append_right _ (tbi1 _ (List.mem_of_getElem? (i := 32) rfl)), rfl⟩) (fun s e => e ▸ hao.1) (by decide) (N := 3) (by decide) (by decide) (hl 19 _ rfl).1 (hl 19 _ rfl).2 (by decide) (by decide) dX11_init_34 ?_
  refine c_putR hO hi (by decide) (fty := .array (.object "HoleDeck$House")) (by decide +kernel) (Or.inr ⟨_, rfl⟩) fk_RX11_26 (show 0 < 21 by decide) hk dX11_init_37 ?_
  refine c_aload_n hO 0 rfl rfl dX11_init_40 ?_
  refine c_new hO 21 rfl lw_RX11_30 (hl 20 _ rfl).1 (by decide) (by decide) dX11_init_41 ?_
  refine c_dup hO dX11_init_44 ?_
  refine c_call hO hao li_RX11_32 (cc_X1_init (cG Γ) (cN (cR (cN (cR (Fi_X2_init (cN (cR (cN (cR (cN (1, I, L, R)) 0 0 1)) 0 1 2)) 3) 0 2 3)) 0 3 20)) 22 21 rfl (hl.sub 21 rfl) (show 21 < 22 by decide) (hl 20 _ rfl).1) (Nat.le_of_ble_eq_true rfl) (Nat.le_of_ble_eq_true rfl) (Nat.le_of_ble_eq_true rfl) (Nat.le_of_ble_eq_true rfl) dX11_init_45 ?_
  refine c_putR hO hi (by decide) (fty := .object "HoleDeck$BookReader") (by decide +kernel) (Or.inl ⟨_, rfl⟩) fk_RX11_33 (show 0 < 31 by decide) hk dX11_init_48 ?_
  refine c_aload_n hO 0 rfl rfl dX11_init_51 ?_
  refine c_new hO 31 rfl lw_RX11_37 (hl 30 _ rfl).1 (by decide) (by decide) dX11_init_52 ?_
  refine c_dup hO dX11_init_55 ?_
  refine c_call hO hao li_RX11_39 (cc_X8_init (cG Γ) (cN (cR (Fi_X1_init (cN (cR (cN (cR (Fi_X2_init (cN (cR (cN (cR (cN (1, I, L, R)) 0 0 1)) 0 1 2)) 3) 0 2 3)) 0 3 20)) 21) 0 4 21)) 32 31 rfl (hl.sub 31 rfl) (show 31 < 32 by decide) (hl 30 _ rfl).1) (Nat.le_of_ble_eq_true rfl) (Nat.le_of_ble_eq_true rfl) (Nat.le_of_ble_eq_true rfl) (Nat.le_of_ble_eq_true rfl) dX11_init_56 ?_
  refine c_putR hO hi (by decide) (fty := .object "HoleDeck$StepReader") (by decide +kernel) (Or.inl ⟨_, rfl⟩) fk_RX11_40 (show 0 < 40 by decide) hk dX11_init_59 ?_
  refine c_aload_n hO 0 rfl rfl dX11_init_62 ?_
  refine c_new hO 40 rfl lw_RX11_44 (hl 39 _ rfl).1 (by decide) (by decide) dX11_init_63 ?_
  refine c_dup hO dX11_init_66 ?_
  refine c_call hO hao li_RX11_46 (cc_X3_init (cG Γ) (cN (cR (Fi_X8_init (cN (cR (Fi_X1_init (cN (cR (cN (cR (Fi_X2_init (cN (cR (cN (cR (cN (1, I, L, R)) 0 0 1)) 0 1 2)) 3) 0 2 3)) 0 3 20)) 21) 0 4 21)) 31) 0 5 31)) 41 40 rfl (hl.sub 40 rfl) (show 40 < 41 by decide) (hl 39 _ rfl).1) (Nat.le_of_ble_eq_true rfl) (Nat.le_of_ble_eq_true rfl) (Nat.le_of_ble_eq_true rfl) (Nat.le_of_ble_eq_true rfl) dX11_init_67 ?_
  refine c_putR hO hi (by decide) (fty := .object "HoleDeck$Machine") (by decide +kernel) (Or.inl ⟨_, rfl⟩) fk_RX11_47 (show 0 < 44 by decide) hk dX11_init_70 ?_
  refine c_aload_n hO 0 rfl rfl dX11_init_73 ?_
  refine c_new hO 44 rfl lw_RX11_51 (hl 43 _ rfl).1 (by decide) (by decide) dX11_init_74 ?_
  refine c_dup hO dX11_init_77 ?_
  refine c_call hO hao li_RX11_53 (cc_X6_init (cG Γ) (cN (cR (Fi_X3_init (cN (cR (Fi_X8_init (cN (cR (Fi_X1_init (cN (cR (cN (cR (Fi_X2_init (cN (cR (cN (cR (cN (1, I, L, R)) 0 0 1)) 0 1 2)) 3) 0 2 3)) 0 3 20)) 21) 0 4 21)) 31) 0 5 31)) 40) 0 6 40)) 45 44 rfl (hl.sub 44 rfl) (show 44 < 45 by decide) (hl 43 _ rfl).1) (Nat.le_of_ble_eq_true rfl) (Nat.le_of_ble_eq_true rfl) (Nat.le_of_ble_eq_true rfl) (Nat.le_of_ble_eq_true rfl) dX11_init_78 ?_
  refine c_putR hO hi (by decide) (fty := .object "HoleDeck$Planner") (by decide +kernel) (Or.inl ⟨_, rfl⟩) fk_RX11_54 (show 0 < 51 by decide) hk dX11_init_81 ?_
  refine c_aload_n hO 0 rfl rfl dX11_init_84 ?_
  refine c_new hO 51 rfl lw_RX11_58 (hl 50 _ rfl).1 (by decide) (by decide) dX11_init_85 ?_
  refine c_dup hO dX11_init_88 ?_
  refine c_call hO hao li_RX11_60 (cc_X4_init (cG Γ) (cN (cR (Fi_X6_init (cN (cR (Fi_X3_init (cN (cR (Fi_X8_init (cN (cR (Fi_X1_init (cN (cR (cN (cR (Fi_X2_init (cN (cR (cN (cR (cN (1, I, L, R)) 0 0 1)) 0 1 2)) 3) 0 2 3)) 0 3 20)) 21) 0 4 21)) 31) 0 5 31)) 40) 0 6 40)) 44) 0 7 44)) 52 51 rfl (hl.sub 51 rfl) (show 51 < 52 by decide) (hl 50 _ rfl).1) (Nat.le_of_ble_eq_true rfl) (Nat.le_of_ble_eq_true rfl) (Nat.le_of_ble_eq_true rfl) (Nat.le_of_ble_eq_true rfl) dX11_init_89 ?_
  refine c_putR hO hi (by decide) (fty := .object "HoleDeck$Misreads") (by decide +kernel) (Or.inl ⟨_, rfl⟩) fk_RX11_61 (show 0 < 57 by decide) hk dX11_init_92 ?_
  refine c_aload_n hO 0 rfl rfl dX11_init_95 ?_
  refine c_new hO 57 rfl lw_RX11_65 (hl 56 _ rfl).1 (by decide) (by decide) dX11_init_96 ?_
  refine c_dup hO dX11_init_99 ?_
  refine c_call hO hao li_RX11_67 (cc_X5_init (cG Γ) (cN (cR (Fi_X4_init (cN (cR (Fi_X6_init (cN (cR (Fi_X3_init (cN (cR (Fi_X8_init (cN (cR (Fi_X1_init (cN (cR (cN (cR (Fi_X2_init (cN (cR (cN (cR (cN (1, I, L, R)) 0 0 1)) 0 1 2)) 3) 0 2 3)) 0 3 20)) 21) 0 4 21)) 31) 0 5 31)) 40) 0 6 40)) 44) 0 7 44)) 51) 0 8 51)) 58 57 rfl (hl.sub 57 rfl) (show 57 < 58 by decide) (hl 56 _ rfl).1) (Nat.le_of_ble_eq_true rfl) (Nat.le_of_ble_eq_true rfl) (Nat.le_of_ble_eq_true rfl) (Nat.le_of_ble_eq_true rfl) dX11_init_100 ?_
  refine c_putR hO hi (by decide) (fty := .object "HoleDeck$Parting") (by decide +kernel) (Or.inl ⟨_, rfl⟩) fk_RX11_68 (show 0 < 63 by decide) hk dX11_init_103 ?_
  refine c_aload_n hO 0 rfl rfl dX11_init_106 ?_
  refine c_iconst hO (v := 0) (by decide) dX11_init_107 ?_
  refine c_putI hO hi fk_RX11_72 (show 0 < 63 by decide) hk dX11_init_108 ?_
  refine c_aload_n hO 0 rfl rfl dX11_init_111 ?_
  refine c_lconst hO (v := 0) (by decide) dX11_init_112 ?_
  refine c_putL hO hi fk_RX11_76 (show 0 < 63 by decide) hk dX11_init_113 ?_
  refine c_aload_n hO 0 rfl rfl dX11_init_116 ?_
  refine c_lconst hO (v := 1) (by decide) dX11_init_117 ?_
  refine c_putL hO hi fk_RX11_80 (show 0 < 63 by decide) hk dX11_init_118 ?_
  refine c_aload_n hO 0 rfl rfl dX11_init_121 ?_
  refine c_iconst hO (v := 0) (by decide) dX11_init_122 ?_
  refine c_putI hO hi fk_RX11_83 (show 0 < 63 by decide) hk dX11_init_123 ?_
  refine c_aload_n hO 0 rfl rfl dX11_init_126 ?_
  refine c_iconst hO (v := 0) (by decide) dX11_init_127 ?_
  refine c_putI hO hi fk_RX11_86 (show 0 < 63 by decide) hk dX11_init_128 ?_
  refine c_aload_n hO 0 rfl rfl dX11_init_131 ?_
  refine c_iconst hO (v := -1) (by decide) dX11_init_132 ?_
  refine c_putI hO hi fk_RX11_89 (show 0 < 63 by decide) hk dX11_init_133 ?_
  refine c_aload_n hO 0 rfl rfl dX11_init_136 ?_
  refine c_iconst hO (v := -1) (by decide) dX11_init_137 ?_
  refine c_putI hO hi fk_RX11_92 (show 0 < 63 by decide) hk dX11_init_138 ?_
  refine c_iconst hO (v := 0) (by decide) dX11_init_141 ?_
  refine c_istore_n hO rfl [(1, .int ((0 : Int32))), (0, .ref (gb (cG Γ) + 0))] dX11_init_142 (by decide) rfl ?_
  refine c_iload_n hO 0 rfl rfl dX11_init_143 ?_
  refine c_iconst hO (v := 4) (by decide) dX11_init_144 ?_
  refine c_ge_f hO (tg := 167) (by decide) dX11_init_145 (by decide) ?_
  refine c_aload_n hO 1 rfl rfl dX11_init_148 ?_
  refine c_getR hO (b := 1) (by decide) fk_RX11_11 (show 0 < 63 by decide) hk rfl dX11_init_149 ?_
  refine c_iload_n hO 0 rfl rfl dX11_init_152 ?_
  refine c_new hO 63 rfl lw_RX11_9 (hl 62 _ rfl).1 (by decide) (by decide) dX11_init_153 ?_
  refine c_dup hO dX11_init_156 ?_
  refine c_call hO hao li_RX11_95 (cc_X10_init (cG Γ) (cN (cI (cI (cI (cI (cL (cL (cI (cR (Fi_X5_init (cN (cR (Fi_X4_init (cN (cR (Fi_X6_init (cN (cR (Fi_X3_init (cN (cR (Fi_X8_init (cN (cR (Fi_X1_init (cN (cR (cN (cR (Fi_X2_init (cN (cR (cN (cR (cN (1, I, L, R)) 0 0 1)) 0 1 2)) 3) 0 2 3)) 0 3 20)) 21) 0 4 21)) 31) 0 5 31)) 40) 0 6 40)) 44) 0 7 44)) 51) 0 8 51)) 57) 0 9 57) 0 10 ((0 : Int32))) 0 11 ((0 : Int64))) 0 12 ((1 : Int64))) 0 13 ((0 : Int32))) 0 14 ((0 : Int32))) 0 15 ((-1 : Int32))) 0 16 ((-1 : Int32)))) 64 63 rfl (hl.sub 63 rfl) (show 63 < 64 by decide) (hl 62 _ rfl).1) (Nat.le_of_ble_eq_true rfl) (Nat.le_of_ble_eq_true rfl) (Nat.le_of_ble_eq_true rfl) (Nat.le_of_ble_eq_true rfl) dX11_init_157 ?_
  refine c_aast hO (j := 0) (t0 := 4) (show 1 < 65 by decide) (hl 0 _ rfl).1 (by decide) (fun _ => rfl) (show 63 < 65 by decide) (hl 62 _ rfl).1 (by decide) vc_10 (by decide) (by rw [(hl 0 _ rfl).2]; decide) (by rw [(hl 0 _ rfl).2]; decide) dX11_init_160 ?_
  refine c_iinc hO 0 (v := 1) [(1, .int ((1 : Int32))), (0, .ref (gb (cG Γ) + 0))] dX11_init_161 rfl (by decide) (w := 1) (by decide) (by decide) rfl ?_
  refine c_goto hO (tg := 143) dX11_init_164 (by decide) ?_
  refine c_iload_n hO 0 rfl rfl dX11_init_143 ?_
  refine c_iconst hO (v := 4) (by decide) dX11_init_144 ?_
  refine c_ge_f hO (tg := 167) (by decide) dX11_init_145 (by decide) ?_
  refine c_aload_n hO 1 rfl rfl dX11_init_148 ?_
  refine c_getR hO (b := 1) (by decide) fk_RX11_11 (show 0 < 65 by decide) hk rfl dX11_init_149 ?_
  refine c_iload_n hO 0 rfl rfl dX11_init_152 ?_
  refine c_new hO 65 rfl lw_RX11_9 (hl 64 _ rfl).1 (by decide) (by decide) dX11_init_153 ?_
  refine c_dup hO dX11_init_156 ?_
  refine c_call hO hao li_RX11_95 (cc_X10_init (cG Γ) (cN (cR (Fi_X10_init (cN (cI (cI (cI (cI (cL (cL (cI (cR (Fi_X5_init (cN (cR (Fi_X4_init (cN (cR (Fi_X6_init (cN (cR (Fi_X3_init (cN (cR (Fi_X8_init (cN (cR (Fi_X1_init (cN (cR (cN (cR (Fi_X2_init (cN (cR (cN (cR (cN (1, I, L, R)) 0 0 1)) 0 1 2)) 3) 0 2 3)) 0 3 20)) 21) 0 4 21)) 31) 0 5 31)) 40) 0 6 40)) 44) 0 7 44)) 51) 0 8 51)) 57) 0 9 57) 0 10 ((0 : Int32))) 0 11 ((0 : Int64))) 0 12 ((1 : Int64))) 0 13 ((0 : Int32))) 0 14 ((0 : Int32))) 0 15 ((-1 : Int32))) 0 16 ((-1 : Int32)))) 63) 1 0 63)) 66 65 rfl (hl.sub 65 rfl) (show 65 < 66 by decide) (hl 64 _ rfl).1) (Nat.le_of_ble_eq_true rfl) (Nat.le_of_ble_eq_true rfl) (Nat.le_of_ble_eq_true rfl) (Nat.le_of_ble_eq_true rfl) dX11_init_157 ?_
  refine c_aast hO (j := 1) (t0 := 4) (show 1 < 67 by decide) (hl 0 _ rfl).1 (by decide) (fun _ => rfl) (show 65 < 67 by decide) (hl 64 _ rfl).1 (by decide) vc_10 (by decide) (by rw [(hl 0 _ rfl).2]; decide) (by rw [(hl 0 _ rfl).2]; decide) dX11_init_160 ?_
  refine c_iinc hO 0 (v := 1) [(1, .int ((2 : Int32))), (0, .ref (gb (cG Γ) + 0))] dX11_init_161 rfl (by decide) (w := 2) (by decide) (by decide) rfl ?_
  refine c_goto hO (tg := 143) dX11_init_164 (by decide) ?_
  refine c_iload_n hO 0 rfl rfl dX11_init_143 ?_
  refine c_iconst hO (v := 4) (by decide) dX11_init_144 ?_
  refine c_ge_f hO (tg := 167) (by decide) dX11_init_145 (by decide) ?_
  refine c_aload_n hO 1 rfl rfl dX11_init_148 ?_
  refine c_getR hO (b := 1) (by decide) fk_RX11_11 (show 0 < 67 by decide) hk rfl dX11_init_149 ?_
  refine c_iload_n hO 0 rfl rfl dX11_init_152 ?_
  refine c_new hO 67 rfl lw_RX11_9 (hl 66 _ rfl).1 (by decide) (by decide) dX11_init_153 ?_
  refine c_dup hO dX11_init_156 ?_
  refine c_call hO hao li_RX11_95 (cc_X10_init (cG Γ) (cN (cR (Fi_X10_init (cN (cR (Fi_X10_init (cN (cI (cI (cI (cI (cL (cL (cI (cR (Fi_X5_init (cN (cR (Fi_X4_init (cN (cR (Fi_X6_init (cN (cR (Fi_X3_init (cN (cR (Fi_X8_init (cN (cR (Fi_X1_init (cN (cR (cN (cR (Fi_X2_init (cN (cR (cN (cR (cN (1, I, L, R)) 0 0 1)) 0 1 2)) 3) 0 2 3)) 0 3 20)) 21) 0 4 21)) 31) 0 5 31)) 40) 0 6 40)) 44) 0 7 44)) 51) 0 8 51)) 57) 0 9 57) 0 10 ((0 : Int32))) 0 11 ((0 : Int64))) 0 12 ((1 : Int64))) 0 13 ((0 : Int32))) 0 14 ((0 : Int32))) 0 15 ((-1 : Int32))) 0 16 ((-1 : Int32)))) 63) 1 0 63)) 65) 1 1 65)) 68 67 rfl (hl.sub 67 rfl) (show 67 < 68 by decide) (hl 66 _ rfl).1) (Nat.le_of_ble_eq_true rfl) (Nat.le_of_ble_eq_true rfl) (Nat.le_of_ble_eq_true rfl) (Nat.le_of_ble_eq_true rfl) dX11_init_157 ?_
  refine c_aast hO (j := 2) (t0 := 4) (show 1 < 69 by decide) (hl 0 _ rfl).1 (by decide) (fun _ => rfl) (show 67 < 69 by decide) (hl 66 _ rfl).1 (by decide) vc_10 (by decide) (by rw [(hl 0 _ rfl).2]; decide) (by rw [(hl 0 _ rfl).2]; decide) dX11_init_160 ?_
  refine c_iinc hO 0 (v := 1) [(1, .int ((3 : Int32))), (0, .ref (gb (cG Γ) + 0))] dX11_init_161 rfl (by decide) (w := 3) (by decide) (by decide) rfl ?_
  refine c_goto hO (tg := 143) dX11_init_164 (by decide) ?_
  refine c_iload_n hO 0 rfl rfl dX11_init_143 ?_
  refine c_iconst hO (v := 4) (by decide) dX11_init_144 ?_
  refine c_ge_f hO (tg := 167) (by decide) dX11_init_145 (by decide) ?_
  refine c_aload_n hO 1 rfl rfl dX11_init_148 ?_
  refine c_getR hO (b := 1) (by decide) fk_RX11_11 (show 0 < 69 by decide) hk rfl dX11_init_149 ?_
  refine c_iload_n hO 0 rfl rfl dX11_init_152 ?_
  refine c_new hO 69 rfl lw_RX11_9 (hl 68 _ rfl).1 (by decide) (by decide) dX11_init_153 ?_
  refine c_dup hO dX11_init_156 ?_
  refine c_call hO hao li_RX11_95 (cc_X10_init (cG Γ) (cN (cR (Fi_X10_init (cN (cR (Fi_X10_init (cN (cR (Fi_X10_init (cN (cI (cI (cI (cI (cL (cL (cI (cR (Fi_X5_init (cN (cR (Fi_X4_init (cN (cR (Fi_X6_init (cN (cR (Fi_X3_init (cN (cR (Fi_X8_init (cN (cR (Fi_X1_init (cN (cR (cN (cR (Fi_X2_init (cN (cR (cN (cR (cN (1, I, L, R)) 0 0 1)) 0 1 2)) 3) 0 2 3)) 0 3 20)) 21) 0 4 21)) 31) 0 5 31)) 40) 0 6 40)) 44) 0 7 44)) 51) 0 8 51)) 57) 0 9 57) 0 10 ((0 : Int32))) 0 11 ((0 : Int64))) 0 12 ((1 : Int64))) 0 13 ((0 : Int32))) 0 14 ((0 : Int32))) 0 15 ((-1 : Int32))) 0 16 ((-1 : Int32)))) 63) 1 0 63)) 65) 1 1 65)) 67) 1 2 67)) 70 69 rfl (hl.sub 69 rfl) (show 69 < 70 by decide) (hl 68 _ rfl).1) (Nat.le_of_ble_eq_true rfl) (Nat.le_of_ble_eq_true rfl) (Nat.le_of_ble_eq_true rfl) (Nat.le_of_ble_eq_true rfl) dX11_init_157 ?_
  refine c_aast hO (j := 3) (t0 := 4) (show 1 < 71 by decide) (hl 0 _ rfl).1 (by decide) (fun _ => rfl) (show 69 < 71 by decide) (hl 68 _ rfl).1 (by decide) vc_10 (by decide) (by rw [(hl 0 _ rfl).2]; decide) (by rw [(hl 0 _ rfl).2]; decide) dX11_init_160 ?_
  refine c_iinc hO 0 (v := 1) [(1, .int ((4 : Int32))), (0, .ref (gb (cG Γ) + 0))] dX11_init_161 rfl (by decide) (w := 4) (by decide) (by decide) rfl ?_
  refine c_goto hO (tg := 143) dX11_init_164 (by decide) ?_
  refine c_iload_n hO 0 rfl rfl dX11_init_143 ?_
  refine c_iconst hO (v := 4) (by decide) dX11_init_144 ?_
  refine c_ge_t hO (tg := 167) (by decide) dX11_init_145 (by decide) ?_
  refine c_iconst hO (v := 0) (by decide) dX11_init_167 ?_
  refine c_istore_n hO rfl [(1, .int ((0 : Int32))), (0, .ref (gb (cG Γ) + 0))] dX11_init_168 (by decide) rfl ?_
  refine c_iload_n hO 0 rfl rfl dX11_init_169 ?_
  refine c_iconst hO (v := 3) (by decide) dX11_init_170 ?_
  refine c_ge_f hO (tg := 193) (by decide) dX11_init_171 (by decide) ?_
  refine c_aload_n hO 1 rfl rfl dX11_init_174 ?_
  refine c_getR hO (b := 20) (by decide) fk_RX11_26 (show 0 < 71 by decide) hk rfl dX11_init_175 ?_
  refine c_iload_n hO 0 rfl rfl dX11_init_178 ?_
  refine c_new hO 71 rfl lw_RX11_19 (hl 70 _ rfl).1 (by decide) (by decide) dX11_init_179 ?_
  refine c_dup hO dX11_init_182 ?_
  refine c_call hO hao li_RX11_21 (cc_X2_init (cG Γ) (cN (cR (Fi_X10_init (cN (cR (Fi_X10_init (cN (cR (Fi_X10_init (cN (cR (Fi_X10_init (cN (cI (cI (cI (cI (cL (cL (cI (cR (Fi_X5_init (cN (cR (Fi_X4_init (cN (cR (Fi_X6_init (cN (cR (Fi_X3_init (cN (cR (Fi_X8_init (cN (cR (Fi_X1_init (cN (cR (cN (cR (Fi_X2_init (cN (cR (cN (cR (cN (1, I, L, R)) 0 0 1)) 0 1 2)) 3) 0 2 3)) 0 3 20)) 21) 0 4 21)) 31) 0 5 31)) 40) 0 6 40)) 44) 0 7 44)) 51) 0 8 51)) 57) 0 9 57) 0 10 ((0 : Int32))) 0 11 ((0 : Int64))) 0 12 ((1 : Int64))) 0 13 ((0 : Int32))) 0 14 ((0 : Int32))) 0 15 ((-1 : Int32))) 0 16 ((-1 : Int32)))) 63) 1 0 63)) 65) 1 1 65)) 67) 1 2 67)) 69) 1 3 69)) 72 71 rfl (hl.sub 71 rfl) (show 71 < 72 by decide) (hl 70 _ rfl).1) (Nat.le_of_ble_eq_true rfl) (Nat.le_of_ble_eq_true rfl) (Nat.le_of_ble_eq_true rfl) (Nat.le_of_ble_eq_true rfl) dX11_init_183 ?_
  refine c_aast hO (j := 0) (t0 := 3) (show 20 < 88 by decide) (hl 19 _ rfl).1 (by decide) (fun _ => rfl) (show 71 < 88 by decide) (hl 70 _ rfl).1 (by decide) vc_2 (by decide) (by rw [(hl 19 _ rfl).2]; decide) (by rw [(hl 19 _ rfl).2]; decide) dX11_init_186 ?_
  refine c_iinc hO 0 (v := 1) [(1, .int ((1 : Int32))), (0, .ref (gb (cG Γ) + 0))] dX11_init_187 rfl (by decide) (w := 1) (by decide) (by decide) rfl ?_
  refine c_goto hO (tg := 169) dX11_init_190 (by decide) ?_
  refine c_iload_n hO 0 rfl rfl dX11_init_169 ?_
  refine c_iconst hO (v := 3) (by decide) dX11_init_170 ?_
  refine c_ge_f hO (tg := 193) (by decide) dX11_init_171 (by decide) ?_
  refine c_aload_n hO 1 rfl rfl dX11_init_174 ?_
  refine c_getR hO (b := 20) (by decide) fk_RX11_26 (show 0 < 88 by decide) hk rfl dX11_init_175 ?_
  refine c_iload_n hO 0 rfl rfl dX11_init_178 ?_
  refine c_new hO 88 rfl lw_RX11_19 (hl 87 _ rfl).1 (by decide) (by decide) dX11_init_179 ?_
  refine c_dup hO dX11_init_182 ?_
  refine c_call hO hao li_RX11_21 (cc_X2_init (cG Γ) (cN (cR (Fi_X2_init (cN (cR (Fi_X10_init (cN (cR (Fi_X10_init (cN (cR (Fi_X10_init (cN (cR (Fi_X10_init (cN (cI (cI (cI (cI (cL (cL (cI (cR (Fi_X5_init (cN (cR (Fi_X4_init (cN (cR (Fi_X6_init (cN (cR (Fi_X3_init (cN (cR (Fi_X8_init (cN (cR (Fi_X1_init (cN (cR (cN (cR (Fi_X2_init (cN (cR (cN (cR (cN (1, I, L, R)) 0 0 1)) 0 1 2)) 3) 0 2 3)) 0 3 20)) 21) 0 4 21)) 31) 0 5 31)) 40) 0 6 40)) 44) 0 7 44)) 51) 0 8 51)) 57) 0 9 57) 0 10 ((0 : Int32))) 0 11 ((0 : Int64))) 0 12 ((1 : Int64))) 0 13 ((0 : Int32))) 0 14 ((0 : Int32))) 0 15 ((-1 : Int32))) 0 16 ((-1 : Int32)))) 63) 1 0 63)) 65) 1 1 65)) 67) 1 2 67)) 69) 1 3 69)) 71) 20 0 71)) 89 88 rfl (hl.sub 88 rfl) (show 88 < 89 by decide) (hl 87 _ rfl).1) (Nat.le_of_ble_eq_true rfl) (Nat.le_of_ble_eq_true rfl) (Nat.le_of_ble_eq_true rfl) (Nat.le_of_ble_eq_true rfl) dX11_init_183 ?_
  refine c_aast hO (j := 1) (t0 := 3) (show 20 < 105 by decide) (hl 19 _ rfl).1 (by decide) (fun _ => rfl) (show 88 < 105 by decide) (hl 87 _ rfl).1 (by decide) vc_2 (by decide) (by rw [(hl 19 _ rfl).2]; decide) (by rw [(hl 19 _ rfl).2]; decide) dX11_init_186 ?_
  refine c_iinc hO 0 (v := 1) [(1, .int ((2 : Int32))), (0, .ref (gb (cG Γ) + 0))] dX11_init_187 rfl (by decide) (w := 2) (by decide) (by decide) rfl ?_
  refine c_goto hO (tg := 169) dX11_init_190 (by decide) ?_
  refine c_iload_n hO 0 rfl rfl dX11_init_169 ?_
  refine c_iconst hO (v := 3) (by decide) dX11_init_170 ?_
  refine c_ge_f hO (tg := 193) (by decide) dX11_init_171 (by decide) ?_
  refine c_aload_n hO 1 rfl rfl dX11_init_174 ?_
  refine c_getR hO (b := 20) (by decide) fk_RX11_26 (show 0 < 105 by decide) hk rfl dX11_init_175 ?_
  refine c_iload_n hO 0 rfl rfl dX11_init_178 ?_
  refine c_new hO 105 rfl lw_RX11_19 (hl 104 _ rfl).1 (by decide) (by decide) dX11_init_179 ?_
  refine c_dup hO dX11_init_182 ?_
  refine c_call hO hao li_RX11_21 (cc_X2_init (cG Γ) (cN (cR (Fi_X2_init (cN (cR (Fi_X2_init (cN (cR (Fi_X10_init (cN (cR (Fi_X10_init (cN (cR (Fi_X10_init (cN (cR (Fi_X10_init (cN (cI (cI (cI (cI (cL (cL (cI (cR (Fi_X5_init (cN (cR (Fi_X4_init (cN (cR (Fi_X6_init (cN (cR (Fi_X3_init (cN (cR (Fi_X8_init (cN (cR (Fi_X1_init (cN (cR (cN (cR (Fi_X2_init (cN (cR (cN (cR (cN (1, I, L, R)) 0 0 1)) 0 1 2)) 3) 0 2 3)) 0 3 20)) 21) 0 4 21)) 31) 0 5 31)) 40) 0 6 40)) 44) 0 7 44)) 51) 0 8 51)) 57) 0 9 57) 0 10 ((0 : Int32))) 0 11 ((0 : Int64))) 0 12 ((1 : Int64))) 0 13 ((0 : Int32))) 0 14 ((0 : Int32))) 0 15 ((-1 : Int32))) 0 16 ((-1 : Int32)))) 63) 1 0 63)) 65) 1 1 65)) 67) 1 2 67)) 69) 1 3 69)) 71) 20 0 71)) 88) 20 1 88)) 106 105 rfl (hl.sub 105 rfl) (show 105 < 106 by decide) (hl 104 _ rfl).1) (Nat.le_of_ble_eq_true rfl) (Nat.le_of_ble_eq_true rfl) (Nat.le_of_ble_eq_true rfl) (Nat.le_of_ble_eq_true rfl) dX11_init_183 ?_
  refine c_aast hO (j := 2) (t0 := 3) (show 20 < 122 by decide) (hl 19 _ rfl).1 (by decide) (fun _ => rfl) (show 105 < 122 by decide) (hl 104 _ rfl).1 (by decide) vc_2 (by decide) (by rw [(hl 19 _ rfl).2]; decide) (by rw [(hl 19 _ rfl).2]; decide) dX11_init_186 ?_
  refine c_iinc hO 0 (v := 1) [(1, .int ((3 : Int32))), (0, .ref (gb (cG Γ) + 0))] dX11_init_187 rfl (by decide) (w := 3) (by decide) (by decide) rfl ?_
  refine c_goto hO (tg := 169) dX11_init_190 (by decide) ?_
  refine c_iload_n hO 0 rfl rfl dX11_init_169 ?_
  refine c_iconst hO (v := 3) (by decide) dX11_init_170 ?_
  refine c_ge_t hO (tg := 193) (by decide) dX11_init_171 (by decide) ?_
  exact c_widen (by decide) (by decide) (ret _ _ dX11_init_193.1)
def Fi_X12_init (h : Hc) (c : Nat) : Hc := cI (cR (cN (cR (cN (cR (cN (cR (cN (cI (cR (cN (cR (cN (cR (cN (cI (cI (cR (cN (cR (cN (cR (cN (cR (cN (cR (cN (cR (cN (cR (cN (cR (cN (cR (cN (cR (cN (cR (cN (cI (cI (cR (cN (cR (cN (cR (cN (cR (cI (cI (cI (cI (cN (cR (cN (cL (cR (cN h) 122 0 123) 122 3 ((1 : Int64)))) 122 4 124)) 125 0 ((-1 : Int32))) 125 1 ((-1 : Int32))) 125 2 ((-1 : Int32))) 125 3 ((-1 : Int32))) 122 5 125)) 122 6 126)) 122 7 127)) 122 8 128) 122 15 ((-1 : Int32))) 122 16 ((-1 : Int32)))) 122 18 129)) 122 19 130)) 122 20 131)) 122 21 132)) 122 24 133)) 122 25 134)) 122 28 135)) 122 29 136)) 122 31 137)) 122 32 138)) 122 33 139) 122 34 ((-1 : Int32))) 122 38 ((-1 : Int32)))) 122 39 140)) 122 40 141)) 122 41 142) 122 42 ((-1 : Int32)))) 122 45 143)) 122 46 144)) 122 47 145)) 122 48 146) 122 49 ((-1 : Int32))
set_option maxHeartbeats 4000000 in
set_option maxRecDepth 100000 in
theorem cc_X12_init (G : Gl) (h : Hc) (hn : h.1 = 123) : CC G mX12_init 122 24 7447 h (Fi_X12_init h 122) := by
  have hl : LAY 123 [(14, 4000), (14, 4), (14, 4), (15, 240), (13, 500), (13, 500), (15, 4), (15, 20), (14, 4), (14, 90), (14, 30), (14, 30), (14, 4), (14, 4), (14, 4), (14, 5), (14, 5), (14, 12), (14, 2), (14, 2), (14, 31), (14, 961), (14, 961), (14, 30)] := LAY.of (by decide +kernel)
  have hk : KD 122 = 12 := by decide +kernel
  refine CC.of pn_RX12 (by decide +kernel) rfl (by decide) (fun Γ hG hO hao hi ret => ?_)
  subst hG
  obtain ⟨n, I, L, R⟩ := h
  have hn : n = 123 := hn
  subst hn
  refine c_aload_n hO 0 rfl rfl dX12_init_0 ?_
  refine c_obj hO lo_RX12_1 (by decide) (by decide) dX12_init_1 ?_
  refine c_aload_n hO 0 rfl rfl dX12_init_4 ?_
  refine c_sipush hO (v := 4000) (by decide) dX12_init_5 ?_
  refine c_newI hO 123 rfl aw_int (N := 4000) (by decide) (by decide) (hl 0 _ rfl).1 (hl 0 _ rfl).2 (by decide) (by decide) dX12_init_8 ?_
  refine c_putR hO hi (by decide) (fty := .array (.int)) (by decide +kernel) (Or.inr ⟨_, rfl⟩) fk_RX12_7 (show 122 < 124 by decide) hk dX12_init_10 ?_
  refine c_aload_n hO 0 rfl rfl dX12_init_13 ?_
  refine c_lconst hO (v := 1) (by decide) dX12_init_14 ?_
  refine c_putL hO hi fk_RX12_13 (show 122 < 124 by decide) hk dX12_init_15 ?_
  refine c_aload_n hO 0 rfl rfl dX12_init_18 ?_
  refine c_iconst hO (v := 4) (by decide) dX12_init_19 ?_
  refine c_newI hO 124 rfl aw_int (N := 4) (by decide) (by decide) (hl 1 _ rfl).1 (hl 1 _ rfl).2 (by decide) (by decide) dX12_init_20 ?_
  refine c_putR hO hi (by decide) (fty := .array (.int)) (by decide +kernel) (Or.inr ⟨_, rfl⟩) fk_RX12_17 (show 122 < 125 by decide) hk dX12_init_22 ?_
  refine c_aload_n hO 0 rfl rfl dX12_init_25 ?_
  refine c_iconst hO (v := 4) (by decide) dX12_init_26 ?_
  refine c_newI hO 125 rfl aw_int (N := 4) (by decide) (by decide) (hl 2 _ rfl).1 (hl 2 _ rfl).2 (by decide) (by decide) dX12_init_27 ?_
  refine c_dup hO dX12_init_29 ?_
  refine c_iconst hO (v := 0) (by decide) dX12_init_30 ?_
  refine c_iconst hO (v := -1) (by decide) dX12_init_31 ?_
  refine c_iast hO (j := 0) (show 125 < 126 by decide) (hl 2 _ rfl).1 (by decide) (by rw [(hl 2 _ rfl).2]; decide) (by rw [(hl 2 _ rfl).2]; decide) dX12_init_32 ?_
  refine c_dup hO dX12_init_33 ?_
  refine c_iconst hO (v := 1) (by decide) dX12_init_34 ?_
  refine c_iconst hO (v := -1) (by decide) dX12_init_35 ?_
  refine c_iast hO (j := 1) (show 125 < 126 by decide) (hl 2 _ rfl).1 (by decide) (by rw [(hl 2 _ rfl).2]; decide) (by rw [(hl 2 _ rfl).2]; decide) dX12_init_36 ?_
  refine c_dup hO dX12_init_37 ?_
  refine c_iconst hO (v := 2) (by decide) dX12_init_38 ?_
  refine c_iconst hO (v := -1) (by decide) dX12_init_39 ?_
  refine c_iast hO (j := 2) (show 125 < 126 by decide) (hl 2 _ rfl).1 (by decide) (by rw [(hl 2 _ rfl).2]; decide) (by rw [(hl 2 _ rfl).2]; decide) dX12_init_40 ?_
  refine c_dup hO dX12_init_41 ?_
  refine c_iconst hO (v := 3) (by decide) dX12_init_42 ?_
  refine c_iconst hO (v := -1) (by decide) dX12_init_43 ?_
  refine c_iast hO (j := 3) (show 125 < 126 by decide) (hl 2 _ rfl).1 (by decide) (by rw [(hl 2 _ rfl).2]; decide) (by rw [(hl 2 _ rfl).2]; decide) dX12_init_44 ?_
  refine c_putR hO hi (by decide) (fty := .array (.int)) (by decide +kernel) (Or.inr ⟨_, rfl⟩) fk_RX12_20 (show 122 < 126 by decide) hk dX12_init_45 ?_
  refine c_aload_n hO 0 rfl rfl dX12_init_48 ?_
  refine c_sipush hO (v := 240) (by decide) dX12_init_49 ?_
  refine c_newL hO 126 rfl aw_long (N := 240) (by decide) (by decide) (hl 3 _ rfl).1 (hl 3 _ rfl).2 (by decide) (by decide) dX12_init_52 ?_
  refine c_putR hO hi (by decide) (fty := .array (.long)) (by decide +kernel) (Or.inr ⟨_, rfl⟩) fk_RX12_23 (show 122 < 127 by decide) hk dX12_init_54 ?_
  refine c_aload_n hO 0 rfl rfl dX12_init_57 ?_
  refine c_sipush hO (v := 500) (by decide) dX12_init_58 ?_
  refine c_newB hO 127 rfl aw_byte (N := 500) (by decide) (by decide) (hl 4 _ rfl).1 (hl 4 _ rfl).2 (by decide) (by decide) dX12_init_61 ?_
  refine c_putR hO hi (by decide) (fty := .array (.byte)) (by decide +kernel) (Or.inr ⟨_, rfl⟩) fk_RX12_27 (show 122 < 128 by decide) hk dX12_init_63 ?_
  refine c_aload_n hO 0 rfl rfl dX12_init_66 ?_
  refine c_sipush hO (v := 500) (by decide) dX12_init_67 ?_
  refine c_newB hO 128 rfl aw_byte (N := 500) (by decide) (by decide) (hl 5 _ rfl).1 (hl 5 _ rfl).2 (by decide) (by decide) dX12_init_70 ?_
  refine c_putR hO hi (by decide) (fty := .array (.byte)) (by decide +kernel) (Or.inr ⟨_, rfl⟩) fk_RX12_31 (show 122 < 129 by decide) hk dX12_init_72 ?_
  refine c_aload_n hO 0 rfl rfl dX12_init_75 ?_
  refine c_iconst hO (v := -1) (by decide) dX12_init_76 ?_
  refine c_putI hO hi fk_RX12_34 (show 122 < 129 by decide) hk dX12_init_77 ?_
  refine c_aload_n hO 0 rfl rfl dX12_init_80 ?_
  refine c_iconst hO (v := -1) (by decide) dX12_init_81 ?_
  refine c_putI hO hi fk_RX12_38 (show 122 < 129 by decide) hk dX12_init_82 ?_
  refine c_aload_n hO 0 rfl rfl dX12_init_85 ?_
  refine c_iconst hO (v := 4) (by decide) dX12_init_86 ?_
  refine c_newL hO 129 rfl aw_long (N := 4) (by decide) (by decide) (hl 6 _ rfl).1 (hl 6 _ rfl).2 (by decide) (by decide) dX12_init_87 ?_
  refine c_putR hO hi (by decide) (fty := .array (.long)) (by decide +kernel) (Or.inr ⟨_, rfl⟩) fk_RX12_41 (show 122 < 130 by decide) hk dX12_init_89 ?_
  refine c_aload_n hO 0 rfl rfl dX12_init_92 ?_
  refine c_bipush hO (v := 20) (by decide) dX12_init_93 ?_
  refine c_newL hO 130 rfl aw_long (N := 20) (by decide) (by decide) (hl 7 _ rfl).1 (hl 7 _ rfl).2 (by decide) (by decide) dX12_init_95 ?_
  refine c_putR hO hi (by decide) (fty := .array (.long)) (by decide +kernel) (Or.inr ⟨_, rfl⟩) fk_RX12_44 (show 122 < 131 by decide) hk dX12_init_97 ?_
  refine c_aload_n hO 0 rfl rfl dX12_init_100 ?_
  refine c_iconst hO (v := 4) (by decide) dX12_init_101 ?_
  refine c_newI hO 131 rfl aw_int (N := 4) (by decide) (by decide) (hl 8 _ rfl).1 (hl 8 _ rfl).2 (by decide) (by decide) dX12_init_102 ?_
  refine c_putR hO hi (by decide) (fty := .array (.int)) (by decide +kernel) (Or.inr ⟨_, rfl⟩) fk_RX12_47 (show 122 < 132 by decide) hk dX12_init_104 ?_
  refine c_aload_n hO 0 rfl rfl dX12_init_107 ?_
  refine c_bipush hO (v := 90) (by decide) dX12_init_108 ?_
  refine c_newI hO 132 rfl aw_int (N := 90) (by decide) (by decide) (hl 9 _ rfl).1 (hl 9 _ rfl).2 (by decide) (by decide) dX12_init_110 ?_
  refine c_putR hO hi (by decide) (fty := .array (.int)) (by decide +kernel) (Or.inr ⟨_, rfl⟩) fk_RX12_50 (show 122 < 133 by decide) hk dX12_init_112 ?_
  refine c_aload_n hO 0 rfl rfl dX12_init_115 ?_
  refine c_bipush hO (v := 30) (by decide) dX12_init_116 ?_
  refine c_newI hO 133 rfl aw_int (N := 30) (by decide) (by decide) (hl 10 _ rfl).1 (hl 10 _ rfl).2 (by decide) (by decide) dX12_init_118 ?_
  refine c_putR hO hi (by decide) (fty := .array (.int)) (by decide +kernel) (Or.inr ⟨_, rfl⟩) fk_RX12_53 (show 122 < 134 by decide) hk dX12_init_120 ?_
  refine c_aload_n hO 0 rfl rfl dX12_init_123 ?_
  refine c_bipush hO (v := 30) (by decide) dX12_init_124 ?_
  refine c_newI hO 134 rfl aw_int (N := 30) (by decide) (by decide) (hl 11 _ rfl).1 (hl 11 _ rfl).2 (by decide) (by decide) dX12_init_126 ?_
  refine c_putR hO hi (by decide) (fty := .array (.int)) (by decide +kernel) (Or.inr ⟨_, rfl⟩) fk_RX12_56 (show 122 < 135 by decide) hk dX12_init_128 ?_
  refine c_aload_n hO 0 rfl rfl dX12_init_131 ?_
  refine c_iconst hO (v := 4) (by decide) dX12_init_132 ?_
  refine c_newI hO 135 rfl aw_int (N := 4) (by decide) (by decide) (hl 12 _ rfl).1 (hl 12 _ rfl).2 (by decide) (by decide) dX12_init_133 ?_
  refine c_putR hO hi (by decide) (fty := .array (.int)) (by decide +kernel) (Or.inr ⟨_, rfl⟩) fk_RX12_59 (show 122 < 136 by decide) hk dX12_init_135 ?_
  refine c_aload_n hO 0 rfl rfl dX12_init_138 ?_
  refine c_iconst hO (v := 4) (by decide) dX12_init_139 ?_
  refine c_newI hO 136 rfl aw_int (N := 4) (by decide) (by decide) (hl 13 _ rfl).1 (hl 13 _ rfl).2 (by decide) (by decide) dX12_init_140 ?_
  refine c_putR hO hi (by decide) (fty := .array (.int)) (by decide +kernel) (Or.inr ⟨_, rfl⟩) fk_RX12_62 (show 122 < 137 by decide) hk dX12_init_142 ?_
  refine c_aload_n hO 0 rfl rfl dX12_init_145 ?_
  refine c_iconst hO (v := 4) (by decide) dX12_init_146 ?_
  refine c_newI hO 137 rfl aw_int (N := 4) (by decide) (by decide) (hl 14 _ rfl).1 (hl 14 _ rfl).2 (by decide) (by decide) dX12_init_147 ?_
  refine c_putR hO hi (by decide) (fty := .array (.int)) (by decide +kernel) (Or.inr ⟨_, rfl⟩) fk_RX12_65 (show 122 < 138 by decide) hk dX12_init_149 ?_
  refine c_aload_n hO 0 rfl rfl dX12_init_152 ?_
  refine c_iconst hO (v := 5) (by decide) dX12_init_153 ?_
  refine c_newI hO 138 rfl aw_int (N := 5) (by decide) (by decide) (hl 15 _ rfl).1 (hl 15 _ rfl).2 (by decide) (by decide) dX12_init_154 ?_
  refine c_putR hO hi (by decide) (fty := .array (.int)) (by decide +kernel) (Or.inr ⟨_, rfl⟩) fk_RX12_68 (show 122 < 139 by decide) hk dX12_init_156 ?_
  refine c_aload_n hO 0 rfl rfl dX12_init_159 ?_
  refine c_iconst hO (v := 5) (by decide) dX12_init_160 ?_
  refine c_newI hO 139 rfl aw_int (N := 5) (by decide) (by decide) (hl 16 _ rfl).1 (hl 16 _ rfl).2 (by decide) (by decide) dX12_init_161 ?_
  refine c_putR hO hi (by decide) (fty := .array (.int)) (by decide +kernel) (Or.inr ⟨_, rfl⟩) fk_RX12_71 (show 122 < 140 by decide) hk dX12_init_163 ?_
  refine c_aload_n hO 0 rfl rfl dX12_init_166 ?_
  refine c_iconst hO (v := -1) (by decide) dX12_init_167 ?_
  refine c_putI hO hi fk_RX12_74 (show 122 < 140 by decide) hk dX12_init_168 ?_
  refine c_aload_n hO 0 rfl rfl dX12_init_171 ?_
  refine c_iconst hO (v := -1) (by decide) dX12_init_172 ?_
  refine c_putI hO hi fk_RX12_77 (show 122 < 140 by decide) hk dX12_init_173 ?_
  refine c_aload_n hO 0 rfl rfl dX12_init_176 ?_
  refine c_bipush hO (v := 12) (by decide) dX12_init_177 ?_
  refine c_newI hO 140 rfl aw_int (N := 12) (by decide) (by decide) (hl 17 _ rfl).1 (hl 17 _ rfl).2 (by decide) (by decide) dX12_init_179 ?_
  refine c_putR hO hi (by decide) (fty := .array (.int)) (by decide +kernel) (Or.inr ⟨_, rfl⟩) fk_RX12_80 (show 122 < 141 by decide) hk dX12_init_181 ?_
  refine c_aload_n hO 0 rfl rfl dX12_init_184 ?_
  refine c_iconst hO (v := 2) (by decide) dX12_init_185 ?_
  refine c_newI hO 141 rfl aw_int (N := 2) (by decide) (by decide) (hl 18 _ rfl).1 (hl 18 _ rfl).2 (by decide) (by decide) dX12_init_186 ?_
  refine c_putR hO hi (by decide) (fty := .array (.int)) (by decide +kernel) (Or.inr ⟨_, rfl⟩) fk_RX12_83 (show 122 < 142 by decide) hk dX12_init_188 ?_
  refine c_aload_n hO 0 rfl rfl dX12_init_191 ?_
  refine c_iconst hO (v := 2) (by decide) dX12_init_192 ?_
  refine c_newI hO 142 rfl aw_int (N := 2) (by decide) (by decide) (hl 19 _ rfl).1 (hl 19 _ rfl).2 (by decide) (by decide) dX12_init_193 ?_
  refine c_putR hO hi (by decide) (fty := .array (.int)) (by decide +kernel) (Or.inr ⟨_, rfl⟩) fk_RX12_86 (show 122 < 143 by decide) hk dX12_init_195 ?_
  refine c_aload_n hO 0 rfl rfl dX12_init_198 ?_
  refine c_iconst hO (v := -1) (by decide) dX12_init_199 ?_
  refine c_putI hO hi fk_RX12_89 (show 122 < 143 by decide) hk dX12_init_200 ?_
  refine c_aload_n hO 0 rfl rfl dX12_init_203 ?_
  refine c_bipush hO (v := 31) (by decide) dX12_init_204 ?_
  refine c_newI hO 143 rfl aw_int (N := 31) (by decide) (by decide) (hl 20 _ rfl).1 (hl 20 _ rfl).2 (by decide) (by decide) dX12_init_206 ?_
  refine c_putR hO hi (by decide) (fty := .array (.int)) (by decide +kernel) (Or.inr ⟨_, rfl⟩) fk_RX12_92 (show 122 < 144 by decide) hk dX12_init_208 ?_
  refine c_aload_n hO 0 rfl rfl dX12_init_211 ?_
  refine c_sipush hO (v := 961) (by decide) dX12_init_212 ?_
  refine c_newI hO 144 rfl aw_int (N := 961) (by decide) (by decide) (hl 21 _ rfl).1 (hl 21 _ rfl).2 (by decide) (by decide) dX12_init_215 ?_
  refine c_putR hO hi (by decide) (fty := .array (.int)) (by decide +kernel) (Or.inr ⟨_, rfl⟩) fk_RX12_95 (show 122 < 145 by decide) hk dX12_init_217 ?_
  refine c_aload_n hO 0 rfl rfl dX12_init_220 ?_
  refine c_sipush hO (v := 961) (by decide) dX12_init_221 ?_
  refine c_newI hO 145 rfl aw_int (N := 961) (by decide) (by decide) (hl 22 _ rfl).1 (hl 22 _ rfl).2 (by decide) (by decide) dX12_init_224 ?_
  refine c_putR hO hi (by decide) (fty := .array (.int)) (by decide +kernel) (Or.inr ⟨_, rfl⟩) fk_RX12_98 (show 122 < 146 by decide) hk dX12_init_226 ?_
  refine c_aload_n hO 0 rfl rfl dX12_init_229 ?_
  refine c_bipush hO (v := 30) (by decide) dX12_init_230 ?_
  refine c_newI hO 146 rfl aw_int (N := 30) (by decide) (by decide) (hl 23 _ rfl).1 (hl 23 _ rfl).2 (by decide) (by decide) dX12_init_232 ?_
  refine c_putR hO hi (by decide) (fty := .array (.int)) (by decide +kernel) (Or.inr ⟨_, rfl⟩) fk_RX12_101 (show 122 < 147 by decide) hk dX12_init_234 ?_
  refine c_aload_n hO 0 rfl rfl dX12_init_237 ?_
  refine c_iconst hO (v := -1) (by decide) dX12_init_238 ?_
  refine c_putI hO hi fk_RX12_104 (show 122 < 147 by decide) hk dX12_init_239 ?_
  exact c_widen (by decide) (by decide) (ret _ _ dX12_init_242.1)
