/-! ===== maths: the tables, row by row ===== -/
theorem g0_0 : GR 0 0 = 1 := by decide +kernel
theorem g0_1 : GR 0 1 = 2 := by decide +kernel
theorem g0_2 : GR 0 2 = 3 := by decide +kernel
theorem g0_3 : GR 0 3 = 20 := by decide +kernel
theorem g0_4 : GR 0 4 = 21 := by decide +kernel
theorem g0_5 : GR 0 5 = 31 := by decide +kernel
theorem g0_6 : GR 0 6 = 40 := by decide +kernel
theorem g0_7 : GR 0 7 = 44 := by decide +kernel
theorem g0_8 : GR 0 8 = 51 := by decide +kernel
theorem g0_9 : GR 0 9 = 57 := by decide +kernel
theorem n1 : LEN 1 = 4 := by decide +kernel
theorem n2 : LEN 2 = 500 := by decide +kernel
theorem g3_2 : GR 3 2 = 4 := by decide +kernel
theorem g3_3 : GR 3 3 = 5 := by decide +kernel
theorem g3_4 : GR 3 4 = 6 := by decide +kernel
theorem g3_5 : GR 3 5 = 7 := by decide +kernel
theorem g3_6 : GR 3 6 = 8 := by decide +kernel
theorem g3_7 : GR 3 7 = 9 := by decide +kernel
theorem g3_8 : GR 3 8 = 10 := by decide +kernel
theorem g3_9 : GR 3 9 = 15 := by decide +kernel
theorem n4 : LEN 4 = 240 := by decide +kernel
theorem n5 : LEN 5 = 240 := by decide +kernel
theorem n6 : LEN 6 = 30 := by decide +kernel
theorem n7 : LEN 7 = 30 := by decide +kernel
theorem n8 : LEN 8 = 30 := by decide +kernel
theorem n9 : LEN 9 = 30 := by decide +kernel
theorem g10_2 : GR 10 2 = 11 := by decide +kernel
theorem g10_3 : GR 10 3 = 12 := by decide +kernel
theorem g10_4 : GR 10 4 = 13 := by decide +kernel
theorem g10_5 : GR 10 5 = 14 := by decide +kernel
theorem n11 : LEN 11 = 4 := by decide +kernel
theorem n12 : LEN 12 = 20 := by decide +kernel
theorem n13 : LEN 13 = 20 := by decide +kernel
theorem n14 : LEN 14 = 80 := by decide +kernel
theorem g15_2 : GR 15 2 = 16 := by decide +kernel
theorem g15_3 : GR 15 3 = 17 := by decide +kernel
theorem g15_4 : GR 15 4 = 18 := by decide +kernel
theorem g15_5 : GR 15 5 = 19 := by decide +kernel
theorem n16 : LEN 16 = 80 := by decide +kernel
theorem n17 : LEN 17 = 80 := by decide +kernel
theorem n18 : LEN 18 = 80 := by decide +kernel
theorem n19 : LEN 19 = 80 := by decide +kernel
theorem n20 : LEN 20 = 3 := by decide +kernel
theorem g21_0 : GR 21 0 = 22 := by decide +kernel
theorem g21_1 : GR 21 1 = 24 := by decide +kernel
theorem g21_2 : GR 21 2 = 29 := by decide +kernel
theorem g21_3 : GR 21 3 = 30 := by decide +kernel
theorem n23 : LEN 23 = 0 := by decide +kernel
theorem g24_2 : GR 24 2 = 25 := by decide +kernel
theorem g24_3 : GR 24 3 = 26 := by decide +kernel
theorem g24_4 : GR 24 4 = 27 := by decide +kernel
theorem g24_5 : GR 24 5 = 28 := by decide +kernel
theorem n25 : LEN 25 = 4 := by decide +kernel
theorem n26 : LEN 26 = 20 := by decide +kernel
theorem n27 : LEN 27 = 20 := by decide +kernel
theorem n28 : LEN 28 = 80 := by decide +kernel
theorem n29 : LEN 29 = 4 := by decide +kernel
theorem n30 : LEN 30 = 20 := by decide +kernel
theorem g31_0 : GR 31 0 = 32 := by decide +kernel
theorem g31_1 : GR 31 1 = 34 := by decide +kernel
theorem g31_2 : GR 31 2 = 39 := by decide +kernel
theorem n33 : LEN 33 = 0 := by decide +kernel
theorem g34_2 : GR 34 2 = 35 := by decide +kernel
theorem g34_3 : GR 34 3 = 36 := by decide +kernel
theorem g34_4 : GR 34 4 = 37 := by decide +kernel
theorem g34_5 : GR 34 5 = 38 := by decide +kernel
theorem n35 : LEN 35 = 80 := by decide +kernel
theorem n36 : LEN 36 = 80 := by decide +kernel
theorem n37 : LEN 37 = 80 := by decide +kernel
theorem n38 : LEN 38 = 80 := by decide +kernel
theorem n39 : LEN 39 = 3 := by decide +kernel
theorem g40_0 : GR 40 0 = 41 := by decide +kernel
theorem g40_1 : GR 40 1 = 42 := by decide +kernel
theorem g40_2 : GR 40 2 = 43 := by decide +kernel
theorem n41 : LEN 41 = 30 := by decide +kernel
theorem n42 : LEN 42 = 13 := by decide +kernel
theorem n43 : LEN 43 = 80 := by decide +kernel
theorem g44_0 : GR 44 0 = 45 := by decide +kernel
theorem g44_2 : GR 44 2 = 46 := by decide +kernel
theorem g44_3 : GR 44 3 = 47 := by decide +kernel
theorem g44_5 : GR 44 5 = 48 := by decide +kernel
theorem g44_6 : GR 44 6 = 49 := by decide +kernel
theorem g44_10 : GR 44 10 = 50 := by decide +kernel
theorem n45 : LEN 45 = 4 := by decide +kernel
theorem n46 : LEN 46 = 30 := by decide +kernel
theorem n47 : LEN 47 = 4 := by decide +kernel
theorem n48 : LEN 48 = 4 := by decide +kernel
theorem n49 : LEN 49 = 30 := by decide +kernel
theorem n50 : LEN 50 = 4 := by decide +kernel
theorem g51_3 : GR 51 3 = 52 := by decide +kernel
theorem g51_4 : GR 51 4 = 53 := by decide +kernel
theorem g51_5 : GR 51 5 = 54 := by decide +kernel
theorem g51_6 : GR 51 6 = 55 := by decide +kernel
theorem g51_7 : GR 51 7 = 56 := by decide +kernel
theorem n52 : LEN 52 = 4 := by decide +kernel
theorem n53 : LEN 53 = 4 := by decide +kernel
theorem n54 : LEN 54 = 13 := by decide +kernel
theorem n55 : LEN 55 = 30 := by decide +kernel
theorem n56 : LEN 56 = 30 := by decide +kernel
theorem g57_3 : GR 57 3 = 58 := by decide +kernel
theorem g57_4 : GR 57 4 = 59 := by decide +kernel
theorem g57_5 : GR 57 5 = 60 := by decide +kernel
theorem g57_6 : GR 57 6 = 61 := by decide +kernel
theorem g57_7 : GR 57 7 = 62 := by decide +kernel
theorem n58 : LEN 58 = 30 := by decide +kernel
theorem n59 : LEN 59 = 31 := by decide +kernel
theorem n60 : LEN 60 = 31 := by decide +kernel
theorem n61 : LEN 61 = 31 := by decide +kernel
theorem n62 : LEN 62 = 31 := by decide +kernel
theorem g63_3 : GR 63 3 = 64 := by decide +kernel
theorem n64 : LEN 64 = 60 := by decide +kernel
theorem g65_3 : GR 65 3 = 66 := by decide +kernel
theorem n66 : LEN 66 = 60 := by decide +kernel
theorem g67_3 : GR 67 3 = 68 := by decide +kernel
theorem n68 : LEN 68 = 60 := by decide +kernel
theorem g69_3 : GR 69 3 = 70 := by decide +kernel
theorem n70 : LEN 70 = 60 := by decide +kernel
theorem g71_2 : GR 71 2 = 72 := by decide +kernel
theorem g71_3 : GR 71 3 = 73 := by decide +kernel
theorem g71_4 : GR 71 4 = 74 := by decide +kernel
theorem g71_5 : GR 71 5 = 75 := by decide +kernel
theorem g71_6 : GR 71 6 = 76 := by decide +kernel
theorem g71_7 : GR 71 7 = 77 := by decide +kernel
theorem g71_8 : GR 71 8 = 78 := by decide +kernel
theorem g71_9 : GR 71 9 = 83 := by decide +kernel
theorem n72 : LEN 72 = 240 := by decide +kernel
theorem n73 : LEN 73 = 240 := by decide +kernel
theorem n74 : LEN 74 = 30 := by decide +kernel
theorem n75 : LEN 75 = 30 := by decide +kernel
theorem n76 : LEN 76 = 30 := by decide +kernel
theorem n77 : LEN 77 = 30 := by decide +kernel
theorem g78_2 : GR 78 2 = 79 := by decide +kernel
theorem g78_3 : GR 78 3 = 80 := by decide +kernel
theorem g78_4 : GR 78 4 = 81 := by decide +kernel
theorem g78_5 : GR 78 5 = 82 := by decide +kernel
theorem n79 : LEN 79 = 4 := by decide +kernel
theorem n80 : LEN 80 = 20 := by decide +kernel
theorem n81 : LEN 81 = 20 := by decide +kernel
theorem n82 : LEN 82 = 80 := by decide +kernel
theorem g83_2 : GR 83 2 = 84 := by decide +kernel
theorem g83_3 : GR 83 3 = 85 := by decide +kernel
theorem g83_4 : GR 83 4 = 86 := by decide +kernel
theorem g83_5 : GR 83 5 = 87 := by decide +kernel
theorem n84 : LEN 84 = 80 := by decide +kernel
theorem n85 : LEN 85 = 80 := by decide +kernel
theorem n86 : LEN 86 = 80 := by decide +kernel
theorem n87 : LEN 87 = 80 := by decide +kernel
theorem g88_2 : GR 88 2 = 89 := by decide +kernel
theorem g88_3 : GR 88 3 = 90 := by decide +kernel
theorem g88_4 : GR 88 4 = 91 := by decide +kernel
theorem g88_5 : GR 88 5 = 92 := by decide +kernel
theorem g88_6 : GR 88 6 = 93 := by decide +kernel
theorem g88_7 : GR 88 7 = 94 := by decide +kernel
theorem g88_8 : GR 88 8 = 95 := by decide +kernel
theorem g88_9 : GR 88 9 = 100 := by decide +kernel
theorem n89 : LEN 89 = 240 := by decide +kernel
theorem n90 : LEN 90 = 240 := by decide +kernel
theorem n91 : LEN 91 = 30 := by decide +kernel
theorem n92 : LEN 92 = 30 := by decide +kernel
theorem n93 : LEN 93 = 30 := by decide +kernel
theorem n94 : LEN 94 = 30 := by decide +kernel
theorem g95_2 : GR 95 2 = 96 := by decide +kernel
theorem g95_3 : GR 95 3 = 97 := by decide +kernel
theorem g95_4 : GR 95 4 = 98 := by decide +kernel
theorem g95_5 : GR 95 5 = 99 := by decide +kernel
theorem n96 : LEN 96 = 4 := by decide +kernel
theorem n97 : LEN 97 = 20 := by decide +kernel
theorem n98 : LEN 98 = 20 := by decide +kernel
theorem n99 : LEN 99 = 80 := by decide +kernel
theorem g100_2 : GR 100 2 = 101 := by decide +kernel
theorem g100_3 : GR 100 3 = 102 := by decide +kernel
theorem g100_4 : GR 100 4 = 103 := by decide +kernel
theorem g100_5 : GR 100 5 = 104 := by decide +kernel
theorem n101 : LEN 101 = 80 := by decide +kernel
theorem n102 : LEN 102 = 80 := by decide +kernel
theorem n103 : LEN 103 = 80 := by decide +kernel
theorem n104 : LEN 104 = 80 := by decide +kernel
theorem g105_2 : GR 105 2 = 106 := by decide +kernel
theorem g105_3 : GR 105 3 = 107 := by decide +kernel
theorem g105_4 : GR 105 4 = 108 := by decide +kernel
theorem g105_5 : GR 105 5 = 109 := by decide +kernel
theorem g105_6 : GR 105 6 = 110 := by decide +kernel
theorem g105_7 : GR 105 7 = 111 := by decide +kernel
theorem g105_8 : GR 105 8 = 112 := by decide +kernel
theorem g105_9 : GR 105 9 = 117 := by decide +kernel
theorem n106 : LEN 106 = 240 := by decide +kernel
theorem n107 : LEN 107 = 240 := by decide +kernel
theorem n108 : LEN 108 = 30 := by decide +kernel
theorem n109 : LEN 109 = 30 := by decide +kernel
theorem n110 : LEN 110 = 30 := by decide +kernel
theorem n111 : LEN 111 = 30 := by decide +kernel
theorem g112_2 : GR 112 2 = 113 := by decide +kernel
theorem g112_3 : GR 112 3 = 114 := by decide +kernel
theorem g112_4 : GR 112 4 = 115 := by decide +kernel
theorem g112_5 : GR 112 5 = 116 := by decide +kernel
theorem n113 : LEN 113 = 4 := by decide +kernel
theorem n114 : LEN 114 = 20 := by decide +kernel
theorem n115 : LEN 115 = 20 := by decide +kernel
theorem n116 : LEN 116 = 80 := by decide +kernel
theorem g117_2 : GR 117 2 = 118 := by decide +kernel
theorem g117_3 : GR 117 3 = 119 := by decide +kernel
theorem g117_4 : GR 117 4 = 120 := by decide +kernel
theorem g117_5 : GR 117 5 = 121 := by decide +kernel
theorem n118 : LEN 118 = 80 := by decide +kernel
theorem n119 : LEN 119 = 80 := by decide +kernel
theorem n120 : LEN 120 = 80 := by decide +kernel
theorem n121 : LEN 121 = 80 := by decide +kernel
theorem g122_0 : GR 122 0 = 123 := by decide +kernel
theorem g122_4 : GR 122 4 = 124 := by decide +kernel
theorem g122_5 : GR 122 5 = 125 := by decide +kernel
theorem g122_6 : GR 122 6 = 126 := by decide +kernel
theorem g122_7 : GR 122 7 = 127 := by decide +kernel
theorem g122_8 : GR 122 8 = 128 := by decide +kernel
theorem g122_18 : GR 122 18 = 129 := by decide +kernel
theorem g122_19 : GR 122 19 = 130 := by decide +kernel
theorem g122_20 : GR 122 20 = 131 := by decide +kernel
theorem g122_21 : GR 122 21 = 132 := by decide +kernel
theorem g122_24 : GR 122 24 = 133 := by decide +kernel
theorem g122_25 : GR 122 25 = 134 := by decide +kernel
theorem g122_28 : GR 122 28 = 135 := by decide +kernel
theorem g122_29 : GR 122 29 = 136 := by decide +kernel
theorem g122_31 : GR 122 31 = 137 := by decide +kernel
theorem g122_32 : GR 122 32 = 138 := by decide +kernel
theorem g122_33 : GR 122 33 = 139 := by decide +kernel
theorem g122_39 : GR 122 39 = 140 := by decide +kernel
theorem g122_40 : GR 122 40 = 141 := by decide +kernel
theorem g122_41 : GR 122 41 = 142 := by decide +kernel
theorem g122_45 : GR 122 45 = 143 := by decide +kernel
theorem g122_46 : GR 122 46 = 144 := by decide +kernel
theorem g122_47 : GR 122 47 = 145 := by decide +kernel
theorem g122_48 : GR 122 48 = 146 := by decide +kernel
theorem n123 : LEN 123 = 4000 := by decide +kernel
theorem n124 : LEN 124 = 4 := by decide +kernel
theorem n125 : LEN 125 = 4 := by decide +kernel
theorem n126 : LEN 126 = 240 := by decide +kernel
theorem n127 : LEN 127 = 500 := by decide +kernel
theorem n128 : LEN 128 = 500 := by decide +kernel
theorem n129 : LEN 129 = 4 := by decide +kernel
theorem n130 : LEN 130 = 20 := by decide +kernel
theorem n131 : LEN 131 = 4 := by decide +kernel
theorem n132 : LEN 132 = 90 := by decide +kernel
theorem n133 : LEN 133 = 30 := by decide +kernel
theorem n134 : LEN 134 = 30 := by decide +kernel
theorem n135 : LEN 135 = 4 := by decide +kernel
theorem n136 : LEN 136 = 4 := by decide +kernel
theorem n137 : LEN 137 = 4 := by decide +kernel
theorem n138 : LEN 138 = 5 := by decide +kernel
theorem n139 : LEN 139 = 5 := by decide +kernel
theorem n140 : LEN 140 = 12 := by decide +kernel
theorem n141 : LEN 141 = 2 := by decide +kernel
theorem n142 : LEN 142 = 2 := by decide +kernel
theorem n143 : LEN 143 = 31 := by decide +kernel
theorem n144 : LEN 144 = 961 := by decide +kernel
theorem n145 : LEN 145 = 961 := by decide +kernel
theorem n146 : LEN 146 = 30 := by decide +kernel
theorem gT : ∀ j, j < 4 → GR 1 j = 63 + 2 * j := by decide +kernel
theorem gT3 : ∀ j, j < 4 → GR (63 + 2 * j) 3 = 64 + 2 * j := by decide +kernel
theorem nT : ∀ j, j < 4 → LEN (64 + 2 * j) = 60 := by decide +kernel
theorem gM : ∀ j, j < 3 → GR 20 j = 71 + 17 * j := by decide +kernel
/-! ===== heaps ===== -/
theorem hI_uI {h : Hp} {c k d : Nat} {v : Int32} : hI (uI h c k v) d = if d = c then upd (hI h c) k v else hI h d := by
  unfold uI sI hI va_up
  rfl
theorem hL_uI {h : Hp} {c k : Nat} {v : Int32} : hL (uI h c k v) = hL h := rfl
theorem hT_uI {h : Hp} {c k : Nat} {v : Int32} : hT (uI h c k v) = hT h := rfl
theorem hI_uL {h : Hp} {c k : Nat} {v : Int64} : hI (uL h c k v) = hI h := rfl
theorem hT_uL {h : Hp} {c k : Nat} {v : Int64} : hT (uL h c k v) = hT h := rfl
theorem hL_uL {h : Hp} {c k d : Nat} {v : Int64} : hL (uL h c k v) d = if d = c then vp_updL (hL h c) k v else hL h d := by
  unfold uL sL hL va_up
  rfl
theorem hI_sIi {h : Hp} {c d : Nat} {f : Nat → Int32} : hI (sI h c f) d = if d = c then f else hI h d := rfl
theorem hL_sI {h : Hp} {c : Nat} {f : Nat → Int32} : hL (sI h c f) = hL h := rfl
theorem hT_sI {h : Hp} {c : Nat} {f : Nat → Int32} : hT (sI h c f) = hT h := rfl
theorem hI_sL {h : Hp} {c : Nat} {f : Nat → Int64} : hI (sL h c f) = hI h := rfl
theorem hT_sL {h : Hp} {c : Nat} {f : Nat → Int64} : hT (sL h c f) = hT h := rfl
theorem hL_sLi {h : Hp} {c d : Nat} {f : Nat → Int64} : hL (sL h c f) d = if d = c then f else hL h d := rfl
theorem hI_sT {h : Hp} {c a : Nat} : hI (sT h c a) = hI h := rfl
theorem hL_sT {h : Hp} {c a : Nat} : hL (sT h c a) = hL h := rfl
theorem hT_sTi {h : Hp} {c a d : Nat} : hT (sT h c a) d = if d = c then a else hT h d := rfl
theorem upd_eq {f : Nat → Int32} {k : Nat} {v : Int32} : upd f k v k = v := if_pos rfl
theorem upd_ne {f : Nat → Int32} {k j : Nat} {v : Int32} (h : j ≠ k) : upd f k v j = f j := if_neg h
theorem upd_if {f : Nat → Int32} {k j : Nat} {v : Int32} : upd f k v j = if j = k then v else f j := rfl
theorem updL_if {f : Nat → Int64} {k j : Nat} {v : Int64} : vp_updL f k v j = if j = k then v else f j := rfl
/-! ===== guards ===== -/
theorem gd_tt {τ : Type} {t : Option τ} : gd true t = t := rfl
theorem gd_on {τ : Type} {b : Bool} {t : Option τ} (h : b = true) : gd b t = t := by subst h; rfl
theorem ib_of {i : Int32} {n : Nat} (h : vp_in i n) : ib i n = true := by simpa [ib, vp_in] using h
theorem ib_nI {j n : Nat} (h : j < n) (hn : n < 2 ^ 31) : ib (nI j) n = true := ib_of (vp_in_nI h hn)
theorem nx_nI {j : Nat} (h : j < 2 ^ 31) : nx (nI j) = j := nI_clamp h
theorem bnd_eq {α τ : Type} {e : α} {f : α → Option τ} : bnd e f = f e := rfl
/-! ===== loops ===== -/
theorem iterW_go {σ ρ : Type} {f : σ → Option (σ ⊕ ρ)} {s s' : σ} (h : f s = some (.inl s')) : iterW f s = iterW f s' := by
  rw [iterW_eq, h]
  rfl
theorem iterW_end {σ ρ : Type} {f : σ → Option (σ ⊕ ρ)} {s : σ} {r : ρ} (h : f s = some (.inr r)) : iterW f s = some r := by
  rw [iterW_eq, h]
  rfl
theorem iterW_upto {σ ρ : Type} {f : σ → Option (σ ⊕ ρ)} (S : Nat → σ) (a n : Nat) (han : a ≤ n) (hs : ∀ j, a ≤ j → j < n → f (S j) = some (.inl (S (j + 1)))) : iterW f (S a) = iterW f (S n) := by
  induction n with
  | zero => rw [show a = 0 by omega]
  | succ n ih =>
    by_cases h : a = n + 1
    · rw [h]
    · rw [ih (by omega) (fun j h1 h2 => hs j h1 (by omega)), iterW_go (hs n (by omega) (by omega))]
theorem iterW_for {σ ρ : Type} {f : σ → Option (σ ⊕ ρ)} (S : Nat → σ) (n : Nat) {r : ρ} (hs : ∀ j, j < n → f (S j) = some (.inl (S (j + 1)))) (he : f (S n) = some (.inr r)) : iterW f (S 0) = some r := by
  rw [iterW_upto S 0 n (Nat.zero_le _) (fun j _ h => hs j h), iterW_end he]
theorem iterW_N {σ ρ : Type} {f : σ → Option (σ ⊕ ρ)} {s : σ} {r : ρ} (n : Nat) (h : iterN f n s = some r) : iterW f s = some r := iterW_of h
/-! ===== numbers ===== -/
theorem nI_cases (x : Int32) {n : Nat} (hn : n < 2 ^ 31) : (x < 0 ∨ nI n ≤ x) ∨ ∃ j : Nat, j < n ∧ x = nI j := by
  rcases pk_ix x hn with h | h | h
  · exact Or.inl (Or.inl h)
  · exact Or.inl (Or.inr h)
  · exact Or.inr h
theorem nI_inj {a b : Nat} (ha : a < 2 ^ 31) (hb : b < 2 ^ 31) (h : nI a = nI b) : a = b := (nI_eq ha hb).mp h
