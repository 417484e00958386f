/-! ===== the house, small things ===== -/
def rdW (w : Nat) : Nat := if w = 1 then 0 else if w = 2 then 1 else if w = 4 then 2 else if w = 8 then 3 else if w = 16 then 4 else if w = 32 then 5 else if w = 64 then 6 else if w = 128 then 7 else if w = 256 then 8 else if w = 512 then 9 else 11
theorem rdN_W {v : Nat} (h : v ≠ 0) : rdN v = rdW (v % 1024) := if_neg h
theorem nI_1023 {v : Nat} (h : v < 4096) : nI v &&& 1023 = nI (v % 1024) := by
  have : ∀ a, a < 64 → ∀ b, b < 64 → nI (64 * a + b) &&& 1023 = nI ((64 * a + b) % 1024) := by decide +kernel
  have e : v = 64 * (v / 64) + v % 64 := (Nat.div_add_mod v 64).symm
  rw [e]
  exact this _ (by omega) _ (by omega)
def Bro (x1 x2 : Int32) : Option (Int32 ⊕ Int32) := if ((10 : Int32)) ≤ x2 then some (.inr ((11 : Int32))) else if x1 = (((1 : Int32)) <<< (x2 &&& 31)) then some (.inr x2) else some (.inl (x2 + (1 : Int32)))
theorem Bro_all : ∀ w, w < 1024 → iterN (Bro (nI w)) 12 0 = some (nI (rdW w)) := by decide +kernel
theorem c_rd {h : Hp} {v : Nat} (hv : v ≤ 4095) : F_X2_readingOf h (nI v) = some (nI (rdN v)) := by
  unfold F_X2_readingOf
  by_cases h0 : v = 0
  · subst h0
    rfl
  · rw [if_neg (show ¬ nI v = 0 from fun e => h0 (nI_inj (by omega) (by decide) e)), nI_1023 (by omega), rdN_W h0]
    exact iterW_N 12 (Bro_all _ (Nat.mod_lt _ (by decide)))
theorem nIl {j n : Nat} {x : Int32} (e : x = nI j) (h : j < n) (hn : n < 2 ^ 31) : ib x n = true ∧ nx x = j := by
  subst e
  exact ⟨ib_nI h hn, nx_nI (by omega)⟩
theorem c_isCard {h : Hp} {c : Nat} {A : Ho} {q : Nat} (ok : HoOk q A) (rc : RcH h c A) (a : Int32) : (F_X2_isCard h c a = some 0 ∧ ¬ (∃ j, j < oN A ∧ a = nI j)) ∨ ∃ j, j < oN A ∧ a = nI j ∧ F_X2_isCard h c a = some 1 := by
  have hn := ok.1
  unfold F_X2_isCard
  rw [rc.1.1]
  rcases nI_cases a (n := oN A) (by omega) with (p | p) | ⟨j, hj, rfl⟩
  · rw [if_pos p]
    exact Or.inl ⟨rfl, fun ⟨j, hj, e⟩ => absurd p (by rw [e]; exact nI_n0 (by omega))⟩
  · rw [if_pos p]
    exact Or.inl ⟨ite_self _, fun ⟨j, hj, e⟩ => absurd p (by rw [e]; exact nI_ge hj (by omega))⟩
  · rw [if_neg (nI_n0 (by omega)), if_neg (nI_ge hj (by omega))]
    exact Or.inr ⟨j, hj, rfl, rfl⟩
theorem m_isCard {h : Hp} {A : Ho} {q : Nat} (ok : HoOk q A) (rm : RmH h 0 A) (a : Int32) : (F_X12_isCard h 122 a = some 0 ∧ ¬ (∃ j, j < oN A ∧ a = nI j)) ∨ ∃ j, j < oN A ∧ a = nI j ∧ F_X12_isCard h 122 a = some 1 := by
  have hn := ok.1
  have e0 : hI h 123 (nx 0) = nI (oN A) := rm.1.1
  unfold F_X12_isCard
  rw [g122_0, n123, e0, gd_on (b := ib 0 4000) (by decide)]
  rcases nI_cases a (n := oN A) (by omega) with (p | p) | ⟨j, hj, rfl⟩
  · rw [if_pos p]
    exact Or.inl ⟨rfl, fun ⟨j, hj, e⟩ => absurd p (by rw [e]; exact nI_n0 (by omega))⟩
  · rw [if_pos p]
    exact Or.inl ⟨ite_self _, fun ⟨j, hj, e⟩ => absurd p (by rw [e]; exact nI_ge hj (by omega))⟩
  · rw [if_neg (nI_n0 (by omega)), if_neg (nI_ge hj (by omega))]
    exact Or.inr ⟨j, hj, rfl, rfl⟩
theorem x_8 (i k : Nat) : nI i * 8 + nI k = nI (8 * i + k) := by rw [show (8 : Int32) = nI 8 by decide, nI_mul, nI_add, Nat.mul_comm]
theorem x_11 (i k : Nat) : 8 + 11 * nI i + nI k = nI (8 + 11 * i + k) := by rw [show (8 : Int32) = nI 8 by decide, show (11 : Int32) = nI 11 by decide, nI_mul, nI_add, nI_add]
theorem c_holesOf {h : Hp} {A : Ho} {q i k : Nat} (ok : HoOk q A) (rc : RcH h 3 A) (hi : i < oN A) (hk : k < 8) : F_X2_holesOf h 3 (nI i) (nI k) = some (nI (oH A i k)) := by
  have hn := ok.1
  unfold F_X2_holesOf
  rw [g3_2, n4, x_8, gd_on (ib_nI (by omega) (by decide)), nx_nI (by omega), ((rc.1.2.2 i hi).1 k hk).1]
theorem c_reading {h : Hp} {A : Ho} {q i k : Nat} (ok : HoOk q A) (rc : RcH h 3 A) (hi : i < oN A) (hk : k < 8) : F_X2_reading h 3 (nI i) (nI k) = some (nI (rdN (oH A i k))) := by
  have hn := ok.1
  unfold F_X2_reading
  rw [g3_3, n5, x_8, gd_on (ib_nI (by omega) (by decide)), nx_nI (by omega), ((rc.1.2.2 i hi).1 k hk).2]
theorem m_ofCard {h : Hp} {A : Ho} {q i k : Nat} (ok : HoOk q A) (hi : i < oN A) (hk : k < 11) : F_X12_ofCard h 122 (nI i) (nI k) = some (hI h 123 (8 + 11 * i + k)) := by
  have hn := ok.1
  unfold F_X12_ofCard
  rw [g122_0, n123, x_11, gd_on (ib_nI (by omega) (by decide)), nx_nI (by omega)]
def Bbi (s : Int32 × Int32) : Option ((Int32 × Int32) ⊕ Int32) := if s.2 = 0 then some (.inr s.1) else some (.inl (s.1 + (1 : Int32), s.2 &&& (s.2 - ((1 : Int32)))))
def Bre (x4 x5 : Int32) : Option (Int32 ⊕ Int32) := if ((x4 >>> (x5 &&& 31)) &&& ((1 : Int32))) = 0 then some (.inl (x5 + (1 : Int32))) else some (.inr x5)
/-- how many holes -/
def pcN : Nat → Nat → Nat
  | 0, _ => 0
  | n + 1, w => w % 2 + pcN n (w / 2)
theorem Bbi_all : ∀ a, a < 32 → ∀ b, b < 32 → iterN Bbi 11 (0, nI (32 * a + b)) = some (nI (pcN 10 (32 * a + b))) := by decide +kernel
theorem m_bits {h : Hp} {w : Nat} (hw : w < 1024) : F_X12_bits h (nI w) = some (nI (pcN 10 w)) := by
  have e : w = 32 * (w / 32) + w % 32 := (Nat.div_add_mod w 32).symm
  rw [e]
  exact iterW_N 11 (Bbi_all _ (by omega) _ (by omega))
theorem Bre_all : ∀ a, a < 32 → ∀ b, b < 32 → (pcN 10 (32 * a + b) = 1 → iterN (Bre (nI (32 * a + b))) 11 0 = some (nI (rdW (32 * a + b)))) ∧ (pcN 10 (32 * a + b) ≠ 1 → rdW (32 * a + b) = 11) ∧ pcN 10 (32 * a + b) < 11 := by decide +kernel
theorem m_reads {h : Hp} {A : Ho} {q i k : Nat} (ok : HoOk q A) (rm : RmH h 0 A) (hi : i < oN A) (hk : k < 8) : F_X12_reads h 122 (nI i) (nI k) = some (nI (rdN (oH A i k))) := by
  have hv := (ok.2.1 i hi).1 k hk
  unfold F_X12_reads
  rw [m_ofCard ok hi (by omega)]
  have e := (rm.1.2.2 i hi).1 k hk
  rw [Nat.zero_add] at e
  rw [e]
  simp only [Option.bind_some]
  generalize oH A i k = v at *
  by_cases h0 : v = 0
  · subst h0
    rfl
  · rw [if_neg (show ¬ nI v = 0 from fun e => h0 (nI_inj (by omega) (by decide) e)), nI_1023 (by omega), rdN_W h0, m_bits (Nat.mod_lt _ (by decide))]
    simp only [Option.bind_some]
    have hw : v % 1024 < 1024 := Nat.mod_lt _ (by decide)
    generalize v % 1024 = w at *
    have e : w = 32 * (w / 32) + w % 32 := (Nat.div_add_mod w 32).symm
    have B := Bre_all (w / 32) (by omega) (w % 32) (by omega)
    rw [← e] at B
    by_cases h1 : pcN 10 w = 1
    · rw [h1, if_pos (by decide)]
      exact iterW_N 11 (B.1 h1)
    · rw [if_neg (show ¬ nI (pcN 10 w) = 1 from fun e => h1 (nI_inj (b := 1) (by omega) (by decide) e)), B.2.1 h1]
      rfl
