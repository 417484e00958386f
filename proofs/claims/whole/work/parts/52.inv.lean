/-! ===== the invariant between component and reference ===== -/
/-- what a column with these holes reads -/
def rdN (v : Nat) : Nat := if v = 0 then 10 else if v % 1024 = 1 then 0 else if v % 1024 = 2 then 1 else if v % 1024 = 4 then 2 else if v % 1024 = 8 then 3 else if v % 1024 = 16 then 4 else if v % 1024 = 32 then 5 else if v % 1024 = 64 then 6 else if v % 1024 = 128 then 7 else if v % 1024 = 256 then 8 else if v % 1024 = 512 then 9 else 11
/-- a book: codes, their years; means, their codes and holes; joins from and to -/
abbrev Bk : Type := Nat × (Nat → Nat) × Nat × (Nat → Nat) × (Nat → Nat) × Nat × (Nat → Nat) × (Nat → Nat)
def bC (B : Bk) : Nat := B.1
def bY (B : Bk) : Nat → Nat := B.2.1
def bM (B : Bk) : Nat := B.2.2.1
def bMc (B : Bk) : Nat → Nat := B.2.2.2.1
def bMh (B : Bk) : Nat → Nat := B.2.2.2.2.1
def bJ (B : Bk) : Nat := B.2.2.2.2.2.1
def bJa (B : Bk) : Nat → Nat := B.2.2.2.2.2.2.1
def bJb (B : Bk) : Nat → Nat := B.2.2.2.2.2.2.2
/-- the first of the joins from k on, of n, that goes from m into code c -/
def jnF (B : Bk) (m c : Nat) : Nat → Nat → Int32
  | 0, _ => -1
  | n + 1, k => if bJa B k = m ∧ bMc B (bJb B k) = c then nI (bJb B k) else jnF B m c n (k + 1)
def jn (B : Bk) (m c : Nat) : Int32 := jnF B m c (bJ B) 0
def BkOk (B : Bk) : Prop := bC B ≤ 4 ∧ bM B ≤ 20 ∧ bJ B ≤ 12 ∧ (∀ k, k < bC B → bY B k ≤ 99) ∧ (∀ m, m < bM B → bMc B m < bC B ∧ bMh B m ≤ 4095) ∧ (∀ k, k < bJ B → bJa B k < bM B ∧ bJb B k < bM B ∧ bMc B (bJa B k) ≠ bMc B (bJb B k))
/-- the component's Book at cell c; the reference's slot b of cell 123 -/
def RcB (h : Hp) (c : Nat) (B : Bk) : Prop := hI h c 0 = nI (bC B) ∧ hI h c 1 = nI (bM B) ∧ (∀ k, k < bC B → hI h (c + 1) k = nI (bY B k)) ∧ (∀ m, m < bM B → hI h (c + 2) m = nI (bMc B m) ∧ hI h (c + 3) m = nI (bMh B m) ∧ ∀ d, d < 4 → hI h (c + 4) (4 * m + d) = if bMc B m = d then nI m else jn B m d)
def RmB (h : Hp) (b : Nat) (B : Bk) : Prop := hI h 123 (b + 2) = nI (bC B) ∧ hI h 123 (b + 3) = nI (bM B) ∧ hI h 123 (b + 4) = nI (bJ B) ∧ (∀ k, k < bC B → hI h 123 (b + 368 + k) = nI (bY B k)) ∧ (∀ m, m < bM B → hI h 123 (b + 372 + 2 * m) = nI (bMc B m) ∧ hI h 123 (b + 373 + 2 * m) = nI (bMh B m)) ∧ (∀ k, k < bJ B → hI h 123 (b + 412 + 2 * k) = nI (bJa B k) ∧ hI h 123 (b + 413 + 2 * k) = nI (bJb B k))
/-- a run: orders; of each kind, first, second number, mate -/
abbrev Sp : Type := Nat × (Nat → Nat) × (Nat → Nat) × (Nat → Nat) × (Nat → Nat)
def sN (P : Sp) : Nat := P.1
def sK (P : Sp) : Nat → Nat := P.2.1
def sA (P : Sp) : Nat → Nat := P.2.2.1
def sB (P : Sp) : Nat → Nat := P.2.2.2.1
def sM (P : Sp) : Nat → Nat := P.2.2.2.2
def SpOk (P : Sp) : Prop := sN P ≤ 80 ∧ (∀ k, k < sN P → sK P k ≤ 7 ∧ (sK P k = 0 → sA P k < 8 ∧ sB P k ≤ 1) ∧ (sK P k = 1 ∨ sK P k = 6 → sA P k < 8 ∧ sB P k < 12) ∧ (sK P k = 2 → sA P k ≤ 99) ∧ (sK P k = 4 → sA P k ≤ sB P k ∧ sB P k < 8 ∧ sB P k < sA P k + 6) ∧ (sK P k = 5 → 1 ≤ sA P k ∧ sA P k ≤ 9) ∧ (5 ≤ sK P k → sM P k < sN P) ∧ (sK P k = 5 ∨ sK P k = 6 → k < sM P k ∧ sK P (sM P k) = 7 ∧ sM P (sM P k) = k) ∧ (sK P k = 7 → sM P k < k ∧ (sK P (sM P k) = 5 ∨ sK P (sM P k) = 6) ∧ sM P (sM P k) = k)) ∧ ∀ o p, o < p → p < sN P → (sK P o = 5 ∨ sK P o = 6) → (sK P p = 5 ∨ sK P p = 6) → p < sM P o → sM P p < sM P o
def RcS (h : Hp) (c : Nat) (P : Sp) : Prop := hI h c 1 = nI (sN P) ∧ ∀ k, k < sN P → hI h (c + 1) k = nI (sK P k) ∧ (sK P k ≠ 7 → hI h (c + 2) k = nI (sA P k) ∧ hI h (c + 3) k = nI (sB P k)) ∧ (5 ≤ sK P k → hI h (c + 4) k = nI (sM P k))
def RmS (h : Hp) (b : Nat) (P : Sp) : Prop := hI h 123 (b + 5) = nI (sN P) ∧ ∀ k, k < sN P → hI h 123 (b + 436 + 4 * k) = nI (sK P k) ∧ (sK P k ≠ 7 → hI h 123 (b + 437 + 4 * k) = nI (sA P k) ∧ hI h 123 (b + 438 + 4 * k) = nI (sB P k)) ∧ (5 ≤ sK P k → hI h 123 (b + 439 + 4 * k) = nI (sM P k))
/-- a house: cards, holes, clerks, inks, wear, the deck, minutes, book, run -/
abbrev Ho : Type := Nat × (Nat → Nat → Nat) × (Nat → Nat) × (Nat → Int32) × (Nat → Nat) × (Nat → Nat) × Int32 × Bk × Sp
def oN (A : Ho) : Nat := A.1
def oH (A : Ho) : Nat → Nat → Nat := A.2.1
def oC (A : Ho) : Nat → Nat := A.2.2.1
def oK (A : Ho) : Nat → Int32 := A.2.2.2.1
def oW (A : Ho) : Nat → Nat := A.2.2.2.2.1
def oD (A : Ho) : Nat → Nat := A.2.2.2.2.2.1
def oM (A : Ho) : Int32 := A.2.2.2.2.2.2.1
def oB (A : Ho) : Bk := A.2.2.2.2.2.2.2.1
def oS (A : Ho) : Sp := A.2.2.2.2.2.2.2.2
def HoOk (q : Nat) (A : Ho) : Prop := oN A ≤ 30 ∧ (∀ i, i < oN A → (∀ k, k < 8 → oH A i k ≤ 4095) ∧ oC A i ≤ 1 ∧ (oK A i = -1 ∨ oK A i = 0 ∨ oK A i = 1) ∧ oW A i ≤ 200 * q ∧ oD A i < oN A) ∧ (∀ i j, i < oN A → j < oN A → oD A i = oD A j → i = j) ∧ BkOk (oB A) ∧ SpOk (oS A)
def RcC (h : Hp) (c : Nat) (A : Ho) : Prop := hI h c 0 = nI (oN A) ∧ hI h c 1 = oM A ∧ ∀ i, i < oN A → (∀ k, k < 8 → hI h (c + 1) (8 * i + k) = nI (oH A i k) ∧ hI h (c + 2) (8 * i + k) = nI (rdN (oH A i k))) ∧ hI h (c + 3) i = nI (oC A i) ∧ hI h (c + 4) i = oK A i ∧ hI h (c + 5) i = nI (oW A i) ∧ hI h (c + 6) i = nI (oD A i)
def RmC (h : Hp) (b : Nat) (A : Ho) : Prop := hI h 123 b = nI (oN A) ∧ hI h 123 (b + 1) = oM A ∧ ∀ i, i < oN A → (∀ k, k < 8 → hI h 123 (b + 8 + 11 * i + k) = nI (oH A i k)) ∧ hI h 123 (b + 16 + 11 * i) = nI (oC A i) ∧ hI h 123 (b + 17 + 11 * i) = oK A i ∧ hI h 123 (b + 18 + 11 * i) = nI (oW A i) ∧ hI h 123 (b + 338 + i) = nI (oD A i)
def RcH (h : Hp) (c : Nat) (A : Ho) : Prop := RcC h c A ∧ RcB h (c + 7) (oB A) ∧ RcS h (c + 12) (oS A)
def RmH (h : Hp) (b : Nat) (A : Ho) : Prop := RmC h b A ∧ RmB h b (oB A) ∧ RmS h b (oS A)
/-- house and marks -/
def Iho (q : Nat) (h : Hp) : Prop := ∃ (A : Ho) (m : Nat) (Mk : Nat → Ho), HoOk q A ∧ RcH h 3 A ∧ RmH h 0 A ∧ m ≤ 3 ∧ hI h 0 14 = nI m ∧ hI h 122 51 = nI m ∧ ∀ j, j < m → HoOk q (Mk j) ∧ RcH h (71 + 17 * j) (Mk j) ∧ RmH h (800 + 800 * j) (Mk j)
/-- trays: missing, or of a sort, so many numbers -/
def Itr (h : Hp) : Prop := ∀ j, j < 4 → (hI h (63 + 2 * j) 0 = 1 ∧ hI h 125 j = -1) ∨ (hI h (63 + 2 * j) 0 = 0 ∧ ∃ n s : Nat, n ≤ 60 ∧ s < 4 ∧ hI h (63 + 2 * j) 2 = nI n ∧ hI h 125 j = nI n ∧ hI h (63 + 2 * j) 1 = nI s ∧ hI h 124 j = nI s ∧ ∀ k, k < n → hL h (64 + 2 * j) k = hL h 126 (60 * j + k))
/-- the tape -/
def Itp (h : Hp) : Prop := ∃ (n : Nat) (f : Nat → Nat), n ≤ 500 ∧ hI h 0 13 = nI n ∧ hI h 122 9 = nI n ∧ ∀ k, k < n → f k < 256 ∧ hI h 2 k = nI (f k) ∧ hI h 127 k = (nI (f k)).toInt8.toInt32
def Ist (h : Hp) : Prop := hI h 122 1 = hI h 0 10 ∧ hL h 122 2 = hL h 0 11 ∧ hL h 122 3 = hL h 0 12 ∧ hI h 122 15 = hI h 0 15 ∧ hI h 122 16 = hI h 0 16
/-- the latest plan -/
def Ipl (h : Hp) : Prop := (hI h 44 7 = 0 ∧ hI h 122 34 = -1) ∨ (hI h 44 7 = 1 ∧ ∃ n : Nat, n ≤ 4 ∧ hI h 44 8 = nI n ∧ hI h 122 34 = nI n ∧ hI h 122 35 = hI h 44 9 ∧ ∀ k, k < n → hI h 139 k = hI h 50 k)
/-- the latest run -/
def Irn (h : Hp) : Prop := (hI h 40 3 = 0 ∧ hI h 122 38 = -1) ∨ (hI h 40 3 = 1 ∧ (hI h 40 6 = 0 ∨ hI h 40 6 = 1) ∧ hI h 122 38 = hI h 40 6 ∧ hL h 122 36 = hL h 40 4 ∧ hI h 122 37 = hI h 40 5)
/-- the latest misreads -/
def Imi (h : Hp) : Prop := (hI h 51 0 = 0 ∧ hI h 122 42 = -1) ∨ (hI h 51 0 = 1 ∧ ∃ n : Nat, n ≤ 2 ∧ hI h 51 1 = nI n ∧ hI h 122 42 = nI n ∧ hI h 122 43 = hI h 51 2 ∧ ∀ k, k < n → hI h 141 k = hI h 52 (2 * k) ∧ hI h 142 k = hI h 52 (2 * k + 1))
/-- the latest parting -/
def Ipa (h : Hp) : Prop := (hI h 57 0 = 0 ∧ hI h 122 49 = -1) ∨ (hI h 57 0 = 1 ∧ ∃ n : Nat, n ≤ 30 ∧ hI h 57 1 = nI n ∧ hI h 122 49 = nI n ∧ hI h 122 50 = hI h 57 2 ∧ (hI h 57 2 ≠ 0 → ∀ k, k < n → hI h 146 k = hI h 58 k))
def Inv (q : Nat) (h : Hp) : Prop := Iho q h ∧ Itr h ∧ Itp h ∧ Ist h ∧ Ipl h ∧ Irn h ∧ Imi h ∧ Ipa h
theorem HoOk.mono {q : Nat} {A : Ho} (h : HoOk q A) : HoOk (q + 1) A := ⟨h.1, fun i hi => ⟨(h.2.1 i hi).1, (h.2.1 i hi).2.1, (h.2.1 i hi).2.2.1, by have := (h.2.1 i hi).2.2.2.1; omega, (h.2.1 i hi).2.2.2.2⟩, h.2.2⟩
theorem Iho.mono {q : Nat} {h : Hp} (i : Iho q h) : Iho (q + 1) h := by
  obtain ⟨A, m, Mk, h1, h2, h3, h4, h5, h6, h7⟩ := i
  exact ⟨A, m, Mk, h1.mono, h2, h3, h4, h5, h6, fun j hj => ⟨(h7 j hj).1.mono, (h7 j hj).2⟩⟩
theorem Inv.mono {q : Nat} {h : Hp} (i : Inv q h) : Inv (q + 1) h := ⟨i.1.mono, i.2⟩
theorem op_status (q : Nat) (h : Hp) (_ : q < 512) (i : Inv q h) : ∃ r, F_X11_status h 0 = some r ∧ F_X12_status h 122 = some r ∧ Inv (q + 1) h := ⟨hI h 0 10, rfl, by rw [F_X12_status, i.2.2.2.1.1], i.mono⟩
theorem op_top (q : Nat) (h : Hp) (_ : q < 512) (i : Inv q h) : ∃ r, F_X11_top h 0 = some r ∧ F_X12_top h 122 = some r ∧ Inv (q + 1) h := ⟨hL h 0 11, rfl, by rw [F_X12_top, i.2.2.2.1.2.1], i.mono⟩
theorem op_bottom (q : Nat) (h : Hp) (_ : q < 512) (i : Inv q h) : ∃ r, F_X11_bottom h 0 = some r ∧ F_X12_bottom h 122 = some r ∧ Inv (q + 1) h := ⟨hL h 0 12, rfl, by rw [F_X12_bottom, i.2.2.2.1.2.2.1], i.mono⟩
theorem op_fault (q : Nat) (h : Hp) (a : Int32) (_ : q < 512) (i : Inv q h) : ∃ r, F_X11_fault h 0 a = some r ∧ F_X12_fault h 122 a = some r ∧ Inv (q + 1) h := by
  refine ⟨if a = 0 then hI h 0 15 else if a = 1 then hI h 0 16 else -1, ?_, ?_, i.mono⟩
  · unfold F_X11_fault
    by_cases h0 : a = 0
    · rw [if_pos h0, if_pos h0]
    · rw [if_neg h0, if_neg h0]
      by_cases h1 : a = 1
      · rw [if_pos h1, if_pos h1]
      · rw [if_neg h1, if_neg h1]
  · unfold F_X12_fault
    rw [i.2.2.2.1.2.2.2.1, i.2.2.2.1.2.2.2.2]
    by_cases h0 : a = 0
    · rw [if_pos h0, if_pos h0]
    · rw [if_neg h0, if_neg h0]
      by_cases h1 : a = 1
      · rw [if_pos h1, if_pos h1]
      · rw [if_neg h1, if_neg h1]
/-! ===== what the invariant looks at ===== -/
theorem RcH_congr {h h' : Hp} {c : Nat} {A : Ho} (e : ∀ d, c ≤ d → d ≤ c + 16 → hI h' d = hI h d) (r : RcH h c A) : RcH h' c A := by
  have e0 := e c (by omega) (by omega)
  have e1 := e (c + 1) (by omega) (by omega)
  have e2 := e (c + 2) (by omega) (by omega)
  have e3 := e (c + 3) (by omega) (by omega)
  have e4 := e (c + 4) (by omega) (by omega)
  have e5 := e (c + 5) (by omega) (by omega)
  have e6 := e (c + 6) (by omega) (by omega)
  have e7 := e (c + 7) (by omega) (by omega)
  have e8 := e (c + 7 + 1) (by omega) (by omega)
  have e9 := e (c + 7 + 2) (by omega) (by omega)
  have e10 := e (c + 7 + 3) (by omega) (by omega)
  have e11 := e (c + 7 + 4) (by omega) (by omega)
  have e12 := e (c + 12) (by omega) (by omega)
  have e13 := e (c + 12 + 1) (by omega) (by omega)
  have e14 := e (c + 12 + 2) (by omega) (by omega)
  have e15 := e (c + 12 + 3) (by omega) (by omega)
  have e16 := e (c + 12 + 4) (by omega) (by omega)
  unfold RcH RcC RcB RcS at *
  rw [e0, e1, e2, e3, e4, e5, e6, e7, e8, e9, e10, e11, e12, e13, e14, e15, e16]
  exact r
theorem RmH_congr {h h' : Hp} {b : Nat} {A : Ho} (e : hI h' 123 = hI h 123) (r : RmH h b A) : RmH h' b A := by
  unfold RmH RmC RmB RmS at *
  rw [e]
  exact r
theorem Iho_congr {q : Nat} {h h' : Hp} (e1 : ∀ d, 3 ≤ d → d ≤ 19 → hI h' d = hI h d) (e2 : ∀ d, 71 ≤ d → d ≤ 121 → hI h' d = hI h d) (e3 : hI h' 123 = hI h 123) (e4 : hI h' 0 14 = hI h 0 14) (e5 : hI h' 122 51 = hI h 122 51) (i : Iho q h) : Iho q h' := by
  obtain ⟨A, m, Mk, h1, h2, h3, h4, h5, h6, h7⟩ := i
  exact ⟨A, m, Mk, h1, RcH_congr (fun d a b => e1 d a b) h2, RmH_congr e3 h3, h4, e4.trans h5, e5.trans h6, fun j hj => ⟨(h7 j hj).1, RcH_congr (fun d a b => e2 d (by omega) (by omega)) (h7 j hj).2.1, RmH_congr e3 (h7 j hj).2.2⟩⟩
theorem Itr_congr {h h' : Hp} (e1 : ∀ d, 63 ≤ d → d ≤ 70 → hI h' d = hI h d ∧ hL h' d = hL h d) (e2 : hI h' 124 = hI h 124) (e3 : hI h' 125 = hI h 125) (e4 : hL h' 126 = hL h 126) (i : Itr h) : Itr h' := by
  intro j hj
  have a := e1 (63 + 2 * j) (by omega) (by omega)
  have b := e1 (64 + 2 * j) (by omega) (by omega)
  rw [a.1, b.2, e2, e3, e4]
  exact i j hj
/-- the cells of the invariant other than rows 0 and 122 are as they were, and what it asks of these -/
def Sm (h h' : Hp) : Prop := (∀ d, d ≠ 0 → d ≠ 122 → hI h' d = hI h d ∧ hL h' d = hL h d)
theorem Inv_rows {q : Nat} {h h' : Hp} (e : Sm h h') (a13 : hI h' 0 13 = hI h 0 13) (a14 : hI h' 0 14 = hI h 0 14) (b : ∀ k, k = 9 ∨ k = 34 ∨ k = 35 ∨ k = 37 ∨ k = 38 ∨ k = 42 ∨ k = 43 ∨ k = 49 ∨ k = 50 ∨ k = 51 → hI h' 122 k = hI h 122 k) (c : hL h' 122 36 = hL h 122 36) (st : Ist h') (i : Inv q h) : Inv q h' := by
  have E : ∀ d, d ≠ 0 → d ≠ 122 → hI h' d = hI h d := fun d x y => (e d x y).1
  obtain ⟨i1, i2, i3, -, i5, i6, i7, i8⟩ := i
  refine ⟨Iho_congr (fun d _ _ => E d (by omega) (by omega)) (fun d _ _ => E d (by omega) (by omega)) (E 123 (by decide) (by decide)) a14 (b 51 (by omega)) i1, Itr_congr (fun d _ _ => e d (by omega) (by omega)) (E 124 (by decide) (by decide)) (E 125 (by decide) (by decide)) (e 126 (by decide) (by decide)).2 i2, ?_, st, ?_, ?_, ?_, ?_⟩
  · unfold Itp at *
    rw [a13, b 9 (by omega), E 2 (by decide) (by decide), E 127 (by decide) (by decide)]
    exact i3
  · unfold Ipl at *
    rw [E 44 (by decide) (by decide), E 50 (by decide) (by decide), E 139 (by decide) (by decide), b 34 (by omega), b 35 (by omega)]
    exact i5
  · unfold Irn at *
    rw [E 40 (by decide) (by decide), (e 40 (by decide) (by decide)).2, b 37 (by omega), b 38 (by omega), c]
    exact i6
  · unfold Imi at *
    rw [E 51 (by decide) (by decide), E 52 (by decide) (by decide), E 141 (by decide) (by decide), E 142 (by decide) (by decide), b 42 (by omega), b 43 (by omega)]
    exact i7
  · unfold Ipa at *
    rw [E 57 (by decide) (by decide), E 58 (by decide) (by decide), E 146 (by decide) (by decide), b 49 (by omega), b 50 (by omega)]
    exact i8
theorem hI_uI_o {h : Hp} {c k d : Nat} {v : Int32} (hd : d ≠ c) : hI (uI h c k v) d = hI h d := by rw [hI_uI, if_neg hd]
theorem hI_uI_s {h : Hp} {c k j : Nat} {v : Int32} (hj : j ≠ k) : hI (uI h c k v) c j = hI h c j := by rw [hI_uI, if_pos rfl, upd_ne hj]
theorem hI_uI_e {h : Hp} {c k : Nat} {v : Int32} : hI (uI h c k v) c k = v := by rw [hI_uI, if_pos rfl, upd_eq]
/-- only the status has changed, on both sides alike -/
theorem Inv_status {q : Nat} {h : Hp} (v : Int32) (i : Inv q h) : Inv q (uI (uI h 0 10 v) 122 1 v) := by
  have j := i.2.2.2.1
  refine Inv_rows (h := h) (fun d a b => ⟨by rw [hI_uI_o b, hI_uI_o a], rfl⟩) ?_ ?_ (fun k hk => ?_) rfl ⟨?_, ?_, ?_, ?_, ?_⟩ i
  · rw [hI_uI_o (by decide), hI_uI_s (by decide)]
  · rw [hI_uI_o (by decide), hI_uI_s (by decide)]
  · rw [hI_uI_s (by omega), hI_uI_o (by decide)]
  · rw [hI_uI_e, hI_uI_o (by decide), hI_uI_e]
  · exact j.2.1
  · exact j.2.2.1
  · rw [hI_uI_s (by decide), hI_uI_o (by decide), hI_uI_o (by decide), hI_uI_s (by decide)]; exact j.2.2.2.1
  · rw [hI_uI_s (by decide), hI_uI_o (by decide), hI_uI_o (by decide), hI_uI_s (by decide)]; exact j.2.2.2.2
/-- a call that changes the status alone, with the answer alike -/
theorem op_ro {α : Type} {q : Nat} {h : Hp} {s : Int32} {r : α} {f g : Hp → Option (Hp × α)} (i : Inv q h) (hf : f h = some (uI h 0 10 s, r)) (hg : g (uI h 0 10 s) = some (uI (uI h 0 10 s) 122 1 s, r)) : ∃ h1 h2 r, f h = some (h1, r) ∧ g h1 = some (h2, r) ∧ Inv (q + 1) h2 := ⟨_, _, r, hf, hg, (Inv_status s i).mono⟩
