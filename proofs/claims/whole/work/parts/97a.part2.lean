/-! ===== parts: the class's ways ===== -/
def CP (h : Hp) (n : Nat) (a0 a1 : Nat → Bool) (lt : Nat → Nat → Bool) : Prop := hI h 57 1 = nI n ∧ (∀ c, 1 ≤ c → c ≤ n → (hI h 60 c = nI 1) = (a0 c = false) ∧ (hI h 60 c = nI 0) = (a1 c = false)) ∧ ∀ x c, x < c → c ≤ n → (hI h 59 c ≤ hI h 59 x) = (lt x c = false)
/-- only the two rows of ways change -/
def FrW (h h' : Hp) : Prop := (∀ d, d ≠ 61 → d ≠ 62 → hI h' d = hI h d) ∧ hL h' = hL h
theorem FrW.rf {h : Hp} : FrW h h := ⟨fun _ _ _ => rfl, rfl⟩
theorem FrW.trans {a b c : Hp} (x : FrW a b) (y : FrW b c) : FrW a c := ⟨fun d p q => (y.1 d p q).trans (x.1 d p q), y.2.trans x.2⟩
theorem FrW.cp {h h' : Hp} {n : Nat} {a0 a1 : Nat → Bool} {lt : Nat → Nat → Bool} (f : FrW h h') (p : CP h n a0 a1 lt) : CP h' n a0 a1 lt := by
  unfold CP at *
  rw [f.1 57 (by decide) (by decide), f.1 59 (by decide) (by decide), f.1 60 (by decide) (by decide)]
  exact p
/-- the two rows hold the ways -/
def RW (h : Hp) (c : Nat) (Z O : Nat → Nat) : Prop := ∀ k, k < c → hI h 61 k = nI (Z k) ∧ hI h 62 k = nI (O k)
/-- in the middle of adding card c + 1: the first m are done -/
def RM (h : Hp) (c m : Nat) (b0 b1 bl : Bool) (Z O : Nat → Nat) : Prop := ∀ k, k < c → hI h 61 k = nI (if k < m then (if b0 && bl then Z k else 0) else Z k) ∧ hI h 62 k = nI (if k < m then (if b1 && bl then O k else 0) else O k)
def acc (b : Bool) (lt : Nat → Nat → Bool) (O : Nat → Nat) (c m : Nat) : Nat := if b then smN (fun x => if lt x (c + 1) then O x else 0) m else 0
theorem c_add64 {h : Hp} {n c : Nat} {a0 a1 : Nat → Bool} {lt : Nat → Nat → Bool} {Z O : Nat → Nat} (cp : CP h n a0 a1 lt) (hc : c + 1 ≤ n) (hn : n ≤ 30) (c1 : 1 ≤ c) (b0 b1 bl : Bool) (r : RW h c Z O) : ∃ h', L_X5_addCard_64 h 57 (nI (c + 1)) (bI b0) (bI b1) (bI bl) (nI 0) (nI 0) (nI 0) = some (h', nI (acc b0 lt O c c), nI (acc b1 lt Z c c)) ∧ FrW h h' ∧ RM h' c c b0 b1 bl Z O := by
  have key := iterW_inv (f := fun s : Hp × Int32 × Int32 × Int32 => B_X5_addCard_64 s.1 57 (nI (c + 1)) (bI b0) (bI b1) (bI bl) s.2.1 s.2.2.1 s.2.2.2) (fun m s => s.2 = (nI (acc b0 lt O c m), nI (acc b1 lt Z c m), nI m) ∧ FrW h s.1 ∧ RM s.1 c m b0 b1 bl Z O) (fun r => r.2 = (nI (acc b0 lt O c c), nI (acc b1 lt Z c c)) ∧ FrW h r.1 ∧ RM r.1 c c b0 b1 bl Z O) c (fun m s hm P => ?_) (fun s P => ?_) (s := (h, nI 0, nI 0, nI 0)) ⟨?_, FrW.rf, ?_⟩
  · obtain ⟨⟨h', r2⟩, k1, k2, k3, k4⟩ := key
    have k2 : r2 = _ := k2
    subst k2
    exact ⟨h', k1, k3, k4⟩
  · obtain ⟨hx, s2⟩ := s
    obtain ⟨e2, f, g⟩ := P
    have e2 : s2 = _ := e2
    have f : FrW h hx := f
    have g : RM hx c m b0 b1 bl Z O := g
    subst e2
    have cpx := f.cp cp
    have g1 := (g m hm).1
    have g2 := (g m hm).2
    rw [if_neg (Nat.lt_irrefl m)] at g1 g2
    have lc := cpx.2.2 m (c + 1) (by omega) hc
    show ∃ s', B_X5_addCard_64 hx 57 (nI (c + 1)) (bI b0) (bI b1) (bI bl) (nI (acc b0 lt O c m)) (nI (acc b1 lt Z c m)) (nI m) = _ ∧ _
    have ac : ∀ (b : Bool) (O : Nat → Nat), acc b lt O c (m + 1) = acc b lt O c m + if b then (if lt m (c + 1) then O m else 0) else 0 := by
      intro b O
      unfold acc
      cases b <;> rfl
    refine ⟨((if b1 && bl then (if b0 && bl then hx else uI hx 61 m (nI 0)) else uI (if b0 && bl then hx else uI hx 61 m (nI 0)) 62 m (nI 0)), nI (acc b0 lt O c (m + 1)), nI (acc b1 lt Z c (m + 1)), nI (m + 1)), ?_, rfl, ?_, ?_⟩
    · rw [ac, ac]
      unfold B_X5_addCard_64 J_X5_addCard_105 J_X5_addCard_125 J_X5_addCard_128 J_X5_addCard_137 J_X5_addCard_145
      sorry
    · sorry
    · sorry
  · sorry
  · sorry
  · sorry
