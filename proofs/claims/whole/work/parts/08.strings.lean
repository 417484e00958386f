/-- own's pool entry i is the Math method y -/
def LM (own : String) (i : Nat) (y : MethodName) (b : ByteArray) (n : Nat) : Prop := Cond.methodLink own i y ∈ lw_good ∧ Cond.static y ∈ lw_good ∧ Cond.initialized "java/lang/Math" ∈ lw_good ∧ Cond.code y b n (some .int) ∈ lw_good
/-- own's pool entry i is the String method y -/
def LG (own : String) (i : Nat) (y : MethodName) : Prop := Cond.methodLink own i y ∈ lw_good ∧ Cond.instanceMethod y ∈ lw_good ∧ Cond.selects "java/lang/String" y y ∈ lw_good
section EGT
variable {τ : Type} {Γ : Cx} {M : Mi} {pc npc : Nat} {lv lv' : List (Nat × Value)} {st : List Value} {h : Hp} {t t1 t2 : Option τ} {K : τ → Prop}
theorem x_mmax (hO : Ok Γ M) {i : Nat} {x y : Int32} (lm : LM M.1.cls i Lib.Math.max.name Lib.Math.max.code 2) (hh : 1 ≤ M.2.2.2.2) (hr : (st.map fun v => v.category).sum ≤ 8) (d : DD M pc (.invokestatic i) 3 npc) (kk : EG Γ M npc lv (.int (if x < y then y else x) :: st) h t K) : EG Γ M pc lv (.int y :: .int x :: st) h t K := by
  obtain ⟨p, e, R, s, m, args, below, meth, c, cells, slots, Z, G, tg⟩ := Γ
  obtain ⟨hx, hb, hml, hown, hts, hTF, hSF, ⟨hR1, hR2, hR3, hR4⟩, hret⟩ := hO
  obtain ⟨d, rfl⟩ := d
  intro z hz hk H locs ls hH hS hl
  exact va_mmax hx hb (by rw [hml]; exact hl.1.symm) hown (hts _ lm.1) (hts _ lm.2.1) (hts _ lm.2.2.1) (hts _ lm.2.2.2) (Nat.le_trans hh hR1) (by omega) hR3 hR4 d (kk z hz hk H locs ls hH hS hl)
theorem x_mmin (hO : Ok Γ M) {i : Nat} {x y : Int32} (lm : LM M.1.cls i Lib.Math.min.name Lib.Math.min.code 2) (hh : 1 ≤ M.2.2.2.2) (hr : (st.map fun v => v.category).sum ≤ 8) (d : DD M pc (.invokestatic i) 3 npc) (kk : EG Γ M npc lv (.int (if y < x then y else x) :: st) h t K) : EG Γ M pc lv (.int y :: .int x :: st) h t K := by
  obtain ⟨p, e, R, s, m, args, below, meth, c, cells, slots, Z, G, tg⟩ := Γ
  obtain ⟨hx, hb, hml, hown, hts, hTF, hSF, ⟨hR1, hR2, hR3, hR4⟩, hret⟩ := hO
  obtain ⟨d, rfl⟩ := d
  intro z hz hk H locs ls hH hS hl
  exact va_mmin hx hb (by rw [hml]; exact hl.1.symm) hown (hts _ lm.1) (hts _ lm.2.1) (hts _ lm.2.2.1) (hts _ lm.2.2.2) (Nat.le_trans hh hR1) (by omega) hR3 hR4 d (kk z hz hk H locs ls hH hS hl)
theorem x_mfm (hO : Ok Γ M) {i : Nat} {x y : Int32} (lm : LM M.1.cls i yJ9_floorMod_7cf53 cJ9_floorMod_7cf53 3) (hh : 1 ≤ M.2.2.2.2) (hr : (st.map fun v => v.category).sum ≤ 8) (d : DD M pc (.invokestatic i) 3 npc) (kk : EG Γ M npc lv (.int (fmv x y) :: st) h t K) : EG Γ M pc lv (.int y :: .int x :: st) h (gd (!decide (y = 0)) t) K := sorry
theorem x_slen (hO : Ok Γ M) {j i : Nat} (ls : LG M.1.cls i yJ0_length_8abf5) (hh : 2 ≤ M.2.2.2.2) (hj : j < NS) (d : DD M pc (.invokevirtual i) 3 npc) (hr : (st.map fun v => v.category).sum ≤ 8) (kk : EG Γ M npc lv (.int (nI (SLN.getD j 0)) :: st) h t K) : EG Γ M pc lv (sf Γ j :: st) h t K := sorry
theorem x_schr (hO : Ok Γ M) {j i : Nat} {x : Int32} (ls : LG M.1.cls i yJ0_charAt_5068e) (hh : 4 ≤ M.2.2.2.2) (hj : j < NS) (d : DD M pc (.invokevirtual i) 3 npc) (hr : (st.map fun v => v.category).sum ≤ 8) (kk : EG Γ M npc lv (.int ((SBY.getD j []).getD (nx x) 0) :: st) h t K) : EG Γ M pc lv (.int x :: sf Γ j :: st) h (gd (ib x (SLN.getD j 0)) t) K := sorry
end EGT
