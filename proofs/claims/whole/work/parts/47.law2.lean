/-! ===== the law's loop ===== -/
/-- the script: L ints xs at the cell b, outside the cells -/
def PX (Γ : Cx) (b L : Nat) (xs : Nat → Int32) : Prop := va_X b L xs Γ.2.2.2.1 Γ.2.2.2.1.heap ∧ b < Γ.2.2.2.1.heap.size ∧ ¬ gA (cG Γ) b
section EGP
variable {τ : Type} {Γ : Cx} {M : Mi} {pc npc : Nat} {lv lv' : List (Nat × Value)} {st : List Value} {h : Hp} {t t1 t2 : Option τ} {K : τ → Prop}
theorem x_pald (hO : Ok Γ M) {b L : Nat} {xs : Nat → Int32} {i : Int32} (hp : PX Γ b L xs) (d : DD M pc .iaload 1 npc) (kk : EG Γ M npc lv (.int (xs (nx i)) :: st) h t K) : EG Γ M pc lv (.int i :: .ref b :: st) h (gd (ib i L) t) K := by
  obtain ⟨p, e, R, s, m, args, below, meth, c, cells, slots, Z, G, tg⟩ := Γ
  obtain ⟨hx, hb, hml, hown, hts, hTF, hSF, hR, hret⟩ := hO
  obtain ⟨d, rfl⟩ := d
  intro z hz hk H locs ls hH hS hl
  obtain ⟨h1, h2⟩ := gd_t hz
  exact va_sld hx hb hp.1 hp.2.1 hp.2.2 hS (ib_in h1) d (kk z h2 hk H locs ls hH hS hl)
theorem x_plen (hO : Ok Γ M) {b L : Nat} {xs : Nat → Int32} (hp : PX Γ b L xs) (d : DD M pc .arraylength 1 npc) (kk : EG Γ M npc lv (.int (nI L) :: st) h t K) : EG Γ M pc lv (.ref b :: st) h t K := by
  obtain ⟨p, e, R, s, m, args, below, meth, c, cells, slots, Z, G, tg⟩ := Γ
  obtain ⟨hx, hb, hml, hown, hts, hTF, hSF, hR, hret⟩ := hO
  obtain ⟨d, rfl⟩ := d
  intro z hz hk H locs ls hH hS hl
  exact va_slen hx hb hp.1 hp.2.1 hp.2.2 hS d (kk z hz hk H locs ls hH hS hl)
end EGP
theorem lb_X11_status : LB mX11_status 0 := ⟨List.mem_filter.mpr ⟨List.mem_append_right _ (tbi1 _ (List.mem_of_getElem? (i := 1) rfl)), rfl⟩, List.mem_filter.mpr ⟨List.mem_append_right _ (tbi3 _ (List.mem_of_getElem? (i := 2) rfl)), rfl⟩, ⟨by decide +kernel, by decide +kernel⟩, by decide +kernel, by decide⟩
theorem lv_RL_13 : LV RL 13 mX11_status 0 := ⟨lb_X11_status, List.mem_filter.mpr ⟨List.mem_append_right _ (tbi3 _ (List.mem_of_getElem? (i := 0) rfl)), rfl⟩, List.mem_filter.mpr ⟨List.mem_append_right _ (tbi3 _ (List.mem_of_getElem? (i := 1) rfl)), rfl⟩, Or.inl (List.mem_filter.mpr ⟨List.mem_append_right _ (tbi2 _ (List.mem_of_getElem? (i := 239) rfl)), rfl⟩)⟩
theorem lb_X12_status : LB mX12_status 0 := ⟨List.mem_filter.mpr ⟨List.mem_append_right _ (tbi1 _ (List.mem_of_getElem? (i := 13) rfl)), rfl⟩, List.mem_filter.mpr ⟨List.mem_append_right _ (tbi7 _ (List.mem_of_getElem? (i := 4) rfl)), rfl⟩, ⟨by decide +kernel, by decide +kernel⟩, by decide +kernel, by decide⟩
theorem lv_RL_17 : LV RL 17 mX12_status 0 := ⟨lb_X12_status, List.mem_filter.mpr ⟨List.mem_append_right _ (tbi7 _ (List.mem_of_getElem? (i := 2) rfl)), rfl⟩, List.mem_filter.mpr ⟨List.mem_append_right _ (tbi7 _ (List.mem_of_getElem? (i := 3) rfl)), rfl⟩, Or.inl (List.mem_filter.mpr ⟨List.mem_append_right _ (tbi7 _ (List.mem_of_getElem? (i := 1) rfl)), rfl⟩)⟩
theorem lb_X11_top : LB mX11_top 0 := ⟨List.mem_filter.mpr ⟨List.mem_append_right _ (tbi1 _ (List.mem_of_getElem? (i := 1) rfl)), rfl⟩, List.mem_filter.mpr ⟨List.mem_append_right _ (tbi3 _ (List.mem_of_getElem? (i := 6) rfl)), rfl⟩, ⟨by decide +kernel, by decide +kernel⟩, by decide +kernel, by decide⟩
theorem lv_RL_18 : LV RL 18 mX11_top 0 := ⟨lb_X11_top, List.mem_filter.mpr ⟨List.mem_append_right _ (tbi3 _ (List.mem_of_getElem? (i := 4) rfl)), rfl⟩, List.mem_filter.mpr ⟨List.mem_append_right _ (tbi3 _ (List.mem_of_getElem? (i := 5) rfl)), rfl⟩, Or.inl (List.mem_filter.mpr ⟨List.mem_append_right _ (tbi3 _ (List.mem_of_getElem? (i := 3) rfl)), rfl⟩)⟩
theorem lb_X12_top : LB mX12_top 0 := ⟨List.mem_filter.mpr ⟨List.mem_append_right _ (tbi1 _ (List.mem_of_getElem? (i := 13) rfl)), rfl⟩, List.mem_filter.mpr ⟨List.mem_append_right _ (tbi7 _ (List.mem_of_getElem? (i := 8) rfl)), rfl⟩, ⟨by decide +kernel, by decide +kernel⟩, by decide +kernel, by decide⟩
theorem lv_RL_22 : LV RL 22 mX12_top 0 := ⟨lb_X12_top, List.mem_filter.mpr ⟨List.mem_append_right _ (tbi7 _ (List.mem_of_getElem? (i := 6) rfl)), rfl⟩, List.mem_filter.mpr ⟨List.mem_append_right _ (tbi7 _ (List.mem_of_getElem? (i := 7) rfl)), rfl⟩, Or.inl (List.mem_filter.mpr ⟨List.mem_append_right _ (tbi7 _ (List.mem_of_getElem? (i := 5) rfl)), rfl⟩)⟩
theorem lb_X11_bottom : LB mX11_bottom 0 := ⟨List.mem_filter.mpr ⟨List.mem_append_right _ (tbi1 _ (List.mem_of_getElem? (i := 1) rfl)), rfl⟩, List.mem_filter.mpr ⟨List.mem_append_right _ (tbi3 _ (List.mem_of_getElem? (i := 10) rfl)), rfl⟩, ⟨by decide +kernel, by decide +kernel⟩, by decide +kernel, by decide⟩
theorem lv_RL_23 : LV RL 23 mX11_bottom 0 := ⟨lb_X11_bottom, List.mem_filter.mpr ⟨List.mem_append_right _ (tbi3 _ (List.mem_of_getElem? (i := 8) rfl)), rfl⟩, List.mem_filter.mpr ⟨List.mem_append_right _ (tbi3 _ (List.mem_of_getElem? (i := 9) rfl)), rfl⟩, Or.inl (List.mem_filter.mpr ⟨List.mem_append_right _ (tbi3 _ (List.mem_of_getElem? (i := 7) rfl)), rfl⟩)⟩
theorem lb_X12_bottom : LB mX12_bottom 0 := ⟨List.mem_filter.mpr ⟨List.mem_append_right _ (tbi1 _ (List.mem_of_getElem? (i := 13) rfl)), rfl⟩, List.mem_filter.mpr ⟨List.mem_append_right _ (tbi7 _ (List.mem_of_getElem? (i := 12) rfl)), rfl⟩, ⟨by decide +kernel, by decide +kernel⟩, by decide +kernel, by decide⟩
theorem lv_RL_26 : LV RL 26 mX12_bottom 0 := ⟨lb_X12_bottom, List.mem_filter.mpr ⟨List.mem_append_right _ (tbi7 _ (List.mem_of_getElem? (i := 10) rfl)), rfl⟩, List.mem_filter.mpr ⟨List.mem_append_right _ (tbi7 _ (List.mem_of_getElem? (i := 11) rfl)), rfl⟩, Or.inl (List.mem_filter.mpr ⟨List.mem_append_right _ (tbi7 _ (List.mem_of_getElem? (i := 9) rfl)), rfl⟩)⟩
theorem lb_X11_tray : LB mX11_tray 3 := ⟨List.mem_filter.mpr ⟨List.mem_append_right _ (tbi1 _ (List.mem_of_getElem? (i := 1) rfl)), rfl⟩, List.mem_filter.mpr ⟨List.mem_append_right _ (tbi3 _ (List.mem_of_getElem? (i := 14) rfl)), rfl⟩, ⟨by decide +kernel, by decide +kernel⟩, by decide +kernel, by decide⟩
theorem lv_RL_27 : LV RL 27 mX11_tray 3 := ⟨lb_X11_tray, List.mem_filter.mpr ⟨List.mem_append_right _ (tbi3 _ (List.mem_of_getElem? (i := 12) rfl)), rfl⟩, List.mem_filter.mpr ⟨List.mem_append_right _ (tbi3 _ (List.mem_of_getElem? (i := 13) rfl)), rfl⟩, Or.inl (List.mem_filter.mpr ⟨List.mem_append_right _ (tbi3 _ (List.mem_of_getElem? (i := 11) rfl)), rfl⟩)⟩
theorem lb_X12_tray : LB mX12_tray 3 := ⟨List.mem_filter.mpr ⟨List.mem_append_right _ (tbi1 _ (List.mem_of_getElem? (i := 13) rfl)), rfl⟩, List.mem_filter.mpr ⟨List.mem_append_right _ (tbi7 _ (List.mem_of_getElem? (i := 16) rfl)), rfl⟩, ⟨by decide +kernel, by decide +kernel⟩, by decide +kernel, by decide⟩
theorem lv_RL_31 : LV RL 31 mX12_tray 3 := ⟨lb_X12_tray, List.mem_filter.mpr ⟨List.mem_append_right _ (tbi7 _ (List.mem_of_getElem? (i := 14) rfl)), rfl⟩, List.mem_filter.mpr ⟨List.mem_append_right _ (tbi7 _ (List.mem_of_getElem? (i := 15) rfl)), rfl⟩, Or.inl (List.mem_filter.mpr ⟨List.mem_append_right _ (tbi7 _ (List.mem_of_getElem? (i := 13) rfl)), rfl⟩)⟩
theorem lb_X11_write : LB mX11_write 3 := ⟨List.mem_filter.mpr ⟨List.mem_append_right _ (tbi1 _ (List.mem_of_getElem? (i := 1) rfl)), rfl⟩, List.mem_filter.mpr ⟨List.mem_append_right _ (tbi3 _ (List.mem_of_getElem? (i := 36) rfl)), rfl⟩, ⟨by decide +kernel, by decide +kernel⟩, by decide +kernel, by decide⟩
theorem lv_RL_34 : LV RL 34 mX11_write 3 := ⟨lb_X11_write, List.mem_filter.mpr ⟨List.mem_append_right _ (tbi3 _ (List.mem_of_getElem? (i := 34) rfl)), rfl⟩, List.mem_filter.mpr ⟨List.mem_append_right _ (tbi3 _ (List.mem_of_getElem? (i := 35) rfl)), rfl⟩, Or.inl (List.mem_filter.mpr ⟨List.mem_append_right _ (tbi3 _ (List.mem_of_getElem? (i := 33) rfl)), rfl⟩)⟩
theorem lb_X12_write : LB mX12_write 3 := ⟨List.mem_filter.mpr ⟨List.mem_append_right _ (tbi1 _ (List.mem_of_getElem? (i := 13) rfl)), rfl⟩, List.mem_filter.mpr ⟨List.mem_append_right _ (tbi7 _ (List.mem_of_getElem? (i := 27) rfl)), rfl⟩, ⟨by decide +kernel, by decide +kernel⟩, by decide +kernel, by decide⟩
theorem lv_RL_38 : LV RL 38 mX12_write 3 := ⟨lb_X12_write, List.mem_filter.mpr ⟨List.mem_append_right _ (tbi7 _ (List.mem_of_getElem? (i := 25) rfl)), rfl⟩, List.mem_filter.mpr ⟨List.mem_append_right _ (tbi7 _ (List.mem_of_getElem? (i := 26) rfl)), rfl⟩, Or.inl (List.mem_filter.mpr ⟨List.mem_append_right _ (tbi7 _ (List.mem_of_getElem? (i := 24) rfl)), rfl⟩)⟩
theorem lb_X11_read : LB mX11_read 2 := ⟨List.mem_filter.mpr ⟨List.mem_append_right _ (tbi1 _ (List.mem_of_getElem? (i := 1) rfl)), rfl⟩, List.mem_filter.mpr ⟨List.mem_append_right _ (tbi3 _ (List.mem_of_getElem? (i := 52) rfl)), rfl⟩, ⟨by decide +kernel, by decide +kernel⟩, by decide +kernel, by decide⟩
theorem lv_RL_39 : LV RL 39 mX11_read 2 := ⟨lb_X11_read, List.mem_filter.mpr ⟨List.mem_append_right _ (tbi3 _ (List.mem_of_getElem? (i := 50) rfl)), rfl⟩, List.mem_filter.mpr ⟨List.mem_append_right _ (tbi3 _ (List.mem_of_getElem? (i := 51) rfl)), rfl⟩, Or.inl (List.mem_filter.mpr ⟨List.mem_append_right _ (tbi3 _ (List.mem_of_getElem? (i := 49) rfl)), rfl⟩)⟩
theorem lb_X12_read : LB mX12_read 2 := ⟨List.mem_filter.mpr ⟨List.mem_append_right _ (tbi1 _ (List.mem_of_getElem? (i := 13) rfl)), rfl⟩, List.mem_filter.mpr ⟨List.mem_append_right _ (tbi7 _ (List.mem_of_getElem? (i := 38) rfl)), rfl⟩, ⟨by decide +kernel, by decide +kernel⟩, by decide +kernel, by decide⟩
theorem lv_RL_43 : LV RL 43 mX12_read 2 := ⟨lb_X12_read, List.mem_filter.mpr ⟨List.mem_append_right _ (tbi7 _ (List.mem_of_getElem? (i := 36) rfl)), rfl⟩, List.mem_filter.mpr ⟨List.mem_append_right _ (tbi7 _ (List.mem_of_getElem? (i := 37) rfl)), rfl⟩, Or.inl (List.mem_filter.mpr ⟨List.mem_append_right _ (tbi7 _ (List.mem_of_getElem? (i := 35) rfl)), rfl⟩)⟩
theorem lb_X11_pour : LB mX11_pour 5 := ⟨List.mem_filter.mpr ⟨List.mem_append_right _ (tbi1 _ (List.mem_of_getElem? (i := 1) rfl)), rfl⟩, List.mem_filter.mpr ⟨List.mem_append_right _ (tbi3 _ (List.mem_of_getElem? (i := 60) rfl)), rfl⟩, ⟨by decide +kernel, by decide +kernel⟩, by decide +kernel, by decide⟩
theorem lv_RL_44 : LV RL 44 mX11_pour 5 := ⟨lb_X11_pour, List.mem_filter.mpr ⟨List.mem_append_right _ (tbi3 _ (List.mem_of_getElem? (i := 58) rfl)), rfl⟩, List.mem_filter.mpr ⟨List.mem_append_right _ (tbi3 _ (List.mem_of_getElem? (i := 59) rfl)), rfl⟩, Or.inl (List.mem_filter.mpr ⟨List.mem_append_right _ (tbi3 _ (List.mem_of_getElem? (i := 57) rfl)), rfl⟩)⟩
theorem lb_X12_pour : LB mX12_pour 5 := ⟨List.mem_filter.mpr ⟨List.mem_append_right _ (tbi1 _ (List.mem_of_getElem? (i := 13) rfl)), rfl⟩, List.mem_filter.mpr ⟨List.mem_append_right _ (tbi7 _ (List.mem_of_getElem? (i := 43) rfl)), rfl⟩, ⟨by decide +kernel, by decide +kernel⟩, by decide +kernel, by decide⟩
theorem lv_RL_48 : LV RL 48 mX12_pour 5 := ⟨lb_X12_pour, List.mem_filter.mpr ⟨List.mem_append_right _ (tbi7 _ (List.mem_of_getElem? (i := 41) rfl)), rfl⟩, List.mem_filter.mpr ⟨List.mem_append_right _ (tbi7 _ (List.mem_of_getElem? (i := 42) rfl)), rfl⟩, Or.inl (List.mem_filter.mpr ⟨List.mem_append_right _ (tbi7 _ (List.mem_of_getElem? (i := 40) rfl)), rfl⟩)⟩
theorem lb_X11_punch : LB mX11_punch 3 := ⟨List.mem_filter.mpr ⟨List.mem_append_right _ (tbi1 _ (List.mem_of_getElem? (i := 1) rfl)), rfl⟩, List.mem_filter.mpr ⟨List.mem_append_right _ (tbi3 _ (List.mem_of_getElem? (i := 71) rfl)), rfl⟩, ⟨by decide +kernel, by decide +kernel⟩, by decide +kernel, by decide⟩
theorem lv_RL_49 : LV RL 49 mX11_punch 3 := ⟨lb_X11_punch, List.mem_filter.mpr ⟨List.mem_append_right _ (tbi3 _ (List.mem_of_getElem? (i := 69) rfl)), rfl⟩, List.mem_filter.mpr ⟨List.mem_append_right _ (tbi3 _ (List.mem_of_getElem? (i := 70) rfl)), rfl⟩, Or.inl (List.mem_filter.mpr ⟨List.mem_append_right _ (tbi3 _ (List.mem_of_getElem? (i := 68) rfl)), rfl⟩)⟩
theorem lb_X12_punch : LB mX12_punch 3 := ⟨List.mem_filter.mpr ⟨List.mem_append_right _ (tbi1 _ (List.mem_of_getElem? (i := 13) rfl)), rfl⟩, List.mem_filter.mpr ⟨List.mem_append_right _ (tbi7 _ (List.mem_of_getElem? (i := 47) rfl)), rfl⟩, ⟨by decide +kernel, by decide +kernel⟩, by decide +kernel, by decide⟩
theorem lv_RL_53 : LV RL 53 mX12_punch 3 := ⟨lb_X12_punch, List.mem_filter.mpr ⟨List.mem_append_right _ (tbi7 _ (List.mem_of_getElem? (i := 45) rfl)), rfl⟩, List.mem_filter.mpr ⟨List.mem_append_right _ (tbi7 _ (List.mem_of_getElem? (i := 46) rfl)), rfl⟩, Or.inl (List.mem_filter.mpr ⟨List.mem_append_right _ (tbi7 _ (List.mem_of_getElem? (i := 44) rfl)), rfl⟩)⟩
theorem lb_X11_holes : LB mX11_holes 3 := ⟨List.mem_filter.mpr ⟨List.mem_append_right _ (tbi1 _ (List.mem_of_getElem? (i := 1) rfl)), rfl⟩, List.mem_filter.mpr ⟨List.mem_append_right _ (tbi3 _ (List.mem_of_getElem? (i := 98) rfl)), rfl⟩, ⟨by decide +kernel, by decide +kernel⟩, by decide +kernel, by decide⟩
theorem lv_RL_54 : LV RL 54 mX11_holes 3 := ⟨lb_X11_holes, List.mem_filter.mpr ⟨List.mem_append_right _ (tbi3 _ (List.mem_of_getElem? (i := 96) rfl)), rfl⟩, List.mem_filter.mpr ⟨List.mem_append_right _ (tbi3 _ (List.mem_of_getElem? (i := 97) rfl)), rfl⟩, Or.inl (List.mem_filter.mpr ⟨List.mem_append_right _ (tbi3 _ (List.mem_of_getElem? (i := 95) rfl)), rfl⟩)⟩
theorem lb_X12_holes : LB mX12_holes 3 := ⟨List.mem_filter.mpr ⟨List.mem_append_right _ (tbi1 _ (List.mem_of_getElem? (i := 13) rfl)), rfl⟩, List.mem_filter.mpr ⟨List.mem_append_right _ (tbi7 _ (List.mem_of_getElem? (i := 63) rfl)), rfl⟩, ⟨by decide +kernel, by decide +kernel⟩, by decide +kernel, by decide⟩
theorem lv_RL_57 : LV RL 57 mX12_holes 3 := ⟨lb_X12_holes, List.mem_filter.mpr ⟨List.mem_append_right _ (tbi7 _ (List.mem_of_getElem? (i := 61) rfl)), rfl⟩, List.mem_filter.mpr ⟨List.mem_append_right _ (tbi7 _ (List.mem_of_getElem? (i := 62) rfl)), rfl⟩, Or.inl (List.mem_filter.mpr ⟨List.mem_append_right _ (tbi7 _ (List.mem_of_getElem? (i := 60) rfl)), rfl⟩)⟩
theorem lb_X11_card : LB mX11_card 2 := ⟨List.mem_filter.mpr ⟨List.mem_append_right _ (tbi1 _ (List.mem_of_getElem? (i := 1) rfl)), rfl⟩, List.mem_filter.mpr ⟨List.mem_append_right _ (tbi3 _ (List.mem_of_getElem? (i := 110) rfl)), rfl⟩, ⟨by decide +kernel, by decide +kernel⟩, by decide +kernel, by decide⟩
theorem lv_RL_58 : LV RL 58 mX11_card 2 := ⟨lb_X11_card, List.mem_filter.mpr ⟨List.mem_append_right _ (tbi3 _ (List.mem_of_getElem? (i := 108) rfl)), rfl⟩, List.mem_filter.mpr ⟨List.mem_append_right _ (tbi3 _ (List.mem_of_getElem? (i := 109) rfl)), rfl⟩, Or.inl (List.mem_filter.mpr ⟨List.mem_append_right _ (tbi3 _ (List.mem_of_getElem? (i := 107) rfl)), rfl⟩)⟩
theorem lb_X12_card : LB mX12_card 2 := ⟨List.mem_filter.mpr ⟨List.mem_append_right _ (tbi1 _ (List.mem_of_getElem? (i := 13) rfl)), rfl⟩, List.mem_filter.mpr ⟨List.mem_append_right _ (tbi7 _ (List.mem_of_getElem? (i := 74) rfl)), rfl⟩, ⟨by decide +kernel, by decide +kernel⟩, by decide +kernel, by decide⟩
theorem lv_RL_62 : LV RL 62 mX12_card 2 := ⟨lb_X12_card, List.mem_filter.mpr ⟨List.mem_append_right _ (tbi7 _ (List.mem_of_getElem? (i := 72) rfl)), rfl⟩, List.mem_filter.mpr ⟨List.mem_append_right _ (tbi7 _ (List.mem_of_getElem? (i := 73) rfl)), rfl⟩, Or.inl (List.mem_filter.mpr ⟨List.mem_append_right _ (tbi7 _ (List.mem_of_getElem? (i := 71) rfl)), rfl⟩)⟩
theorem lb_X11_lies : LB mX11_lies 1 := ⟨List.mem_filter.mpr ⟨List.mem_append_right _ (tbi1 _ (List.mem_of_getElem? (i := 1) rfl)), rfl⟩, List.mem_filter.mpr ⟨List.mem_append_right _ (tbi3 _ (List.mem_of_getElem? (i := 126) rfl)), rfl⟩, ⟨by decide +kernel, by decide +kernel⟩, by decide +kernel, by decide⟩
theorem lv_RL_63 : LV RL 63 mX11_lies 1 := ⟨lb_X11_lies, List.mem_filter.mpr ⟨List.mem_append_right _ (tbi3 _ (List.mem_of_getElem? (i := 124) rfl)), rfl⟩, List.mem_filter.mpr ⟨List.mem_append_right _ (tbi3 _ (List.mem_of_getElem? (i := 125) rfl)), rfl⟩, Or.inl (List.mem_filter.mpr ⟨List.mem_append_right _ (tbi3 _ (List.mem_of_getElem? (i := 123) rfl)), rfl⟩)⟩
theorem lb_X12_lies : LB mX12_lies 1 := ⟨List.mem_filter.mpr ⟨List.mem_append_right _ (tbi1 _ (List.mem_of_getElem? (i := 13) rfl)), rfl⟩, List.mem_filter.mpr ⟨List.mem_append_right _ (tbi7 _ (List.mem_of_getElem? (i := 93) rfl)), rfl⟩, ⟨by decide +kernel, by decide +kernel⟩, by decide +kernel, by decide⟩
theorem lv_RL_67 : LV RL 67 mX12_lies 1 := ⟨lb_X12_lies, List.mem_filter.mpr ⟨List.mem_append_right _ (tbi7 _ (List.mem_of_getElem? (i := 91) rfl)), rfl⟩, List.mem_filter.mpr ⟨List.mem_append_right _ (tbi7 _ (List.mem_of_getElem? (i := 92) rfl)), rfl⟩, Or.inl (List.mem_filter.mpr ⟨List.mem_append_right _ (tbi7 _ (List.mem_of_getElem? (i := 90) rfl)), rfl⟩)⟩
theorem lb_X11_exchange : LB mX11_exchange 2 := ⟨List.mem_filter.mpr ⟨List.mem_append_right _ (tbi1 _ (List.mem_of_getElem? (i := 1) rfl)), rfl⟩, List.mem_filter.mpr ⟨List.mem_append_right _ (tbi3 _ (List.mem_of_getElem? (i := 130) rfl)), rfl⟩, ⟨by decide +kernel, by decide +kernel⟩, by decide +kernel, by decide⟩
theorem lv_RL_68 : LV RL 68 mX11_exchange 2 := ⟨lb_X11_exchange, List.mem_filter.mpr ⟨List.mem_append_right _ (tbi3 _ (List.mem_of_getElem? (i := 128) rfl)), rfl⟩, List.mem_filter.mpr ⟨List.mem_append_right _ (tbi3 _ (List.mem_of_getElem? (i := 129) rfl)), rfl⟩, Or.inl (List.mem_filter.mpr ⟨List.mem_append_right _ (tbi3 _ (List.mem_of_getElem? (i := 127) rfl)), rfl⟩)⟩
theorem lb_X12_exchange : LB mX12_exchange 2 := ⟨List.mem_filter.mpr ⟨List.mem_append_right _ (tbi1 _ (List.mem_of_getElem? (i := 13) rfl)), rfl⟩, List.mem_filter.mpr ⟨List.mem_append_right _ (tbi7 _ (List.mem_of_getElem? (i := 97) rfl)), rfl⟩, ⟨by decide +kernel, by decide +kernel⟩, by decide +kernel, by decide⟩
theorem lv_RL_72 : LV RL 72 mX12_exchange 2 := ⟨lb_X12_exchange, List.mem_filter.mpr ⟨List.mem_append_right _ (tbi7 _ (List.mem_of_getElem? (i := 95) rfl)), rfl⟩, List.mem_filter.mpr ⟨List.mem_append_right _ (tbi7 _ (List.mem_of_getElem? (i := 96) rfl)), rfl⟩, Or.inl (List.mem_filter.mpr ⟨List.mem_append_right _ (tbi7 _ (List.mem_of_getElem? (i := 94) rfl)), rfl⟩)⟩
theorem lb_X11_feed : LB mX11_feed 5 := ⟨List.mem_filter.mpr ⟨List.mem_append_right _ (tbi1 _ (List.mem_of_getElem? (i := 1) rfl)), rfl⟩, List.mem_filter.mpr ⟨List.mem_append_right _ (tbi3 _ (List.mem_of_getElem? (i := 134) rfl)), rfl⟩, ⟨by decide +kernel, by decide +kernel⟩, by decide +kernel, by decide⟩
theorem lv_RL_73 : LV RL 73 mX11_feed 5 := ⟨lb_X11_feed, List.mem_filter.mpr ⟨List.mem_append_right _ (tbi3 _ (List.mem_of_getElem? (i := 132) rfl)), rfl⟩, List.mem_filter.mpr ⟨List.mem_append_right _ (tbi3 _ (List.mem_of_getElem? (i := 133) rfl)), rfl⟩, Or.inl (List.mem_filter.mpr ⟨List.mem_append_right _ (tbi3 _ (List.mem_of_getElem? (i := 131) rfl)), rfl⟩)⟩
theorem lb_X12_feed : LB mX12_feed 5 := ⟨List.mem_filter.mpr ⟨List.mem_append_right _ (tbi1 _ (List.mem_of_getElem? (i := 13) rfl)), rfl⟩, List.mem_filter.mpr ⟨List.mem_append_right _ (tbi7 _ (List.mem_of_getElem? (i := 101) rfl)), rfl⟩, ⟨by decide +kernel, by decide +kernel⟩, by decide +kernel, by decide⟩
theorem lv_RL_77 : LV RL 77 mX12_feed 5 := ⟨lb_X12_feed, List.mem_filter.mpr ⟨List.mem_append_right _ (tbi7 _ (List.mem_of_getElem? (i := 99) rfl)), rfl⟩, List.mem_filter.mpr ⟨List.mem_append_right _ (tbi7 _ (List.mem_of_getElem? (i := 100) rfl)), rfl⟩, Or.inl (List.mem_filter.mpr ⟨List.mem_append_right _ (tbi7 _ (List.mem_of_getElem? (i := 98) rfl)), rfl⟩)⟩
theorem lb_X11_book : LB mX11_book 1 := ⟨List.mem_filter.mpr ⟨List.mem_append_right _ (tbi1 _ (List.mem_of_getElem? (i := 1) rfl)), rfl⟩, List.mem_filter.mpr ⟨List.mem_append_right _ (tbi3 _ (List.mem_of_getElem? (i := 142) rfl)), rfl⟩, ⟨by decide +kernel, by decide +kernel⟩, by decide +kernel, by decide⟩
theorem lv_RL_78 : LV RL 78 mX11_book 1 := ⟨lb_X11_book, List.mem_filter.mpr ⟨List.mem_append_right _ (tbi3 _ (List.mem_of_getElem? (i := 140) rfl)), rfl⟩, List.mem_filter.mpr ⟨List.mem_append_right _ (tbi3 _ (List.mem_of_getElem? (i := 141) rfl)), rfl⟩, Or.inl (List.mem_filter.mpr ⟨List.mem_append_right _ (tbi3 _ (List.mem_of_getElem? (i := 139) rfl)), rfl⟩)⟩
theorem lb_X12_book : LB mX12_book 1 := ⟨List.mem_filter.mpr ⟨List.mem_append_right _ (tbi1 _ (List.mem_of_getElem? (i := 13) rfl)), rfl⟩, List.mem_filter.mpr ⟨List.mem_append_right _ (tbi7 _ (List.mem_of_getElem? (i := 113) rfl)), rfl⟩, ⟨by decide +kernel, by decide +kernel⟩, by decide +kernel, by decide⟩
theorem lv_RL_81 : LV RL 81 mX12_book 1 := ⟨lb_X12_book, List.mem_filter.mpr ⟨List.mem_append_right _ (tbi7 _ (List.mem_of_getElem? (i := 111) rfl)), rfl⟩, List.mem_filter.mpr ⟨List.mem_append_right _ (tbi7 _ (List.mem_of_getElem? (i := 112) rfl)), rfl⟩, Or.inl (List.mem_filter.mpr ⟨List.mem_append_right _ (tbi7 _ (List.mem_of_getElem? (i := 110) rfl)), rfl⟩)⟩
theorem lb_X11_fault : LB mX11_fault 1 := ⟨List.mem_filter.mpr ⟨List.mem_append_right _ (tbi1 _ (List.mem_of_getElem? (i := 1) rfl)), rfl⟩, List.mem_filter.mpr ⟨List.mem_append_right _ (tbi4 _ (List.mem_of_getElem? (i := 97) rfl)), rfl⟩, ⟨by decide +kernel, by decide +kernel⟩, by decide +kernel, by decide⟩
theorem lv_RL_82 : LV RL 82 mX11_fault 1 := ⟨lb_X11_fault, List.mem_filter.mpr ⟨List.mem_append_right _ (tbi4 _ (List.mem_of_getElem? (i := 95) rfl)), rfl⟩, List.mem_filter.mpr ⟨List.mem_append_right _ (tbi4 _ (List.mem_of_getElem? (i := 96) rfl)), rfl⟩, Or.inl (List.mem_filter.mpr ⟨List.mem_append_right _ (tbi4 _ (List.mem_of_getElem? (i := 94) rfl)), rfl⟩)⟩
theorem lb_X12_fault : LB mX12_fault 1 := ⟨List.mem_filter.mpr ⟨List.mem_append_right _ (tbi1 _ (List.mem_of_getElem? (i := 13) rfl)), rfl⟩, List.mem_filter.mpr ⟨List.mem_append_right _ (tbi7 _ (List.mem_of_getElem? (i := 109) rfl)), rfl⟩, ⟨by decide +kernel, by decide +kernel⟩, by decide +kernel, by decide⟩
theorem lv_RL_85 : LV RL 85 mX12_fault 1 := ⟨lb_X12_fault, List.mem_filter.mpr ⟨List.mem_append_right _ (tbi7 _ (List.mem_of_getElem? (i := 107) rfl)), rfl⟩, List.mem_filter.mpr ⟨List.mem_append_right _ (tbi7 _ (List.mem_of_getElem? (i := 108) rfl)), rfl⟩, Or.inl (List.mem_filter.mpr ⟨List.mem_append_right _ (tbi7 _ (List.mem_of_getElem? (i := 106) rfl)), rfl⟩)⟩
theorem lb_X11_many : LB mX11_many 1 := ⟨List.mem_filter.mpr ⟨List.mem_append_right _ (tbi1 _ (List.mem_of_getElem? (i := 1) rfl)), rfl⟩, List.mem_filter.mpr ⟨List.mem_append_right _ (tbi4 _ (List.mem_of_getElem? (i := 101) rfl)), rfl⟩, ⟨by decide +kernel, by decide +kernel⟩, by decide +kernel, by decide⟩
theorem lv_RL_86 : LV RL 86 mX11_many 1 := ⟨lb_X11_many, List.mem_filter.mpr ⟨List.mem_append_right _ (tbi4 _ (List.mem_of_getElem? (i := 99) rfl)), rfl⟩, List.mem_filter.mpr ⟨List.mem_append_right _ (tbi4 _ (List.mem_of_getElem? (i := 100) rfl)), rfl⟩, Or.inl (List.mem_filter.mpr ⟨List.mem_append_right _ (tbi4 _ (List.mem_of_getElem? (i := 98) rfl)), rfl⟩)⟩
theorem lb_X12_many : LB mX12_many 1 := ⟨List.mem_filter.mpr ⟨List.mem_append_right _ (tbi1 _ (List.mem_of_getElem? (i := 13) rfl)), rfl⟩, List.mem_filter.mpr ⟨List.mem_append_right _ (tbi7 _ (List.mem_of_getElem? (i := 195) rfl)), rfl⟩, ⟨by decide +kernel, by decide +kernel⟩, by decide +kernel, by decide⟩
theorem lv_RL_89 : LV RL 89 mX12_many 1 := ⟨lb_X12_many, List.mem_filter.mpr ⟨List.mem_append_right _ (tbi7 _ (List.mem_of_getElem? (i := 193) rfl)), rfl⟩, List.mem_filter.mpr ⟨List.mem_append_right _ (tbi7 _ (List.mem_of_getElem? (i := 194) rfl)), rfl⟩, Or.inl (List.mem_filter.mpr ⟨List.mem_append_right _ (tbi7 _ (List.mem_of_getElem? (i := 192) rfl)), rfl⟩)⟩
theorem lb_X11_code : LB mX11_code 2 := ⟨List.mem_filter.mpr ⟨List.mem_append_right _ (tbi1 _ (List.mem_of_getElem? (i := 1) rfl)), rfl⟩, List.mem_filter.mpr ⟨List.mem_append_right _ (tbi4 _ (List.mem_of_getElem? (i := 105) rfl)), rfl⟩, ⟨by decide +kernel, by decide +kernel⟩, by decide +kernel, by decide⟩
theorem lv_RL_90 : LV RL 90 mX11_code 2 := ⟨lb_X11_code, List.mem_filter.mpr ⟨List.mem_append_right _ (tbi4 _ (List.mem_of_getElem? (i := 103) rfl)), rfl⟩, List.mem_filter.mpr ⟨List.mem_append_right _ (tbi4 _ (List.mem_of_getElem? (i := 104) rfl)), rfl⟩, Or.inl (List.mem_filter.mpr ⟨List.mem_append_right _ (tbi4 _ (List.mem_of_getElem? (i := 102) rfl)), rfl⟩)⟩
theorem lb_X12_code : LB mX12_code 2 := ⟨List.mem_filter.mpr ⟨List.mem_append_right _ (tbi1 _ (List.mem_of_getElem? (i := 13) rfl)), rfl⟩, List.mem_filter.mpr ⟨List.mem_append_right _ (tbi7 _ (List.mem_of_getElem? (i := 199) rfl)), rfl⟩, ⟨by decide +kernel, by decide +kernel⟩, by decide +kernel, by decide⟩
theorem lv_RL_93 : LV RL 93 mX12_code 2 := ⟨lb_X12_code, List.mem_filter.mpr ⟨List.mem_append_right _ (tbi7 _ (List.mem_of_getElem? (i := 197) rfl)), rfl⟩, List.mem_filter.mpr ⟨List.mem_append_right _ (tbi7 _ (List.mem_of_getElem? (i := 198) rfl)), rfl⟩, Or.inl (List.mem_filter.mpr ⟨List.mem_append_right _ (tbi7 _ (List.mem_of_getElem? (i := 196) rfl)), rfl⟩)⟩
theorem lb_X11_mean : LB mX11_mean 2 := ⟨List.mem_filter.mpr ⟨List.mem_append_right _ (tbi1 _ (List.mem_of_getElem? (i := 1) rfl)), rfl⟩, List.mem_filter.mpr ⟨List.mem_append_right _ (tbi4 _ (List.mem_of_getElem? (i := 121) rfl)), rfl⟩, ⟨by decide +kernel, by decide +kernel⟩, by decide +kernel, by decide⟩
theorem lv_RL_94 : LV RL 94 mX11_mean 2 := ⟨lb_X11_mean, List.mem_filter.mpr ⟨List.mem_append_right _ (tbi4 _ (List.mem_of_getElem? (i := 119) rfl)), rfl⟩, List.mem_filter.mpr ⟨List.mem_append_right _ (tbi4 _ (List.mem_of_getElem? (i := 120) rfl)), rfl⟩, Or.inl (List.mem_filter.mpr ⟨List.mem_append_right _ (tbi4 _ (List.mem_of_getElem? (i := 118) rfl)), rfl⟩)⟩
theorem lb_X12_mean : LB mX12_mean 2 := ⟨List.mem_filter.mpr ⟨List.mem_append_right _ (tbi1 _ (List.mem_of_getElem? (i := 13) rfl)), rfl⟩, List.mem_filter.mpr ⟨List.mem_append_right _ (tbi7 _ (List.mem_of_getElem? (i := 207) rfl)), rfl⟩, ⟨by decide +kernel, by decide +kernel⟩, by decide +kernel, by decide⟩
theorem lv_RL_97 : LV RL 97 mX12_mean 2 := ⟨lb_X12_mean, List.mem_filter.mpr ⟨List.mem_append_right _ (tbi7 _ (List.mem_of_getElem? (i := 205) rfl)), rfl⟩, List.mem_filter.mpr ⟨List.mem_append_right _ (tbi7 _ (List.mem_of_getElem? (i := 206) rfl)), rfl⟩, Or.inl (List.mem_filter.mpr ⟨List.mem_append_right _ (tbi7 _ (List.mem_of_getElem? (i := 204) rfl)), rfl⟩)⟩
theorem lb_X11_pass : LB mX11_pass 2 := ⟨List.mem_filter.mpr ⟨List.mem_append_right _ (tbi1 _ (List.mem_of_getElem? (i := 1) rfl)), rfl⟩, List.mem_filter.mpr ⟨List.mem_append_right _ (tbi4 _ (List.mem_of_getElem? (i := 129) rfl)), rfl⟩, ⟨by decide +kernel, by decide +kernel⟩, by decide +kernel, by decide⟩
theorem lv_RL_98 : LV RL 98 mX11_pass 2 := ⟨lb_X11_pass, List.mem_filter.mpr ⟨List.mem_append_right _ (tbi4 _ (List.mem_of_getElem? (i := 127) rfl)), rfl⟩, List.mem_filter.mpr ⟨List.mem_append_right _ (tbi4 _ (List.mem_of_getElem? (i := 128) rfl)), rfl⟩, Or.inl (List.mem_filter.mpr ⟨List.mem_append_right _ (tbi4 _ (List.mem_of_getElem? (i := 126) rfl)), rfl⟩)⟩
theorem lb_X12_pass : LB mX12_pass 2 := ⟨List.mem_filter.mpr ⟨List.mem_append_right _ (tbi1 _ (List.mem_of_getElem? (i := 13) rfl)), rfl⟩, List.mem_filter.mpr ⟨List.mem_append_right _ (tbi7 _ (List.mem_of_getElem? (i := 215) rfl)), rfl⟩, ⟨by decide +kernel, by decide +kernel⟩, by decide +kernel, by decide⟩
theorem lv_RL_102 : LV RL 102 mX12_pass 2 := ⟨lb_X12_pass, List.mem_filter.mpr ⟨List.mem_append_right _ (tbi7 _ (List.mem_of_getElem? (i := 213) rfl)), rfl⟩, List.mem_filter.mpr ⟨List.mem_append_right _ (tbi7 _ (List.mem_of_getElem? (i := 214) rfl)), rfl⟩, Or.inl (List.mem_filter.mpr ⟨List.mem_append_right _ (tbi7 _ (List.mem_of_getElem? (i := 212) rfl)), rfl⟩)⟩
theorem lb_X11_ordered : LB mX11_ordered 2 := ⟨List.mem_filter.mpr ⟨List.mem_append_right _ (tbi1 _ (List.mem_of_getElem? (i := 1) rfl)), rfl⟩, List.mem_filter.mpr ⟨List.mem_append_right _ (tbi4 _ (List.mem_of_getElem? (i := 149) rfl)), rfl⟩, ⟨by decide +kernel, by decide +kernel⟩, by decide +kernel, by decide⟩
theorem lv_RL_103 : LV RL 103 mX11_ordered 2 := ⟨lb_X11_ordered, List.mem_filter.mpr ⟨List.mem_append_right _ (tbi4 _ (List.mem_of_getElem? (i := 147) rfl)), rfl⟩, List.mem_filter.mpr ⟨List.mem_append_right _ (tbi4 _ (List.mem_of_getElem? (i := 148) rfl)), rfl⟩, Or.inl (List.mem_filter.mpr ⟨List.mem_append_right _ (tbi4 _ (List.mem_of_getElem? (i := 146) rfl)), rfl⟩)⟩
theorem lb_X12_ordered : LB mX12_ordered 2 := ⟨List.mem_filter.mpr ⟨List.mem_append_right _ (tbi1 _ (List.mem_of_getElem? (i := 13) rfl)), rfl⟩, List.mem_filter.mpr ⟨List.mem_append_right _ (tbi7 _ (List.mem_of_getElem? (i := 235) rfl)), rfl⟩, ⟨by decide +kernel, by decide +kernel⟩, by decide +kernel, by decide⟩
theorem lv_RL_106 : LV RL 106 mX12_ordered 2 := ⟨lb_X12_ordered, List.mem_filter.mpr ⟨List.mem_append_right _ (tbi7 _ (List.mem_of_getElem? (i := 233) rfl)), rfl⟩, List.mem_filter.mpr ⟨List.mem_append_right _ (tbi7 _ (List.mem_of_getElem? (i := 234) rfl)), rfl⟩, Or.inl (List.mem_filter.mpr ⟨List.mem_append_right _ (tbi7 _ (List.mem_of_getElem? (i := 232) rfl)), rfl⟩)⟩
theorem lb_X11_plan : LB mX11_plan 2 := ⟨List.mem_filter.mpr ⟨List.mem_append_right _ (tbi1 _ (List.mem_of_getElem? (i := 1) rfl)), rfl⟩, List.mem_filter.mpr ⟨List.mem_append_right _ (tbi4 _ (List.mem_of_getElem? (i := 170) rfl)), rfl⟩, ⟨by decide +kernel, by decide +kernel⟩, by decide +kernel, by decide⟩
theorem lv_RL_107 : LV RL 107 mX11_plan 2 := ⟨lb_X11_plan, List.mem_filter.mpr ⟨List.mem_append_right _ (tbi4 _ (List.mem_of_getElem? (i := 168) rfl)), rfl⟩, List.mem_filter.mpr ⟨List.mem_append_right _ (tbi4 _ (List.mem_of_getElem? (i := 169) rfl)), rfl⟩, Or.inl (List.mem_filter.mpr ⟨List.mem_append_right _ (tbi4 _ (List.mem_of_getElem? (i := 167) rfl)), rfl⟩)⟩
theorem lb_X12_plan : LB mX12_plan 2 := ⟨List.mem_filter.mpr ⟨List.mem_append_right _ (tbi1 _ (List.mem_of_getElem? (i := 13) rfl)), rfl⟩, List.mem_filter.mpr ⟨List.mem_append_right _ (tbi8 _ (List.mem_of_getElem? (i := 12) rfl)), rfl⟩, ⟨by decide +kernel, by decide +kernel⟩, by decide +kernel, by decide⟩
theorem lv_RL_110 : LV RL 110 mX12_plan 2 := ⟨lb_X12_plan, List.mem_filter.mpr ⟨List.mem_append_right _ (tbi8 _ (List.mem_of_getElem? (i := 10) rfl)), rfl⟩, List.mem_filter.mpr ⟨List.mem_append_right _ (tbi8 _ (List.mem_of_getElem? (i := 11) rfl)), rfl⟩, Or.inl (List.mem_filter.mpr ⟨List.mem_append_right _ (tbi8 _ (List.mem_of_getElem? (i := 9) rfl)), rfl⟩)⟩
theorem lb_X11_planned : LB mX11_planned 1 := ⟨List.mem_filter.mpr ⟨List.mem_append_right _ (tbi1 _ (List.mem_of_getElem? (i := 1) rfl)), rfl⟩, List.mem_filter.mpr ⟨List.mem_append_right _ (tbi4 _ (List.mem_of_getElem? (i := 201) rfl)), rfl⟩, ⟨by decide +kernel, by decide +kernel⟩, by decide +kernel, by decide⟩
theorem lv_RL_111 : LV RL 111 mX11_planned 1 := ⟨lb_X11_planned, List.mem_filter.mpr ⟨List.mem_append_right _ (tbi4 _ (List.mem_of_getElem? (i := 199) rfl)), rfl⟩, List.mem_filter.mpr ⟨List.mem_append_right _ (tbi4 _ (List.mem_of_getElem? (i := 200) rfl)), rfl⟩, Or.inl (List.mem_filter.mpr ⟨List.mem_append_right _ (tbi4 _ (List.mem_of_getElem? (i := 198) rfl)), rfl⟩)⟩
theorem lb_X12_planned : LB mX12_planned 1 := ⟨List.mem_filter.mpr ⟨List.mem_append_right _ (tbi1 _ (List.mem_of_getElem? (i := 13) rfl)), rfl⟩, List.mem_filter.mpr ⟨List.mem_append_right _ (tbi8 _ (List.mem_of_getElem? (i := 20) rfl)), rfl⟩, ⟨by decide +kernel, by decide +kernel⟩, by decide +kernel, by decide⟩
theorem lv_RL_114 : LV RL 114 mX12_planned 1 := ⟨lb_X12_planned, List.mem_filter.mpr ⟨List.mem_append_right _ (tbi8 _ (List.mem_of_getElem? (i := 18) rfl)), rfl⟩, List.mem_filter.mpr ⟨List.mem_append_right _ (tbi8 _ (List.mem_of_getElem? (i := 19) rfl)), rfl⟩, Or.inl (List.mem_filter.mpr ⟨List.mem_append_right _ (tbi8 _ (List.mem_of_getElem? (i := 17) rfl)), rfl⟩)⟩
theorem lb_X11_field : LB mX11_field 3 := ⟨List.mem_filter.mpr ⟨List.mem_append_right _ (tbi1 _ (List.mem_of_getElem? (i := 1) rfl)), rfl⟩, List.mem_filter.mpr ⟨List.mem_append_right _ (tbi4 _ (List.mem_of_getElem? (i := 205) rfl)), rfl⟩, ⟨by decide +kernel, by decide +kernel⟩, by decide +kernel, by decide⟩
theorem lv_RL_115 : LV RL 115 mX11_field 3 := ⟨lb_X11_field, List.mem_filter.mpr ⟨List.mem_append_right _ (tbi4 _ (List.mem_of_getElem? (i := 203) rfl)), rfl⟩, List.mem_filter.mpr ⟨List.mem_append_right _ (tbi4 _ (List.mem_of_getElem? (i := 204) rfl)), rfl⟩, Or.inl (List.mem_filter.mpr ⟨List.mem_append_right _ (tbi4 _ (List.mem_of_getElem? (i := 202) rfl)), rfl⟩)⟩
theorem lb_X12_field : LB mX12_field 3 := ⟨List.mem_filter.mpr ⟨List.mem_append_right _ (tbi1 _ (List.mem_of_getElem? (i := 13) rfl)), rfl⟩, List.mem_filter.mpr ⟨List.mem_append_right _ (tbi8 _ (List.mem_of_getElem? (i := 24) rfl)), rfl⟩, ⟨by decide +kernel, by decide +kernel⟩, by decide +kernel, by decide⟩
theorem lv_RL_118 : LV RL 118 mX12_field 3 := ⟨lb_X12_field, List.mem_filter.mpr ⟨List.mem_append_right _ (tbi8 _ (List.mem_of_getElem? (i := 22) rfl)), rfl⟩, List.mem_filter.mpr ⟨List.mem_append_right _ (tbi8 _ (List.mem_of_getElem? (i := 23) rfl)), rfl⟩, Or.inl (List.mem_filter.mpr ⟨List.mem_append_right _ (tbi8 _ (List.mem_of_getElem? (i := 21) rfl)), rfl⟩)⟩
theorem lb_X11_sum : LB mX11_sum 4 := ⟨List.mem_filter.mpr ⟨List.mem_append_right _ (tbi1 _ (List.mem_of_getElem? (i := 1) rfl)), rfl⟩, List.mem_filter.mpr ⟨List.mem_append_right _ (tbi4 _ (List.mem_of_getElem? (i := 217) rfl)), rfl⟩, ⟨by decide +kernel, by decide +kernel⟩, by decide +kernel, by decide⟩
theorem lv_RL_119 : LV RL 119 mX11_sum 4 := ⟨lb_X11_sum, List.mem_filter.mpr ⟨List.mem_append_right _ (tbi4 _ (List.mem_of_getElem? (i := 215) rfl)), rfl⟩, List.mem_filter.mpr ⟨List.mem_append_right _ (tbi4 _ (List.mem_of_getElem? (i := 216) rfl)), rfl⟩, Or.inl (List.mem_filter.mpr ⟨List.mem_append_right _ (tbi4 _ (List.mem_of_getElem? (i := 214) rfl)), rfl⟩)⟩
theorem lb_X12_sum : LB mX12_sum 4 := ⟨List.mem_filter.mpr ⟨List.mem_append_right _ (tbi1 _ (List.mem_of_getElem? (i := 13) rfl)), rfl⟩, List.mem_filter.mpr ⟨List.mem_append_right _ (tbi8 _ (List.mem_of_getElem? (i := 35) rfl)), rfl⟩, ⟨by decide +kernel, by decide +kernel⟩, by decide +kernel, by decide⟩
theorem lv_RL_123 : LV RL 123 mX12_sum 4 := ⟨lb_X12_sum, List.mem_filter.mpr ⟨List.mem_append_right _ (tbi8 _ (List.mem_of_getElem? (i := 33) rfl)), rfl⟩, List.mem_filter.mpr ⟨List.mem_append_right _ (tbi8 _ (List.mem_of_getElem? (i := 34) rfl)), rfl⟩, Or.inl (List.mem_filter.mpr ⟨List.mem_append_right _ (tbi8 _ (List.mem_of_getElem? (i := 32) rfl)), rfl⟩)⟩
theorem lb_X11_pocket : LB mX11_pocket 5 := ⟨List.mem_filter.mpr ⟨List.mem_append_right _ (tbi1 _ (List.mem_of_getElem? (i := 1) rfl)), rfl⟩, List.mem_filter.mpr ⟨List.mem_append_right _ (tbi4 _ (List.mem_of_getElem? (i := 235) rfl)), rfl⟩, ⟨by decide +kernel, by decide +kernel⟩, by decide +kernel, by decide⟩
theorem lv_RL_124 : LV RL 124 mX11_pocket 5 := ⟨lb_X11_pocket, List.mem_filter.mpr ⟨List.mem_append_right _ (tbi4 _ (List.mem_of_getElem? (i := 233) rfl)), rfl⟩, List.mem_filter.mpr ⟨List.mem_append_right _ (tbi4 _ (List.mem_of_getElem? (i := 234) rfl)), rfl⟩, Or.inl (List.mem_filter.mpr ⟨List.mem_append_right _ (tbi4 _ (List.mem_of_getElem? (i := 232) rfl)), rfl⟩)⟩
theorem lb_X12_pocket : LB mX12_pocket 5 := ⟨List.mem_filter.mpr ⟨List.mem_append_right _ (tbi1 _ (List.mem_of_getElem? (i := 13) rfl)), rfl⟩, List.mem_filter.mpr ⟨List.mem_append_right _ (tbi8 _ (List.mem_of_getElem? (i := 50) rfl)), rfl⟩, ⟨by decide +kernel, by decide +kernel⟩, by decide +kernel, by decide⟩
theorem lv_RL_127 : LV RL 127 mX12_pocket 5 := ⟨lb_X12_pocket, List.mem_filter.mpr ⟨List.mem_append_right _ (tbi8 _ (List.mem_of_getElem? (i := 48) rfl)), rfl⟩, List.mem_filter.mpr ⟨List.mem_append_right _ (tbi8 _ (List.mem_of_getElem? (i := 49) rfl)), rfl⟩, Or.inl (List.mem_filter.mpr ⟨List.mem_append_right _ (tbi8 _ (List.mem_of_getElem? (i := 47) rfl)), rfl⟩)⟩
theorem lb_X11_collate : LB mX11_collate 2 := ⟨List.mem_filter.mpr ⟨List.mem_append_right _ (tbi1 _ (List.mem_of_getElem? (i := 1) rfl)), rfl⟩, List.mem_filter.mpr ⟨List.mem_append_right _ (tbi5 _ (List.mem_of_getElem? (i := 10) rfl)), rfl⟩, ⟨by decide +kernel, by decide +kernel⟩, by decide +kernel, by decide⟩
theorem lv_RL_128 : LV RL 128 mX11_collate 2 := ⟨lb_X11_collate, List.mem_filter.mpr ⟨List.mem_append_right _ (tbi5 _ (List.mem_of_getElem? (i := 8) rfl)), rfl⟩, List.mem_filter.mpr ⟨List.mem_append_right _ (tbi5 _ (List.mem_of_getElem? (i := 9) rfl)), rfl⟩, Or.inl (List.mem_filter.mpr ⟨List.mem_append_right _ (tbi5 _ (List.mem_of_getElem? (i := 7) rfl)), rfl⟩)⟩
theorem lb_X12_collate : LB mX12_collate 2 := ⟨List.mem_filter.mpr ⟨List.mem_append_right _ (tbi1 _ (List.mem_of_getElem? (i := 13) rfl)), rfl⟩, List.mem_filter.mpr ⟨List.mem_append_right _ (tbi8 _ (List.mem_of_getElem? (i := 54) rfl)), rfl⟩, ⟨by decide +kernel, by decide +kernel⟩, by decide +kernel, by decide⟩
theorem lv_RL_131 : LV RL 131 mX12_collate 2 := ⟨lb_X12_collate, List.mem_filter.mpr ⟨List.mem_append_right _ (tbi8 _ (List.mem_of_getElem? (i := 52) rfl)), rfl⟩, List.mem_filter.mpr ⟨List.mem_append_right _ (tbi8 _ (List.mem_of_getElem? (i := 53) rfl)), rfl⟩, Or.inl (List.mem_filter.mpr ⟨List.mem_append_right _ (tbi8 _ (List.mem_of_getElem? (i := 51) rfl)), rfl⟩)⟩
theorem lb_X11_matched : LB mX11_matched 3 := ⟨List.mem_filter.mpr ⟨List.mem_append_right _ (tbi1 _ (List.mem_of_getElem? (i := 1) rfl)), rfl⟩, List.mem_filter.mpr ⟨List.mem_append_right _ (tbi5 _ (List.mem_of_getElem? (i := 28) rfl)), rfl⟩, ⟨by decide +kernel, by decide +kernel⟩, by decide +kernel, by decide⟩
theorem lv_RL_132 : LV RL 132 mX11_matched 3 := ⟨lb_X11_matched, List.mem_filter.mpr ⟨List.mem_append_right _ (tbi5 _ (List.mem_of_getElem? (i := 26) rfl)), rfl⟩, List.mem_filter.mpr ⟨List.mem_append_right _ (tbi5 _ (List.mem_of_getElem? (i := 27) rfl)), rfl⟩, Or.inl (List.mem_filter.mpr ⟨List.mem_append_right _ (tbi5 _ (List.mem_of_getElem? (i := 25) rfl)), rfl⟩)⟩
theorem lb_X12_matched : LB mX12_matched 3 := ⟨List.mem_filter.mpr ⟨List.mem_append_right _ (tbi1 _ (List.mem_of_getElem? (i := 13) rfl)), rfl⟩, List.mem_filter.mpr ⟨List.mem_append_right _ (tbi8 _ (List.mem_of_getElem? (i := 62) rfl)), rfl⟩, ⟨by decide +kernel, by decide +kernel⟩, by decide +kernel, by decide⟩
theorem lv_RL_135 : LV RL 135 mX12_matched 3 := ⟨lb_X12_matched, List.mem_filter.mpr ⟨List.mem_append_right _ (tbi8 _ (List.mem_of_getElem? (i := 60) rfl)), rfl⟩, List.mem_filter.mpr ⟨List.mem_append_right _ (tbi8 _ (List.mem_of_getElem? (i := 61) rfl)), rfl⟩, Or.inl (List.mem_filter.mpr ⟨List.mem_append_right _ (tbi8 _ (List.mem_of_getElem? (i := 59) rfl)), rfl⟩)⟩
theorem lb_X11_program : LB mX11_program 1 := ⟨List.mem_filter.mpr ⟨List.mem_append_right _ (tbi1 _ (List.mem_of_getElem? (i := 1) rfl)), rfl⟩, List.mem_filter.mpr ⟨List.mem_append_right _ (tbi5 _ (List.mem_of_getElem? (i := 40) rfl)), rfl⟩, ⟨by decide +kernel, by decide +kernel⟩, by decide +kernel, by decide⟩
theorem lv_RL_136 : LV RL 136 mX11_program 1 := ⟨lb_X11_program, List.mem_filter.mpr ⟨List.mem_append_right _ (tbi5 _ (List.mem_of_getElem? (i := 38) rfl)), rfl⟩, List.mem_filter.mpr ⟨List.mem_append_right _ (tbi5 _ (List.mem_of_getElem? (i := 39) rfl)), rfl⟩, Or.inl (List.mem_filter.mpr ⟨List.mem_append_right _ (tbi5 _ (List.mem_of_getElem? (i := 37) rfl)), rfl⟩)⟩
theorem lb_X12_program : LB mX12_program 1 := ⟨List.mem_filter.mpr ⟨List.mem_append_right _ (tbi1 _ (List.mem_of_getElem? (i := 13) rfl)), rfl⟩, List.mem_filter.mpr ⟨List.mem_append_right _ (tbi7 _ (List.mem_of_getElem? (i := 186) rfl)), rfl⟩, ⟨by decide +kernel, by decide +kernel⟩, by decide +kernel, by decide⟩
theorem lv_RL_139 : LV RL 139 mX12_program 1 := ⟨lb_X12_program, List.mem_filter.mpr ⟨List.mem_append_right _ (tbi7 _ (List.mem_of_getElem? (i := 184) rfl)), rfl⟩, List.mem_filter.mpr ⟨List.mem_append_right _ (tbi7 _ (List.mem_of_getElem? (i := 185) rfl)), rfl⟩, Or.inl (List.mem_filter.mpr ⟨List.mem_append_right _ (tbi7 _ (List.mem_of_getElem? (i := 183) rfl)), rfl⟩)⟩
theorem lb_X11_run : LB mX11_run 0 := ⟨List.mem_filter.mpr ⟨List.mem_append_right _ (tbi1 _ (List.mem_of_getElem? (i := 1) rfl)), rfl⟩, List.mem_filter.mpr ⟨List.mem_append_right _ (tbi5 _ (List.mem_of_getElem? (i := 112) rfl)), rfl⟩, ⟨by decide +kernel, by decide +kernel⟩, by decide +kernel, by decide⟩
theorem lv_RL_140 : LV RL 140 mX11_run 0 := ⟨lb_X11_run, List.mem_filter.mpr ⟨List.mem_append_right _ (tbi5 _ (List.mem_of_getElem? (i := 110) rfl)), rfl⟩, List.mem_filter.mpr ⟨List.mem_append_right _ (tbi5 _ (List.mem_of_getElem? (i := 111) rfl)), rfl⟩, Or.inl (List.mem_filter.mpr ⟨List.mem_append_right _ (tbi5 _ (List.mem_of_getElem? (i := 109) rfl)), rfl⟩)⟩
theorem lb_X12_run : LB mX12_run 0 := ⟨List.mem_filter.mpr ⟨List.mem_append_right _ (tbi1 _ (List.mem_of_getElem? (i := 13) rfl)), rfl⟩, List.mem_filter.mpr ⟨List.mem_append_right _ (tbi8 _ (List.mem_of_getElem? (i := 70) rfl)), rfl⟩, ⟨by decide +kernel, by decide +kernel⟩, by decide +kernel, by decide⟩
theorem lv_RL_143 : LV RL 143 mX12_run 0 := ⟨lb_X12_run, List.mem_filter.mpr ⟨List.mem_append_right _ (tbi8 _ (List.mem_of_getElem? (i := 68) rfl)), rfl⟩, List.mem_filter.mpr ⟨List.mem_append_right _ (tbi8 _ (List.mem_of_getElem? (i := 69) rfl)), rfl⟩, Or.inl (List.mem_filter.mpr ⟨List.mem_append_right _ (tbi8 _ (List.mem_of_getElem? (i := 67) rfl)), rfl⟩)⟩
theorem lb_X11_ran : LB mX11_ran 1 := ⟨List.mem_filter.mpr ⟨List.mem_append_right _ (tbi1 _ (List.mem_of_getElem? (i := 1) rfl)), rfl⟩, List.mem_filter.mpr ⟨List.mem_append_right _ (tbi5 _ (List.mem_of_getElem? (i := 146) rfl)), rfl⟩, ⟨by decide +kernel, by decide +kernel⟩, by decide +kernel, by decide⟩
theorem lv_RL_144 : LV RL 144 mX11_ran 1 := ⟨lb_X11_ran, List.mem_filter.mpr ⟨List.mem_append_right _ (tbi5 _ (List.mem_of_getElem? (i := 144) rfl)), rfl⟩, List.mem_filter.mpr ⟨List.mem_append_right _ (tbi5 _ (List.mem_of_getElem? (i := 145) rfl)), rfl⟩, Or.inl (List.mem_filter.mpr ⟨List.mem_append_right _ (tbi5 _ (List.mem_of_getElem? (i := 143) rfl)), rfl⟩)⟩
theorem lb_X12_ran : LB mX12_ran 1 := ⟨List.mem_filter.mpr ⟨List.mem_append_right _ (tbi1 _ (List.mem_of_getElem? (i := 13) rfl)), rfl⟩, List.mem_filter.mpr ⟨List.mem_append_right _ (tbi8 _ (List.mem_of_getElem? (i := 94) rfl)), rfl⟩, ⟨by decide +kernel, by decide +kernel⟩, by decide +kernel, by decide⟩
theorem lv_RL_148 : LV RL 148 mX12_ran 1 := ⟨lb_X12_ran, List.mem_filter.mpr ⟨List.mem_append_right _ (tbi8 _ (List.mem_of_getElem? (i := 92) rfl)), rfl⟩, List.mem_filter.mpr ⟨List.mem_append_right _ (tbi8 _ (List.mem_of_getElem? (i := 93) rfl)), rfl⟩, Or.inl (List.mem_filter.mpr ⟨List.mem_append_right _ (tbi8 _ (List.mem_of_getElem? (i := 91) rfl)), rfl⟩)⟩
theorem lb_X11_fewest : LB mX11_fewest 2 := ⟨List.mem_filter.mpr ⟨List.mem_append_right _ (tbi1 _ (List.mem_of_getElem? (i := 1) rfl)), rfl⟩, List.mem_filter.mpr ⟨List.mem_append_right _ (tbi5 _ (List.mem_of_getElem? (i := 150) rfl)), rfl⟩, ⟨by decide +kernel, by decide +kernel⟩, by decide +kernel, by decide⟩
theorem lv_RL_149 : LV RL 149 mX11_fewest 2 := ⟨lb_X11_fewest, List.mem_filter.mpr ⟨List.mem_append_right _ (tbi5 _ (List.mem_of_getElem? (i := 148) rfl)), rfl⟩, List.mem_filter.mpr ⟨List.mem_append_right _ (tbi5 _ (List.mem_of_getElem? (i := 149) rfl)), rfl⟩, Or.inl (List.mem_filter.mpr ⟨List.mem_append_right _ (tbi5 _ (List.mem_of_getElem? (i := 147) rfl)), rfl⟩)⟩
theorem lb_X12_fewest : LB mX12_fewest 2 := ⟨List.mem_filter.mpr ⟨List.mem_append_right _ (tbi1 _ (List.mem_of_getElem? (i := 13) rfl)), rfl⟩, List.mem_filter.mpr ⟨List.mem_append_right _ (tbi8 _ (List.mem_of_getElem? (i := 98) rfl)), rfl⟩, ⟨by decide +kernel, by decide +kernel⟩, by decide +kernel, by decide⟩
theorem lv_RL_152 : LV RL 152 mX12_fewest 2 := ⟨lb_X12_fewest, List.mem_filter.mpr ⟨List.mem_append_right _ (tbi8 _ (List.mem_of_getElem? (i := 96) rfl)), rfl⟩, List.mem_filter.mpr ⟨List.mem_append_right _ (tbi8 _ (List.mem_of_getElem? (i := 97) rfl)), rfl⟩, Or.inl (List.mem_filter.mpr ⟨List.mem_append_right _ (tbi8 _ (List.mem_of_getElem? (i := 95) rfl)), rfl⟩)⟩
theorem lb_X11_misread : LB mX11_misread 1 := ⟨List.mem_filter.mpr ⟨List.mem_append_right _ (tbi1 _ (List.mem_of_getElem? (i := 1) rfl)), rfl⟩, List.mem_filter.mpr ⟨List.mem_append_right _ (tbi5 _ (List.mem_of_getElem? (i := 196) rfl)), rfl⟩, ⟨by decide +kernel, by decide +kernel⟩, by decide +kernel, by decide⟩
theorem lv_RL_153 : LV RL 153 mX11_misread 1 := ⟨lb_X11_misread, List.mem_filter.mpr ⟨List.mem_append_right _ (tbi5 _ (List.mem_of_getElem? (i := 194) rfl)), rfl⟩, List.mem_filter.mpr ⟨List.mem_append_right _ (tbi5 _ (List.mem_of_getElem? (i := 195) rfl)), rfl⟩, Or.inl (List.mem_filter.mpr ⟨List.mem_append_right _ (tbi5 _ (List.mem_of_getElem? (i := 193) rfl)), rfl⟩)⟩
theorem lb_X12_misread : LB mX12_misread 1 := ⟨List.mem_filter.mpr ⟨List.mem_append_right _ (tbi1 _ (List.mem_of_getElem? (i := 13) rfl)), rfl⟩, List.mem_filter.mpr ⟨List.mem_append_right _ (tbi8 _ (List.mem_of_getElem? (i := 126) rfl)), rfl⟩, ⟨by decide +kernel, by decide +kernel⟩, by decide +kernel, by decide⟩
theorem lv_RL_156 : LV RL 156 mX12_misread 1 := ⟨lb_X12_misread, List.mem_filter.mpr ⟨List.mem_append_right _ (tbi8 _ (List.mem_of_getElem? (i := 124) rfl)), rfl⟩, List.mem_filter.mpr ⟨List.mem_append_right _ (tbi8 _ (List.mem_of_getElem? (i := 125) rfl)), rfl⟩, Or.inl (List.mem_filter.mpr ⟨List.mem_append_right _ (tbi8 _ (List.mem_of_getElem? (i := 123) rfl)), rfl⟩)⟩
theorem lb_X11_parts : LB mX11_parts 2 := ⟨List.mem_filter.mpr ⟨List.mem_append_right _ (tbi1 _ (List.mem_of_getElem? (i := 1) rfl)), rfl⟩, List.mem_filter.mpr ⟨List.mem_append_right _ (tbi5 _ (List.mem_of_getElem? (i := 200) rfl)), rfl⟩, ⟨by decide +kernel, by decide +kernel⟩, by decide +kernel, by decide⟩
theorem lv_RL_157 : LV RL 157 mX11_parts 2 := ⟨lb_X11_parts, List.mem_filter.mpr ⟨List.mem_append_right _ (tbi5 _ (List.mem_of_getElem? (i := 198) rfl)), rfl⟩, List.mem_filter.mpr ⟨List.mem_append_right _ (tbi5 _ (List.mem_of_getElem? (i := 199) rfl)), rfl⟩, Or.inl (List.mem_filter.mpr ⟨List.mem_append_right _ (tbi5 _ (List.mem_of_getElem? (i := 197) rfl)), rfl⟩)⟩
theorem lb_X12_parts : LB mX12_parts 2 := ⟨List.mem_filter.mpr ⟨List.mem_append_right _ (tbi1 _ (List.mem_of_getElem? (i := 13) rfl)), rfl⟩, List.mem_filter.mpr ⟨List.mem_append_right _ (tbi8 _ (List.mem_of_getElem? (i := 130) rfl)), rfl⟩, ⟨by decide +kernel, by decide +kernel⟩, by decide +kernel, by decide⟩
theorem lv_RL_160 : LV RL 160 mX12_parts 2 := ⟨lb_X12_parts, List.mem_filter.mpr ⟨List.mem_append_right _ (tbi8 _ (List.mem_of_getElem? (i := 128) rfl)), rfl⟩, List.mem_filter.mpr ⟨List.mem_append_right _ (tbi8 _ (List.mem_of_getElem? (i := 129) rfl)), rfl⟩, Or.inl (List.mem_filter.mpr ⟨List.mem_append_right _ (tbi8 _ (List.mem_of_getElem? (i := 127) rfl)), rfl⟩)⟩
theorem lb_X11_parted : LB mX11_parted 1 := ⟨List.mem_filter.mpr ⟨List.mem_append_right _ (tbi1 _ (List.mem_of_getElem? (i := 1) rfl)), rfl⟩, List.mem_filter.mpr ⟨List.mem_append_right _ (tbi5 _ (List.mem_of_getElem? (i := 225) rfl)), rfl⟩, ⟨by decide +kernel, by decide +kernel⟩, by decide +kernel, by decide⟩
theorem lv_RL_161 : LV RL 161 mX11_parted 1 := ⟨lb_X11_parted, List.mem_filter.mpr ⟨List.mem_append_right _ (tbi5 _ (List.mem_of_getElem? (i := 223) rfl)), rfl⟩, List.mem_filter.mpr ⟨List.mem_append_right _ (tbi5 _ (List.mem_of_getElem? (i := 224) rfl)), rfl⟩, Or.inl (List.mem_filter.mpr ⟨List.mem_append_right _ (tbi5 _ (List.mem_of_getElem? (i := 222) rfl)), rfl⟩)⟩
theorem lb_X12_parted : LB mX12_parted 1 := ⟨List.mem_filter.mpr ⟨List.mem_append_right _ (tbi1 _ (List.mem_of_getElem? (i := 13) rfl)), rfl⟩, List.mem_filter.mpr ⟨List.mem_append_right _ (tbi8 _ (List.mem_of_getElem? (i := 138) rfl)), rfl⟩, ⟨by decide +kernel, by decide +kernel⟩, by decide +kernel, by decide⟩
theorem lv_RL_164 : LV RL 164 mX12_parted 1 := ⟨lb_X12_parted, List.mem_filter.mpr ⟨List.mem_append_right _ (tbi8 _ (List.mem_of_getElem? (i := 136) rfl)), rfl⟩, List.mem_filter.mpr ⟨List.mem_append_right _ (tbi8 _ (List.mem_of_getElem? (i := 137) rfl)), rfl⟩, Or.inl (List.mem_filter.mpr ⟨List.mem_append_right _ (tbi8 _ (List.mem_of_getElem? (i := 135) rfl)), rfl⟩)⟩
theorem lb_X11_lost : LB mX11_lost 5 := ⟨List.mem_filter.mpr ⟨List.mem_append_right _ (tbi1 _ (List.mem_of_getElem? (i := 1) rfl)), rfl⟩, List.mem_filter.mpr ⟨List.mem_append_right _ (tbi5 _ (List.mem_of_getElem? (i := 229) rfl)), rfl⟩, ⟨by decide +kernel, by decide +kernel⟩, by decide +kernel, by decide⟩
theorem lv_RL_165 : LV RL 165 mX11_lost 5 := ⟨lb_X11_lost, List.mem_filter.mpr ⟨List.mem_append_right _ (tbi5 _ (List.mem_of_getElem? (i := 227) rfl)), rfl⟩, List.mem_filter.mpr ⟨List.mem_append_right _ (tbi5 _ (List.mem_of_getElem? (i := 228) rfl)), rfl⟩, Or.inl (List.mem_filter.mpr ⟨List.mem_append_right _ (tbi5 _ (List.mem_of_getElem? (i := 226) rfl)), rfl⟩)⟩
theorem lb_X12_lost : LB mX12_lost 5 := ⟨List.mem_filter.mpr ⟨List.mem_append_right _ (tbi1 _ (List.mem_of_getElem? (i := 13) rfl)), rfl⟩, List.mem_filter.mpr ⟨List.mem_append_right _ (tbi8 _ (List.mem_of_getElem? (i := 142) rfl)), rfl⟩, ⟨by decide +kernel, by decide +kernel⟩, by decide +kernel, by decide⟩
theorem lv_RL_168 : LV RL 168 mX12_lost 5 := ⟨lb_X12_lost, List.mem_filter.mpr ⟨List.mem_append_right _ (tbi8 _ (List.mem_of_getElem? (i := 140) rfl)), rfl⟩, List.mem_filter.mpr ⟨List.mem_append_right _ (tbi8 _ (List.mem_of_getElem? (i := 141) rfl)), rfl⟩, Or.inl (List.mem_filter.mpr ⟨List.mem_append_right _ (tbi8 _ (List.mem_of_getElem? (i := 139) rfl)), rfl⟩)⟩
theorem lb_X11_meaning : LB mX11_meaning 3 := ⟨List.mem_filter.mpr ⟨List.mem_append_right _ (tbi1 _ (List.mem_of_getElem? (i := 1) rfl)), rfl⟩, List.mem_filter.mpr ⟨List.mem_append_right _ (tbi5 _ (List.mem_of_getElem? (i := 236) rfl)), rfl⟩, ⟨by decide +kernel, by decide +kernel⟩, by decide +kernel, by decide⟩
theorem lv_RL_169 : LV RL 169 mX11_meaning 3 := ⟨lb_X11_meaning, List.mem_filter.mpr ⟨List.mem_append_right _ (tbi5 _ (List.mem_of_getElem? (i := 234) rfl)), rfl⟩, List.mem_filter.mpr ⟨List.mem_append_right _ (tbi5 _ (List.mem_of_getElem? (i := 235) rfl)), rfl⟩, Or.inl (List.mem_filter.mpr ⟨List.mem_append_right _ (tbi5 _ (List.mem_of_getElem? (i := 233) rfl)), rfl⟩)⟩
theorem lb_X12_meaning : LB mX12_meaning 3 := ⟨List.mem_filter.mpr ⟨List.mem_append_right _ (tbi1 _ (List.mem_of_getElem? (i := 13) rfl)), rfl⟩, List.mem_filter.mpr ⟨List.mem_append_right _ (tbi8 _ (List.mem_of_getElem? (i := 146) rfl)), rfl⟩, ⟨by decide +kernel, by decide +kernel⟩, by decide +kernel, by decide⟩
theorem lv_RL_172 : LV RL 172 mX12_meaning 3 := ⟨lb_X12_meaning, List.mem_filter.mpr ⟨List.mem_append_right _ (tbi8 _ (List.mem_of_getElem? (i := 144) rfl)), rfl⟩, List.mem_filter.mpr ⟨List.mem_append_right _ (tbi8 _ (List.mem_of_getElem? (i := 145) rfl)), rfl⟩, Or.inl (List.mem_filter.mpr ⟨List.mem_append_right _ (tbi8 _ (List.mem_of_getElem? (i := 143) rfl)), rfl⟩)⟩
theorem lb_X11_joined : LB mX11_joined 2 := ⟨List.mem_filter.mpr ⟨List.mem_append_right _ (tbi1 _ (List.mem_of_getElem? (i := 1) rfl)), rfl⟩, List.mem_filter.mpr ⟨List.mem_append_right _ (tbi6 _ (List.mem_of_getElem? (i := 1) rfl)), rfl⟩, ⟨by decide +kernel, by decide +kernel⟩, by decide +kernel, by decide⟩
theorem lv_RL_173 : LV RL 173 mX11_joined 2 := ⟨lb_X11_joined, List.mem_filter.mpr ⟨List.mem_append_right _ (tbi5 _ (List.mem_of_getElem? (i := 239) rfl)), rfl⟩, List.mem_filter.mpr ⟨List.mem_append_right _ (tbi6 _ (List.mem_of_getElem? (i := 0) rfl)), rfl⟩, Or.inl (List.mem_filter.mpr ⟨List.mem_append_right _ (tbi5 _ (List.mem_of_getElem? (i := 238) rfl)), rfl⟩)⟩
theorem lb_X12_joined : LB mX12_joined 2 := ⟨List.mem_filter.mpr ⟨List.mem_append_right _ (tbi1 _ (List.mem_of_getElem? (i := 13) rfl)), rfl⟩, List.mem_filter.mpr ⟨List.mem_append_right _ (tbi8 _ (List.mem_of_getElem? (i := 154) rfl)), rfl⟩, ⟨by decide +kernel, by decide +kernel⟩, by decide +kernel, by decide⟩
theorem lv_RL_176 : LV RL 176 mX12_joined 2 := ⟨lb_X12_joined, List.mem_filter.mpr ⟨List.mem_append_right _ (tbi8 _ (List.mem_of_getElem? (i := 152) rfl)), rfl⟩, List.mem_filter.mpr ⟨List.mem_append_right _ (tbi8 _ (List.mem_of_getElem? (i := 153) rfl)), rfl⟩, Or.inl (List.mem_filter.mpr ⟨List.mem_append_right _ (tbi8 _ (List.mem_of_getElem? (i := 151) rfl)), rfl⟩)⟩
theorem lb_X11_count : LB mX11_count 2 := ⟨List.mem_filter.mpr ⟨List.mem_append_right _ (tbi1 _ (List.mem_of_getElem? (i := 1) rfl)), rfl⟩, List.mem_filter.mpr ⟨List.mem_append_right _ (tbi6 _ (List.mem_of_getElem? (i := 6) rfl)), rfl⟩, ⟨by decide +kernel, by decide +kernel⟩, by decide +kernel, by decide⟩
theorem lv_RL_177 : LV RL 177 mX11_count 2 := ⟨lb_X11_count, List.mem_filter.mpr ⟨List.mem_append_right _ (tbi6 _ (List.mem_of_getElem? (i := 4) rfl)), rfl⟩, List.mem_filter.mpr ⟨List.mem_append_right _ (tbi6 _ (List.mem_of_getElem? (i := 5) rfl)), rfl⟩, Or.inl (List.mem_filter.mpr ⟨List.mem_append_right _ (tbi6 _ (List.mem_of_getElem? (i := 3) rfl)), rfl⟩)⟩
theorem lb_X12_count : LB mX12_count 2 := ⟨List.mem_filter.mpr ⟨List.mem_append_right _ (tbi1 _ (List.mem_of_getElem? (i := 13) rfl)), rfl⟩, List.mem_filter.mpr ⟨List.mem_append_right _ (tbi8 _ (List.mem_of_getElem? (i := 158) rfl)), rfl⟩, ⟨by decide +kernel, by decide +kernel⟩, by decide +kernel, by decide⟩
theorem lv_RL_180 : LV RL 180 mX12_count 2 := ⟨lb_X12_count, List.mem_filter.mpr ⟨List.mem_append_right _ (tbi8 _ (List.mem_of_getElem? (i := 156) rfl)), rfl⟩, List.mem_filter.mpr ⟨List.mem_append_right _ (tbi8 _ (List.mem_of_getElem? (i := 157) rfl)), rfl⟩, Or.inl (List.mem_filter.mpr ⟨List.mem_append_right _ (tbi8 _ (List.mem_of_getElem? (i := 155) rfl)), rfl⟩)⟩
theorem lb_X11_meant : LB mX11_meant 4 := ⟨List.mem_filter.mpr ⟨List.mem_append_right _ (tbi1 _ (List.mem_of_getElem? (i := 1) rfl)), rfl⟩, List.mem_filter.mpr ⟨List.mem_append_right _ (tbi6 _ (List.mem_of_getElem? (i := 15) rfl)), rfl⟩, ⟨by decide +kernel, by decide +kernel⟩, by decide +kernel, by decide⟩
theorem lv_RL_181 : LV RL 181 mX11_meant 4 := ⟨lb_X11_meant, List.mem_filter.mpr ⟨List.mem_append_right _ (tbi6 _ (List.mem_of_getElem? (i := 13) rfl)), rfl⟩, List.mem_filter.mpr ⟨List.mem_append_right _ (tbi6 _ (List.mem_of_getElem? (i := 14) rfl)), rfl⟩, Or.inl (List.mem_filter.mpr ⟨List.mem_append_right _ (tbi6 _ (List.mem_of_getElem? (i := 12) rfl)), rfl⟩)⟩
theorem lb_X12_meant : LB mX12_meant 4 := ⟨List.mem_filter.mpr ⟨List.mem_append_right _ (tbi1 _ (List.mem_of_getElem? (i := 13) rfl)), rfl⟩, List.mem_filter.mpr ⟨List.mem_append_right _ (tbi8 _ (List.mem_of_getElem? (i := 166) rfl)), rfl⟩, ⟨by decide +kernel, by decide +kernel⟩, by decide +kernel, by decide⟩
theorem lv_RL_184 : LV RL 184 mX12_meant 4 := ⟨lb_X12_meant, List.mem_filter.mpr ⟨List.mem_append_right _ (tbi8 _ (List.mem_of_getElem? (i := 164) rfl)), rfl⟩, List.mem_filter.mpr ⟨List.mem_append_right _ (tbi8 _ (List.mem_of_getElem? (i := 165) rfl)), rfl⟩, Or.inl (List.mem_filter.mpr ⟨List.mem_append_right _ (tbi8 _ (List.mem_of_getElem? (i := 163) rfl)), rfl⟩)⟩
theorem lb_X11_anew : LB mX11_anew 1 := ⟨List.mem_filter.mpr ⟨List.mem_append_right _ (tbi1 _ (List.mem_of_getElem? (i := 1) rfl)), rfl⟩, List.mem_filter.mpr ⟨List.mem_append_right _ (tbi6 _ (List.mem_of_getElem? (i := 24) rfl)), rfl⟩, ⟨by decide +kernel, by decide +kernel⟩, by decide +kernel, by decide⟩
theorem lv_RL_185 : LV RL 185 mX11_anew 1 := ⟨lb_X11_anew, List.mem_filter.mpr ⟨List.mem_append_right _ (tbi6 _ (List.mem_of_getElem? (i := 22) rfl)), rfl⟩, List.mem_filter.mpr ⟨List.mem_append_right _ (tbi6 _ (List.mem_of_getElem? (i := 23) rfl)), rfl⟩, Or.inl (List.mem_filter.mpr ⟨List.mem_append_right _ (tbi6 _ (List.mem_of_getElem? (i := 21) rfl)), rfl⟩)⟩
theorem lb_X12_anew : LB mX12_anew 1 := ⟨List.mem_filter.mpr ⟨List.mem_append_right _ (tbi1 _ (List.mem_of_getElem? (i := 13) rfl)), rfl⟩, List.mem_filter.mpr ⟨List.mem_append_right _ (tbi8 _ (List.mem_of_getElem? (i := 170) rfl)), rfl⟩, ⟨by decide +kernel, by decide +kernel⟩, by decide +kernel, by decide⟩
theorem lv_RL_188 : LV RL 188 mX12_anew 1 := ⟨lb_X12_anew, List.mem_filter.mpr ⟨List.mem_append_right _ (tbi8 _ (List.mem_of_getElem? (i := 168) rfl)), rfl⟩, List.mem_filter.mpr ⟨List.mem_append_right _ (tbi8 _ (List.mem_of_getElem? (i := 169) rfl)), rfl⟩, Or.inl (List.mem_filter.mpr ⟨List.mem_append_right _ (tbi8 _ (List.mem_of_getElem? (i := 167) rfl)), rfl⟩)⟩
theorem lb_X11_list : LB mX11_list 3 := ⟨List.mem_filter.mpr ⟨List.mem_append_right _ (tbi1 _ (List.mem_of_getElem? (i := 1) rfl)), rfl⟩, List.mem_filter.mpr ⟨List.mem_append_right _ (tbi6 _ (List.mem_of_getElem? (i := 28) rfl)), rfl⟩, ⟨by decide +kernel, by decide +kernel⟩, by decide +kernel, by decide⟩
theorem lv_RL_189 : LV RL 189 mX11_list 3 := ⟨lb_X11_list, List.mem_filter.mpr ⟨List.mem_append_right _ (tbi6 _ (List.mem_of_getElem? (i := 26) rfl)), rfl⟩, List.mem_filter.mpr ⟨List.mem_append_right _ (tbi6 _ (List.mem_of_getElem? (i := 27) rfl)), rfl⟩, Or.inl (List.mem_filter.mpr ⟨List.mem_append_right _ (tbi6 _ (List.mem_of_getElem? (i := 25) rfl)), rfl⟩)⟩
theorem lb_X12_list : LB mX12_list 3 := ⟨List.mem_filter.mpr ⟨List.mem_append_right _ (tbi1 _ (List.mem_of_getElem? (i := 13) rfl)), rfl⟩, List.mem_filter.mpr ⟨List.mem_append_right _ (tbi8 _ (List.mem_of_getElem? (i := 174) rfl)), rfl⟩, ⟨by decide +kernel, by decide +kernel⟩, by decide +kernel, by decide⟩
theorem lv_RL_192 : LV RL 192 mX12_list 3 := ⟨lb_X12_list, List.mem_filter.mpr ⟨List.mem_append_right _ (tbi8 _ (List.mem_of_getElem? (i := 172) rfl)), rfl⟩, List.mem_filter.mpr ⟨List.mem_append_right _ (tbi8 _ (List.mem_of_getElem? (i := 173) rfl)), rfl⟩, Or.inl (List.mem_filter.mpr ⟨List.mem_append_right _ (tbi8 _ (List.mem_of_getElem? (i := 171) rfl)), rfl⟩)⟩
theorem lb_X11_habit : LB mX11_habit 1 := ⟨List.mem_filter.mpr ⟨List.mem_append_right _ (tbi1 _ (List.mem_of_getElem? (i := 1) rfl)), rfl⟩, List.mem_filter.mpr ⟨List.mem_append_right _ (tbi6 _ (List.mem_of_getElem? (i := 42) rfl)), rfl⟩, ⟨by decide +kernel, by decide +kernel⟩, by decide +kernel, by decide⟩
theorem lv_RL_193 : LV RL 193 mX11_habit 1 := ⟨lb_X11_habit, List.mem_filter.mpr ⟨List.mem_append_right _ (tbi6 _ (List.mem_of_getElem? (i := 40) rfl)), rfl⟩, List.mem_filter.mpr ⟨List.mem_append_right _ (tbi6 _ (List.mem_of_getElem? (i := 41) rfl)), rfl⟩, Or.inl (List.mem_filter.mpr ⟨List.mem_append_right _ (tbi6 _ (List.mem_of_getElem? (i := 39) rfl)), rfl⟩)⟩
theorem lb_X12_habit : LB mX12_habit 1 := ⟨List.mem_filter.mpr ⟨List.mem_append_right _ (tbi1 _ (List.mem_of_getElem? (i := 13) rfl)), rfl⟩, List.mem_filter.mpr ⟨List.mem_append_right _ (tbi8 _ (List.mem_of_getElem? (i := 178) rfl)), rfl⟩, ⟨by decide +kernel, by decide +kernel⟩, by decide +kernel, by decide⟩
theorem lv_RL_197 : LV RL 197 mX12_habit 1 := ⟨lb_X12_habit, List.mem_filter.mpr ⟨List.mem_append_right _ (tbi8 _ (List.mem_of_getElem? (i := 176) rfl)), rfl⟩, List.mem_filter.mpr ⟨List.mem_append_right _ (tbi8 _ (List.mem_of_getElem? (i := 177) rfl)), rfl⟩, Or.inl (List.mem_filter.mpr ⟨List.mem_append_right _ (tbi8 _ (List.mem_of_getElem? (i := 175) rfl)), rfl⟩)⟩
theorem lb_X11_mark : LB mX11_mark 0 := ⟨List.mem_filter.mpr ⟨List.mem_append_right _ (tbi1 _ (List.mem_of_getElem? (i := 1) rfl)), rfl⟩, List.mem_filter.mpr ⟨List.mem_append_right _ (tbi6 _ (List.mem_of_getElem? (i := 66) rfl)), rfl⟩, ⟨by decide +kernel, by decide +kernel⟩, by decide +kernel, by decide⟩
theorem lv_RL_198 : LV RL 198 mX11_mark 0 := ⟨lb_X11_mark, List.mem_filter.mpr ⟨List.mem_append_right _ (tbi6 _ (List.mem_of_getElem? (i := 64) rfl)), rfl⟩, List.mem_filter.mpr ⟨List.mem_append_right _ (tbi6 _ (List.mem_of_getElem? (i := 65) rfl)), rfl⟩, Or.inl (List.mem_filter.mpr ⟨List.mem_append_right _ (tbi6 _ (List.mem_of_getElem? (i := 63) rfl)), rfl⟩)⟩
theorem lb_X12_mark : LB mX12_mark 0 := ⟨List.mem_filter.mpr ⟨List.mem_append_right _ (tbi1 _ (List.mem_of_getElem? (i := 13) rfl)), rfl⟩, List.mem_filter.mpr ⟨List.mem_append_right _ (tbi8 _ (List.mem_of_getElem? (i := 182) rfl)), rfl⟩, ⟨by decide +kernel, by decide +kernel⟩, by decide +kernel, by decide⟩
theorem lv_RL_201 : LV RL 201 mX12_mark 0 := ⟨lb_X12_mark, List.mem_filter.mpr ⟨List.mem_append_right _ (tbi8 _ (List.mem_of_getElem? (i := 180) rfl)), rfl⟩, List.mem_filter.mpr ⟨List.mem_append_right _ (tbi8 _ (List.mem_of_getElem? (i := 181) rfl)), rfl⟩, Or.inl (List.mem_filter.mpr ⟨List.mem_append_right _ (tbi8 _ (List.mem_of_getElem? (i := 179) rfl)), rfl⟩)⟩
theorem lb_X11_back : LB mX11_back 0 := ⟨List.mem_filter.mpr ⟨List.mem_append_right _ (tbi1 _ (List.mem_of_getElem? (i := 1) rfl)), rfl⟩, List.mem_filter.mpr ⟨List.mem_append_right _ (tbi6 _ (List.mem_of_getElem? (i := 77) rfl)), rfl⟩, ⟨by decide +kernel, by decide +kernel⟩, by decide +kernel, by decide⟩
theorem lv_RL_202 : LV RL 202 mX11_back 0 := ⟨lb_X11_back, List.mem_filter.mpr ⟨List.mem_append_right _ (tbi6 _ (List.mem_of_getElem? (i := 75) rfl)), rfl⟩, List.mem_filter.mpr ⟨List.mem_append_right _ (tbi6 _ (List.mem_of_getElem? (i := 76) rfl)), rfl⟩, Or.inl (List.mem_filter.mpr ⟨List.mem_append_right _ (tbi6 _ (List.mem_of_getElem? (i := 74) rfl)), rfl⟩)⟩
theorem lb_X12_back : LB mX12_back 0 := ⟨List.mem_filter.mpr ⟨List.mem_append_right _ (tbi1 _ (List.mem_of_getElem? (i := 13) rfl)), rfl⟩, List.mem_filter.mpr ⟨List.mem_append_right _ (tbi8 _ (List.mem_of_getElem? (i := 190) rfl)), rfl⟩, ⟨by decide +kernel, by decide +kernel⟩, by decide +kernel, by decide⟩
theorem lv_RL_205 : LV RL 205 mX12_back 0 := ⟨lb_X12_back, List.mem_filter.mpr ⟨List.mem_append_right _ (tbi8 _ (List.mem_of_getElem? (i := 188) rfl)), rfl⟩, List.mem_filter.mpr ⟨List.mem_append_right _ (tbi8 _ (List.mem_of_getElem? (i := 189) rfl)), rfl⟩, Or.inl (List.mem_filter.mpr ⟨List.mem_append_right _ (tbi8 _ (List.mem_of_getElem? (i := 187) rfl)), rfl⟩)⟩
theorem cn_RL_32 : Cond.constantLong RL 32 (4294967295) ∈ lw_good := List.mem_filter.mpr ⟨List.mem_append_right _ (tbi8 _ (List.mem_of_getElem? (i := 191) rfl)), rfl⟩
noncomputable def J_L_law_870 (h : Hp) (x0 : Nat) (x0L : Nat) (x0x : Nat → Int32) (x1 : Nat) (x2 : Nat) (x3 : Int32) (s0 : Nat) (s1 : Int32) (s2 : Int32) : Option ((Hp × Int32) ⊕ (Hp × Int32)) :=
  (F_X11_pass h s0 s1 s2).bind (fun r1 => gd (ib (x3 + ((1 : Int32))) x0L) (gd (ib (x3 + ((2 : Int32))) x0L) (if (x0x (nx (x3 + ((2 : Int32))))) = 0 then (F_X12_pass r1.1 x2 (x0x (nx (x3 + ((1 : Int32))))) ((0 : Int32))).bind (fun r2 => if r1.2 = r2.2 then some (.inl (r2.1, x3 + (6 : Int32))) else some (.inr ((r2.1, (0 : Int32))))) else (F_X12_pass r1.1 x2 (x0x (nx (x3 + ((1 : Int32))))) ((1 : Int32))).bind (fun r3 => if r1.2 = r3.2 then some (.inl (r3.1, x3 + (6 : Int32))) else some (.inr ((r3.1, (0 : Int32))))))))
set_option maxHeartbeats 4000000 in
set_option maxRecDepth 100000 in
theorem go_L_law_J870 {Γ : Cx} (hO : Ok Γ mL_law) (h : Hp) (x0 : Nat) (x0L : Nat) (x0x : Nat → Int32) (x1 : Nat) (x2 : Nat) (x3 : Int32) (s0 : Nat) (s1 : Int32) (s2 : Int32) (hx0 : PX Γ x0 x0L x0x) (hx1 : Is x1 11) (hx2 : Is x2 12) (hs0 : Is s0 11) {K : (Hp × Int32) ⊕ (Hp × Int32) → Prop} (hC : ∀ (h : Hp) (x3 : Int32), K (.inl (h, x3)) → EW Γ mL_law 18 [(0, .ref x0), (1, rf Γ x1), (2, rf Γ x2), (3, .int x3)] [] h) (hR : ∀ r, K (.inr r) → emHI r = tgt Γ) : EG Γ mL_law 870 [(0, .ref x0), (1, rf Γ x1), (2, rf Γ x2), (3, .int x3)] [.int s2, .int s1, rf Γ s0] h (J_L_law_870 h x0 x0L x0x x1 x2 x3 s0 s1 s2) K := by
  unfold J_L_law_870
  refine y_HI (x_callV hO lv_RL_98 hs0 vc_11 (by decide) (As := [.int s1, .int s2]) rfl (Nat.le_of_ble_eq_true rfl) (ok_X11_pass (cG Γ) h s0 s1 s2 hs0) dL_law_870 rfl (Nat.le_of_ble_eq_true rfl)) (fun r1 => ?_)
  refine x_aload_n hO 2 rfl rfl dL_law_873 ?_
  refine x_aload_n hO 0 rfl rfl dL_law_874 ?_
  refine x_iload_n hO 3 rfl rfl dL_law_875 ?_
  refine x_iconst hO (v := 1) (by decide) dL_law_876 ?_
  refine x_iadd hO dL_law_877 ?_
  refine x_pald hO hx0 dL_law_878 ?_
  refine x_aload_n hO 0 rfl rfl dL_law_879 ?_
  refine x_iload_n hO 3 rfl rfl dL_law_880 ?_
  refine x_iconst hO (v := 2) (by decide) dL_law_881 ?_
  refine x_iadd hO dL_law_882 ?_
  refine x_pald hO hx0 dL_law_883 ?_
  refine x_if_eq hO (tg := 891) dL_law_884 (by decide) ?_ ?_
  · refine x_iconst hO (v := 0) (by decide) dL_law_891 ?_
    refine y_HI (x_callV hO lv_RL_102 hx2 vc_12 (by decide) (As := [.int (x0x (nx (x3 + ((1 : Int32))))), .int ((0 : Int32))]) rfl (Nat.le_of_ble_eq_true rfl) (ok_X12_pass (cG Γ) r1.1 x2 (x0x (nx (x3 + ((1 : Int32))))) ((0 : Int32)) hx2) dL_law_892 rfl (Nat.le_of_ble_eq_true rfl)) (fun r2 => ?_)
    refine x_icmp_eq hO (tg := 1736) dL_law_895 (by decide) ?_ ?_
    · refine x_iinc hO 3 (v := 6) [(3, .int (x3 + (6 : Int32))), (0, .ref x0), (1, rf Γ x1), (2, rf Γ x2)] dL_law_1736 rfl (by decide) (by decide) rfl ?_
      refine x_goto hO (tg := 18) dL_law_1739 (by decide) ?_
      exact x_leafs [1, 2, 3, 0] rfl (hC r2.1 (x3 + (6 : Int32)))
    · refine x_iconst hO (v := 0) (by decide) dL_law_898 ?_
      exact x_zretv hO rfl (by decide) dL_law_899 (hR _)
  · refine x_iconst hO (v := 1) (by decide) dL_law_887 ?_
    refine x_goto hO (tg := 892) dL_law_888 (by decide) ?_
    refine y_HI (x_callV hO lv_RL_102 hx2 vc_12 (by decide) (As := [.int (x0x (nx (x3 + ((1 : Int32))))), .int ((1 : Int32))]) rfl (Nat.le_of_ble_eq_true rfl) (ok_X12_pass (cG Γ) r1.1 x2 (x0x (nx (x3 + ((1 : Int32))))) ((1 : Int32)) hx2) dL_law_892 rfl (Nat.le_of_ble_eq_true rfl)) (fun r3 => ?_)
    refine x_icmp_eq hO (tg := 1736) dL_law_895 (by decide) ?_ ?_
    · refine x_iinc hO 3 (v := 6) [(3, .int (x3 + (6 : Int32))), (0, .ref x0), (1, rf Γ x1), (2, rf Γ x2)] dL_law_1736 rfl (by decide) (by decide) rfl ?_
      refine x_goto hO (tg := 18) dL_law_1739 (by decide) ?_
      exact x_leafs [1, 2, 3, 0] rfl (hC r3.1 (x3 + (6 : Int32)))
    · refine x_iconst hO (v := 0) (by decide) dL_law_898 ?_
      exact x_zretv hO rfl (by decide) dL_law_899 (hR _)
noncomputable def B_L_law_18 (h : Hp) (x0 : Nat) (x0L : Nat) (x0x : Nat → Int32) (x1 : Nat) (x2 : Nat) (x3 : Int32) : Option ((Hp × Int32) ⊕ (Hp × Int32)) :=
  if ((nI x0L) - ((6 : Int32))) < x3 then some (.inr ((h, (1 : Int32)))) else gd (ib x3 x0L) (swt ((x0x (nx x3)) &&& ((63 : Int32))) 0 [(F_X11_status h x1).bind (fun r1 => (F_X12_status h x2).bind (fun r2 => if r1 = r2 then some (.inl (h, x3 + (6 : Int32))) else some (.inr ((h, (0 : Int32)))))), (F_X11_top h x1).bind (fun r3 => (F_X12_top h x2).bind (fun r4 => if (lg_cmp r3 r4) = 0 then some (.inl (h, x3 + (6 : Int32))) else some (.inr ((h, (0 : Int32)))))), (F_X11_bottom h x1).bind (fun r5 => (F_X12_bottom h x2).bind (fun r6 => if (lg_cmp r5 r6) = 0 then some (.inl (h, x3 + (6 : Int32))) else some (.inr ((h, (0 : Int32)))))), gd (ib (x3 + ((1 : Int32))) x0L) (gd (ib (x3 + ((2 : Int32))) x0L) (gd (ib (x3 + ((3 : Int32))) x0L) ((F_X11_tray h x1 (x0x (nx (x3 + ((1 : Int32))))) (x0x (nx (x3 + ((2 : Int32))))) (x0x (nx (x3 + ((3 : Int32)))))).bind (fun r7 => gd (ib (x3 + ((1 : Int32))) x0L) (gd (ib (x3 + ((2 : Int32))) x0L) (gd (ib (x3 + ((3 : Int32))) x0L) ((F_X12_tray r7.1 x2 (x0x (nx (x3 + ((1 : Int32))))) (x0x (nx (x3 + ((2 : Int32))))) (x0x (nx (x3 + ((3 : Int32)))))).bind (fun r8 => if r7.2 = r8.2 then some (.inl (r8.1, x3 + (6 : Int32))) else some (.inr ((r8.1, (0 : Int32)))))))))))), gd (ib (x3 + ((1 : Int32))) x0L) (gd (ib (x3 + ((2 : Int32))) x0L) (gd (ib (x3 + ((3 : Int32))) x0L) (gd (ib (x3 + ((4 : Int32))) x0L) ((F_X11_write h x1 (x0x (nx (x3 + ((1 : Int32))))) (x0x (nx (x3 + ((2 : Int32))))) ((((x0x (nx (x3 + ((3 : Int32))))).toInt64) <<< (((32 : Int32)).toInt64 &&& 63)) ||| (((x0x (nx (x3 + ((4 : Int32))))).toInt64) &&& ((4294967295 : Int64))))).bind (fun r9 => gd (ib (x3 + ((1 : Int32))) x0L) (gd (ib (x3 + ((2 : Int32))) x0L) (gd (ib (x3 + ((3 : Int32))) x0L) (gd (ib (x3 + ((4 : Int32))) x0L) ((F_X12_write r9.1 x2 (x0x (nx (x3 + ((1 : Int32))))) (x0x (nx (x3 + ((2 : Int32))))) ((((x0x (nx (x3 + ((3 : Int32))))).toInt64) <<< (((32 : Int32)).toInt64 &&& 63)) ||| (((x0x (nx (x3 + ((4 : Int32))))).toInt64) &&& ((4294967295 : Int64))))).bind (fun r10 => if r9.2 = r10.2 then some (.inl (r10.1, x3 + (6 : Int32))) else some (.inr ((r10.1, (0 : Int32)))))))))))))), gd (ib (x3 + ((1 : Int32))) x0L) (gd (ib (x3 + ((2 : Int32))) x0L) ((F_X11_read h x1 (x0x (nx (x3 + ((1 : Int32))))) (x0x (nx (x3 + ((2 : Int32)))))).bind (fun r11 => gd (ib (x3 + ((1 : Int32))) x0L) (gd (ib (x3 + ((2 : Int32))) x0L) ((F_X12_read r11.1 x2 (x0x (nx (x3 + ((1 : Int32))))) (x0x (nx (x3 + ((2 : Int32)))))).bind (fun r12 => if (lg_cmp r11.2 r12.2) = 0 then some (.inl (r12.1, x3 + (6 : Int32))) else some (.inr ((r12.1, (0 : Int32)))))))))), gd (ib (x3 + ((1 : Int32))) x0L) (gd (ib (x3 + ((2 : Int32))) x0L) (gd (ib (x3 + ((3 : Int32))) x0L) (gd (ib (x3 + ((4 : Int32))) x0L) (gd (ib (x3 + ((5 : Int32))) x0L) ((F_X11_pour h x1 (x0x (nx (x3 + ((1 : Int32))))) (x0x (nx (x3 + ((2 : Int32))))) (x0x (nx (x3 + ((3 : Int32))))) (x0x (nx (x3 + ((4 : Int32))))) (x0x (nx (x3 + ((5 : Int32)))))).bind (fun r13 => gd (ib (x3 + ((1 : Int32))) x0L) (gd (ib (x3 + ((2 : Int32))) x0L) (gd (ib (x3 + ((3 : Int32))) x0L) (gd (ib (x3 + ((4 : Int32))) x0L) (gd (ib (x3 + ((5 : Int32))) x0L) ((F_X12_pour r13.1 x2 (x0x (nx (x3 + ((1 : Int32))))) (x0x (nx (x3 + ((2 : Int32))))) (x0x (nx (x3 + ((3 : Int32))))) (x0x (nx (x3 + ((4 : Int32))))) (x0x (nx (x3 + ((5 : Int32)))))).bind (fun r14 => if r13.2 = r14.2 then some (.inl (r14.1, x3 + (6 : Int32))) else some (.inr ((r14.1, (0 : Int32)))))))))))))))), gd (ib (x3 + ((1 : Int32))) x0L) (gd (ib (x3 + ((2 : Int32))) x0L) (gd (ib (x3 + ((3 : Int32))) x0L) ((F_X11_punch h x1 (x0x (nx (x3 + ((1 : Int32))))) (x0x (nx (x3 + ((2 : Int32))))) (x0x (nx (x3 + ((3 : Int32)))))).bind (fun r15 => gd (ib (x3 + ((1 : Int32))) x0L) (gd (ib (x3 + ((2 : Int32))) x0L) (gd (ib (x3 + ((3 : Int32))) x0L) ((F_X12_punch r15.1 x2 (x0x (nx (x3 + ((1 : Int32))))) (x0x (nx (x3 + ((2 : Int32))))) (x0x (nx (x3 + ((3 : Int32)))))).bind (fun r16 => if r15.2 = r16.2 then some (.inl (r16.1, x3 + (6 : Int32))) else some (.inr ((r16.1, (0 : Int32)))))))))))), gd (ib (x3 + ((1 : Int32))) x0L) (gd (ib (x3 + ((2 : Int32))) x0L) (gd (ib (x3 + ((3 : Int32))) x0L) ((F_X11_holes h x1 (x0x (nx (x3 + ((1 : Int32))))) (x0x (nx (x3 + ((2 : Int32))))) (x0x (nx (x3 + ((3 : Int32)))))).bind (fun r17 => gd (ib (x3 + ((1 : Int32))) x0L) (gd (ib (x3 + ((2 : Int32))) x0L) (gd (ib (x3 + ((3 : Int32))) x0L) ((F_X12_holes r17.1 x2 (x0x (nx (x3 + ((1 : Int32))))) (x0x (nx (x3 + ((2 : Int32))))) (x0x (nx (x3 + ((3 : Int32)))))).bind (fun r18 => if r17.2 = r18.2 then some (.inl (r18.1, x3 + (6 : Int32))) else some (.inr ((r18.1, (0 : Int32)))))))))))), gd (ib (x3 + ((1 : Int32))) x0L) (gd (ib (x3 + ((2 : Int32))) x0L) ((F_X11_card h x1 (x0x (nx (x3 + ((1 : Int32))))) (x0x (nx (x3 + ((2 : Int32)))))).bind (fun r19 => gd (ib (x3 + ((1 : Int32))) x0L) (gd (ib (x3 + ((2 : Int32))) x0L) ((F_X12_card r19.1 x2 (x0x (nx (x3 + ((1 : Int32))))) (x0x (nx (x3 + ((2 : Int32)))))).bind (fun r20 => if r19.2 = r20.2 then some (.inl (r20.1, x3 + (6 : Int32))) else some (.inr ((r20.1, (0 : Int32)))))))))), gd (ib (x3 + ((1 : Int32))) x0L) ((F_X11_lies h x1 (x0x (nx (x3 + ((1 : Int32)))))).bind (fun r21 => gd (ib (x3 + ((1 : Int32))) x0L) ((F_X12_lies r21.1 x2 (x0x (nx (x3 + ((1 : Int32)))))).bind (fun r22 => if r21.2 = r22.2 then some (.inl (r22.1, x3 + (6 : Int32))) else some (.inr ((r22.1, (0 : Int32)))))))), gd (ib (x3 + ((1 : Int32))) x0L) (gd (ib (x3 + ((2 : Int32))) x0L) ((F_X11_exchange h x1 (x0x (nx (x3 + ((1 : Int32))))) (x0x (nx (x3 + ((2 : Int32)))))).bind (fun r23 => gd (ib (x3 + ((1 : Int32))) x0L) (gd (ib (x3 + ((2 : Int32))) x0L) ((F_X12_exchange r23.1 x2 (x0x (nx (x3 + ((1 : Int32))))) (x0x (nx (x3 + ((2 : Int32)))))).bind (fun r24 => if r23.2 = r24.2 then some (.inl (r24.1, x3 + (6 : Int32))) else some (.inr ((r24.1, (0 : Int32)))))))))), gd (ib (x3 + ((1 : Int32))) x0L) (gd (ib (x3 + ((2 : Int32))) x0L) (gd (ib (x3 + ((3 : Int32))) x0L) (gd (ib (x3 + ((4 : Int32))) x0L) (gd (ib (x3 + ((5 : Int32))) x0L) ((F_X11_feed h x1 (x0x (nx (x3 + ((1 : Int32))))) (x0x (nx (x3 + ((2 : Int32))))) (x0x (nx (x3 + ((3 : Int32))))) (x0x (nx (x3 + ((4 : Int32))))) (x0x (nx (x3 + ((5 : Int32)))))).bind (fun r25 => gd (ib (x3 + ((1 : Int32))) x0L) (gd (ib (x3 + ((2 : Int32))) x0L) (gd (ib (x3 + ((3 : Int32))) x0L) (gd (ib (x3 + ((4 : Int32))) x0L) (gd (ib (x3 + ((5 : Int32))) x0L) ((F_X12_feed r25.1 x2 (x0x (nx (x3 + ((1 : Int32))))) (x0x (nx (x3 + ((2 : Int32))))) (x0x (nx (x3 + ((3 : Int32))))) (x0x (nx (x3 + ((4 : Int32))))) (x0x (nx (x3 + ((5 : Int32)))))).bind (fun r26 => if r25.2 = r26.2 then some (.inl (r26.1, x3 + (6 : Int32))) else some (.inr ((r26.1, (0 : Int32)))))))))))))))), gd (ib (x3 + ((1 : Int32))) x0L) ((F_X11_book h x1 (x0x (nx (x3 + ((1 : Int32)))))).bind (fun r27 => gd (ib (x3 + ((1 : Int32))) x0L) ((F_X12_book r27.1 x2 (x0x (nx (x3 + ((1 : Int32)))))).bind (fun r28 => if r27.2 = r28.2 then some (.inl (r28.1, x3 + (6 : Int32))) else some (.inr ((r28.1, (0 : Int32)))))))), gd (ib (x3 + ((1 : Int32))) x0L) ((F_X11_fault h x1 (x0x (nx (x3 + ((1 : Int32)))))).bind (fun r29 => gd (ib (x3 + ((1 : Int32))) x0L) ((F_X12_fault h x2 (x0x (nx (x3 + ((1 : Int32)))))).bind (fun r30 => if r29 = r30 then some (.inl (h, x3 + (6 : Int32))) else some (.inr ((h, (0 : Int32)))))))), gd (ib (x3 + ((1 : Int32))) x0L) ((F_X11_many h x1 (x0x (nx (x3 + ((1 : Int32)))))).bind (fun r31 => gd (ib (x3 + ((1 : Int32))) x0L) ((F_X12_many r31.1 x2 (x0x (nx (x3 + ((1 : Int32)))))).bind (fun r32 => if r31.2 = r32.2 then some (.inl (r32.1, x3 + (6 : Int32))) else some (.inr ((r32.1, (0 : Int32)))))))), gd (ib (x3 + ((1 : Int32))) x0L) (gd (ib (x3 + ((2 : Int32))) x0L) ((F_X11_code h x1 (x0x (nx (x3 + ((1 : Int32))))) (x0x (nx (x3 + ((2 : Int32)))))).bind (fun r33 => gd (ib (x3 + ((1 : Int32))) x0L) (gd (ib (x3 + ((2 : Int32))) x0L) ((F_X12_code r33.1 x2 (x0x (nx (x3 + ((1 : Int32))))) (x0x (nx (x3 + ((2 : Int32)))))).bind (fun r34 => if r33.2 = r34.2 then some (.inl (r34.1, x3 + (6 : Int32))) else some (.inr ((r34.1, (0 : Int32)))))))))), gd (ib (x3 + ((1 : Int32))) x0L) (gd (ib (x3 + ((2 : Int32))) x0L) ((F_X11_mean h x1 (x0x (nx (x3 + ((1 : Int32))))) (x0x (nx (x3 + ((2 : Int32)))))).bind (fun r35 => gd (ib (x3 + ((1 : Int32))) x0L) (gd (ib (x3 + ((2 : Int32))) x0L) ((F_X12_mean r35.1 x2 (x0x (nx (x3 + ((1 : Int32))))) (x0x (nx (x3 + ((2 : Int32)))))).bind (fun r36 => if r35.2 = r36.2 then some (.inl (r36.1, x3 + (6 : Int32))) else some (.inr ((r36.1, (0 : Int32)))))))))), gd (ib (x3 + ((1 : Int32))) x0L) (gd (ib (x3 + ((2 : Int32))) x0L) (if (x0x (nx (x3 + ((2 : Int32))))) = 0 then J_L_law_870 h x0 x0L x0x x1 x2 x3 x1 (x0x (nx (x3 + ((1 : Int32))))) ((0 : Int32)) else J_L_law_870 h x0 x0L x0x x1 x2 x3 x1 (x0x (nx (x3 + ((1 : Int32))))) ((1 : Int32)))), gd (ib (x3 + ((1 : Int32))) x0L) (gd (ib (x3 + ((2 : Int32))) x0L) ((F_X11_ordered h x1 (x0x (nx (x3 + ((1 : Int32))))) (x0x (nx (x3 + ((2 : Int32)))))).bind (fun r37 => gd (ib (x3 + ((1 : Int32))) x0L) (gd (ib (x3 + ((2 : Int32))) x0L) ((F_X12_ordered r37.1 x2 (x0x (nx (x3 + ((1 : Int32))))) (x0x (nx (x3 + ((2 : Int32)))))).bind (fun r38 => if r37.2 = r38.2 then some (.inl (r38.1, x3 + (6 : Int32))) else some (.inr ((r38.1, (0 : Int32)))))))))), gd (ib (x3 + ((1 : Int32))) x0L) (gd (ib (x3 + ((2 : Int32))) x0L) ((F_X11_plan h x1 (x0x (nx (x3 + ((1 : Int32))))) (x0x (nx (x3 + ((2 : Int32)))))).bind (fun r39 => gd (ib (x3 + ((1 : Int32))) x0L) (gd (ib (x3 + ((2 : Int32))) x0L) ((F_X12_plan r39.1 x2 (x0x (nx (x3 + ((1 : Int32))))) (x0x (nx (x3 + ((2 : Int32)))))).bind (fun r40 => if r39.2 = r40.2 then some (.inl (r40.1, x3 + (6 : Int32))) else some (.inr ((r40.1, (0 : Int32)))))))))), gd (ib (x3 + ((1 : Int32))) x0L) ((F_X11_planned h x1 (x0x (nx (x3 + ((1 : Int32)))))).bind (fun r41 => gd (ib (x3 + ((1 : Int32))) x0L) ((F_X12_planned r41.1 x2 (x0x (nx (x3 + ((1 : Int32)))))).bind (fun r42 => if r41.2 = r42.2 then some (.inl (r42.1, x3 + (6 : Int32))) else some (.inr ((r42.1, (0 : Int32)))))))), gd (ib (x3 + ((1 : Int32))) x0L) (gd (ib (x3 + ((2 : Int32))) x0L) (gd (ib (x3 + ((3 : Int32))) x0L) ((F_X11_field h x1 (x0x (nx (x3 + ((1 : Int32))))) (x0x (nx (x3 + ((2 : Int32))))) (x0x (nx (x3 + ((3 : Int32)))))).bind (fun r43 => gd (ib (x3 + ((1 : Int32))) x0L) (gd (ib (x3 + ((2 : Int32))) x0L) (gd (ib (x3 + ((3 : Int32))) x0L) ((F_X12_field r43.1 x2 (x0x (nx (x3 + ((1 : Int32))))) (x0x (nx (x3 + ((2 : Int32))))) (x0x (nx (x3 + ((3 : Int32)))))).bind (fun r44 => if r43.2 = r44.2 then some (.inl (r44.1, x3 + (6 : Int32))) else some (.inr ((r44.1, (0 : Int32)))))))))))), gd (ib (x3 + ((1 : Int32))) x0L) (gd (ib (x3 + ((2 : Int32))) x0L) (gd (ib (x3 + ((3 : Int32))) x0L) (gd (ib (x3 + ((4 : Int32))) x0L) ((F_X11_sum h x1 (x0x (nx (x3 + ((1 : Int32))))) (x0x (nx (x3 + ((2 : Int32))))) (x0x (nx (x3 + ((3 : Int32))))) (x0x (nx (x3 + ((4 : Int32)))))).bind (fun r45 => gd (ib (x3 + ((1 : Int32))) x0L) (gd (ib (x3 + ((2 : Int32))) x0L) (gd (ib (x3 + ((3 : Int32))) x0L) (gd (ib (x3 + ((4 : Int32))) x0L) ((F_X12_sum r45.1 x2 (x0x (nx (x3 + ((1 : Int32))))) (x0x (nx (x3 + ((2 : Int32))))) (x0x (nx (x3 + ((3 : Int32))))) (x0x (nx (x3 + ((4 : Int32)))))).bind (fun r46 => if r45.2 = r46.2 then some (.inl (r46.1, x3 + (6 : Int32))) else some (.inr ((r46.1, (0 : Int32)))))))))))))), gd (ib (x3 + ((1 : Int32))) x0L) (gd (ib (x3 + ((2 : Int32))) x0L) (gd (ib (x3 + ((3 : Int32))) x0L) (gd (ib (x3 + ((4 : Int32))) x0L) (gd (ib (x3 + ((5 : Int32))) x0L) ((F_X11_pocket h x1 (x0x (nx (x3 + ((1 : Int32))))) (x0x (nx (x3 + ((2 : Int32))))) (x0x (nx (x3 + ((3 : Int32))))) (x0x (nx (x3 + ((4 : Int32))))) (x0x (nx (x3 + ((5 : Int32)))))).bind (fun r47 => gd (ib (x3 + ((1 : Int32))) x0L) (gd (ib (x3 + ((2 : Int32))) x0L) (gd (ib (x3 + ((3 : Int32))) x0L) (gd (ib (x3 + ((4 : Int32))) x0L) (gd (ib (x3 + ((5 : Int32))) x0L) ((F_X12_pocket r47.1 x2 (x0x (nx (x3 + ((1 : Int32))))) (x0x (nx (x3 + ((2 : Int32))))) (x0x (nx (x3 + ((3 : Int32))))) (x0x (nx (x3 + ((4 : Int32))))) (x0x (nx (x3 + ((5 : Int32)))))).bind (fun r48 => if r47.2 = r48.2 then some (.inl (r48.1, x3 + (6 : Int32))) else some (.inr ((r48.1, (0 : Int32)))))))))))))))), gd (ib (x3 + ((1 : Int32))) x0L) (gd (ib (x3 + ((2 : Int32))) x0L) ((F_X11_collate h x1 (x0x (nx (x3 + ((1 : Int32))))) (x0x (nx (x3 + ((2 : Int32)))))).bind (fun r49 => gd (ib (x3 + ((1 : Int32))) x0L) (gd (ib (x3 + ((2 : Int32))) x0L) ((F_X12_collate r49.1 x2 (x0x (nx (x3 + ((1 : Int32))))) (x0x (nx (x3 + ((2 : Int32)))))).bind (fun r50 => if r49.2 = r50.2 then some (.inl (r50.1, x3 + (6 : Int32))) else some (.inr ((r50.1, (0 : Int32)))))))))), gd (ib (x3 + ((1 : Int32))) x0L) (gd (ib (x3 + ((2 : Int32))) x0L) (gd (ib (x3 + ((3 : Int32))) x0L) ((F_X11_matched h x1 (x0x (nx (x3 + ((1 : Int32))))) (x0x (nx (x3 + ((2 : Int32))))) (x0x (nx (x3 + ((3 : Int32)))))).bind (fun r51 => gd (ib (x3 + ((1 : Int32))) x0L) (gd (ib (x3 + ((2 : Int32))) x0L) (gd (ib (x3 + ((3 : Int32))) x0L) ((F_X12_matched r51.1 x2 (x0x (nx (x3 + ((1 : Int32))))) (x0x (nx (x3 + ((2 : Int32))))) (x0x (nx (x3 + ((3 : Int32)))))).bind (fun r52 => if r51.2 = r52.2 then some (.inl (r52.1, x3 + (6 : Int32))) else some (.inr ((r52.1, (0 : Int32)))))))))))), gd (ib (x3 + ((1 : Int32))) x0L) ((F_X11_program h x1 (x0x (nx (x3 + ((1 : Int32)))))).bind (fun r53 => gd (ib (x3 + ((1 : Int32))) x0L) ((F_X12_program r53.1 x2 (x0x (nx (x3 + ((1 : Int32)))))).bind (fun r54 => if r53.2 = r54.2 then some (.inl (r54.1, x3 + (6 : Int32))) else some (.inr ((r54.1, (0 : Int32)))))))), (F_X11_run h x1).bind (fun r55 => (F_X12_run r55.1 x2).bind (fun r56 => if r55.2 = r56.2 then some (.inl (r56.1, x3 + (6 : Int32))) else some (.inr ((r56.1, (0 : Int32)))))), gd (ib (x3 + ((1 : Int32))) x0L) ((F_X11_ran h x1 (x0x (nx (x3 + ((1 : Int32)))))).bind (fun r57 => gd (ib (x3 + ((1 : Int32))) x0L) ((F_X12_ran r57.1 x2 (x0x (nx (x3 + ((1 : Int32)))))).bind (fun r58 => if (lg_cmp r57.2 r58.2) = 0 then some (.inl (r58.1, x3 + (6 : Int32))) else some (.inr ((r58.1, (0 : Int32)))))))), gd (ib (x3 + ((1 : Int32))) x0L) (gd (ib (x3 + ((2 : Int32))) x0L) ((F_X11_fewest h x1 (x0x (nx (x3 + ((1 : Int32))))) (x0x (nx (x3 + ((2 : Int32)))))).bind (fun r59 => gd (ib (x3 + ((1 : Int32))) x0L) (gd (ib (x3 + ((2 : Int32))) x0L) ((F_X12_fewest r59.1 x2 (x0x (nx (x3 + ((1 : Int32))))) (x0x (nx (x3 + ((2 : Int32)))))).bind (fun r60 => if r59.2 = r60.2 then some (.inl (r60.1, x3 + (6 : Int32))) else some (.inr ((r60.1, (0 : Int32)))))))))), gd (ib (x3 + ((1 : Int32))) x0L) ((F_X11_misread h x1 (x0x (nx (x3 + ((1 : Int32)))))).bind (fun r61 => gd (ib (x3 + ((1 : Int32))) x0L) ((F_X12_misread r61.1 x2 (x0x (nx (x3 + ((1 : Int32)))))).bind (fun r62 => if r61.2 = r62.2 then some (.inl (r62.1, x3 + (6 : Int32))) else some (.inr ((r62.1, (0 : Int32)))))))), gd (ib (x3 + ((1 : Int32))) x0L) (gd (ib (x3 + ((2 : Int32))) x0L) ((F_X11_parts h x1 (x0x (nx (x3 + ((1 : Int32))))) (x0x (nx (x3 + ((2 : Int32)))))).bind (fun r63 => gd (ib (x3 + ((1 : Int32))) x0L) (gd (ib (x3 + ((2 : Int32))) x0L) ((F_X12_parts r63.1 x2 (x0x (nx (x3 + ((1 : Int32))))) (x0x (nx (x3 + ((2 : Int32)))))).bind (fun r64 => if r63.2 = r64.2 then some (.inl (r64.1, x3 + (6 : Int32))) else some (.inr ((r64.1, (0 : Int32)))))))))), gd (ib (x3 + ((1 : Int32))) x0L) ((F_X11_parted h x1 (x0x (nx (x3 + ((1 : Int32)))))).bind (fun r65 => gd (ib (x3 + ((1 : Int32))) x0L) ((F_X12_parted r65.1 x2 (x0x (nx (x3 + ((1 : Int32)))))).bind (fun r66 => if r65.2 = r66.2 then some (.inl (r66.1, x3 + (6 : Int32))) else some (.inr ((r66.1, (0 : Int32)))))))), gd (ib (x3 + ((1 : Int32))) x0L) (gd (ib (x3 + ((2 : Int32))) x0L) (gd (ib (x3 + ((3 : Int32))) x0L) (gd (ib (x3 + ((4 : Int32))) x0L) (gd (ib (x3 + ((5 : Int32))) x0L) ((F_X11_lost h x1 (x0x (nx (x3 + ((1 : Int32))))) (x0x (nx (x3 + ((2 : Int32))))) (x0x (nx (x3 + ((3 : Int32))))) (x0x (nx (x3 + ((4 : Int32))))) (x0x (nx (x3 + ((5 : Int32)))))).bind (fun r67 => gd (ib (x3 + ((1 : Int32))) x0L) (gd (ib (x3 + ((2 : Int32))) x0L) (gd (ib (x3 + ((3 : Int32))) x0L) (gd (ib (x3 + ((4 : Int32))) x0L) (gd (ib (x3 + ((5 : Int32))) x0L) ((F_X12_lost r67.1 x2 (x0x (nx (x3 + ((1 : Int32))))) (x0x (nx (x3 + ((2 : Int32))))) (x0x (nx (x3 + ((3 : Int32))))) (x0x (nx (x3 + ((4 : Int32))))) (x0x (nx (x3 + ((5 : Int32)))))).bind (fun r68 => if r67.2 = r68.2 then some (.inl (r68.1, x3 + (6 : Int32))) else some (.inr ((r68.1, (0 : Int32)))))))))))))))), gd (ib (x3 + ((1 : Int32))) x0L) (gd (ib (x3 + ((2 : Int32))) x0L) (gd (ib (x3 + ((3 : Int32))) x0L) ((F_X11_meaning h x1 (x0x (nx (x3 + ((1 : Int32))))) (x0x (nx (x3 + ((2 : Int32))))) (x0x (nx (x3 + ((3 : Int32)))))).bind (fun r69 => gd (ib (x3 + ((1 : Int32))) x0L) (gd (ib (x3 + ((2 : Int32))) x0L) (gd (ib (x3 + ((3 : Int32))) x0L) ((F_X12_meaning r69.1 x2 (x0x (nx (x3 + ((1 : Int32))))) (x0x (nx (x3 + ((2 : Int32))))) (x0x (nx (x3 + ((3 : Int32)))))).bind (fun r70 => if r69.2 = r70.2 then some (.inl (r70.1, x3 + (6 : Int32))) else some (.inr ((r70.1, (0 : Int32)))))))))))), gd (ib (x3 + ((1 : Int32))) x0L) (gd (ib (x3 + ((2 : Int32))) x0L) ((F_X11_joined h x1 (x0x (nx (x3 + ((1 : Int32))))) (x0x (nx (x3 + ((2 : Int32)))))).bind (fun r71 => gd (ib (x3 + ((1 : Int32))) x0L) (gd (ib (x3 + ((2 : Int32))) x0L) ((F_X12_joined r71.1 x2 (x0x (nx (x3 + ((1 : Int32))))) (x0x (nx (x3 + ((2 : Int32)))))).bind (fun r72 => if r71.2 = r72.2 then some (.inl (r72.1, x3 + (6 : Int32))) else some (.inr ((r72.1, (0 : Int32)))))))))), gd (ib (x3 + ((1 : Int32))) x0L) (gd (ib (x3 + ((2 : Int32))) x0L) ((F_X11_count h x1 (x0x (nx (x3 + ((1 : Int32))))) (x0x (nx (x3 + ((2 : Int32)))))).bind (fun r73 => gd (ib (x3 + ((1 : Int32))) x0L) (gd (ib (x3 + ((2 : Int32))) x0L) ((F_X12_count r73.1 x2 (x0x (nx (x3 + ((1 : Int32))))) (x0x (nx (x3 + ((2 : Int32)))))).bind (fun r74 => if r73.2 = r74.2 then some (.inl (r74.1, x3 + (6 : Int32))) else some (.inr ((r74.1, (0 : Int32)))))))))), gd (ib (x3 + ((1 : Int32))) x0L) (gd (ib (x3 + ((2 : Int32))) x0L) (gd (ib (x3 + ((3 : Int32))) x0L) (gd (ib (x3 + ((4 : Int32))) x0L) ((F_X11_meant h x1 (x0x (nx (x3 + ((1 : Int32))))) (x0x (nx (x3 + ((2 : Int32))))) (x0x (nx (x3 + ((3 : Int32))))) (x0x (nx (x3 + ((4 : Int32)))))).bind (fun r75 => gd (ib (x3 + ((1 : Int32))) x0L) (gd (ib (x3 + ((2 : Int32))) x0L) (gd (ib (x3 + ((3 : Int32))) x0L) (gd (ib (x3 + ((4 : Int32))) x0L) ((F_X12_meant r75.1 x2 (x0x (nx (x3 + ((1 : Int32))))) (x0x (nx (x3 + ((2 : Int32))))) (x0x (nx (x3 + ((3 : Int32))))) (x0x (nx (x3 + ((4 : Int32)))))).bind (fun r76 => if r75.2 = r76.2 then some (.inl (r76.1, x3 + (6 : Int32))) else some (.inr ((r76.1, (0 : Int32)))))))))))))), gd (ib (x3 + ((1 : Int32))) x0L) ((F_X11_anew h x1 (x0x (nx (x3 + ((1 : Int32)))))).bind (fun r77 => gd (ib (x3 + ((1 : Int32))) x0L) ((F_X12_anew r77.1 x2 (x0x (nx (x3 + ((1 : Int32)))))).bind (fun r78 => if r77.2 = r78.2 then some (.inl (r78.1, x3 + (6 : Int32))) else some (.inr ((r78.1, (0 : Int32)))))))), gd (ib (x3 + ((1 : Int32))) x0L) (gd (ib (x3 + ((2 : Int32))) x0L) (gd (ib (x3 + ((3 : Int32))) x0L) ((F_X11_list h x1 (x0x (nx (x3 + ((1 : Int32))))) (x0x (nx (x3 + ((2 : Int32))))) (x0x (nx (x3 + ((3 : Int32)))))).bind (fun r79 => gd (ib (x3 + ((1 : Int32))) x0L) (gd (ib (x3 + ((2 : Int32))) x0L) (gd (ib (x3 + ((3 : Int32))) x0L) ((F_X12_list r79.1 x2 (x0x (nx (x3 + ((1 : Int32))))) (x0x (nx (x3 + ((2 : Int32))))) (x0x (nx (x3 + ((3 : Int32)))))).bind (fun r80 => if r79.2 = r80.2 then some (.inl (r80.1, x3 + (6 : Int32))) else some (.inr ((r80.1, (0 : Int32)))))))))))), gd (ib (x3 + ((1 : Int32))) x0L) ((F_X11_habit h x1 (x0x (nx (x3 + ((1 : Int32)))))).bind (fun r81 => gd (ib (x3 + ((1 : Int32))) x0L) ((F_X12_habit r81.1 x2 (x0x (nx (x3 + ((1 : Int32)))))).bind (fun r82 => if r81.2 = r82.2 then some (.inl (r82.1, x3 + (6 : Int32))) else some (.inr ((r82.1, (0 : Int32)))))))), (F_X11_mark h x1).bind (fun r83 => (F_X12_mark r83.1 x2).bind (fun r84 => if r83.2 = r84.2 then some (.inl (r84.1, x3 + (6 : Int32))) else some (.inr ((r84.1, (0 : Int32)))))), (F_X11_back h x1).bind (fun r85 => (F_X12_back r85.1 x2).bind (fun r86 => if r85.2 = r86.2 then some (.inl (r86.1, x3 + (6 : Int32))) else some (.inr ((r86.1, (0 : Int32))))))] (some (.inl (h, x3 + (6 : Int32)))))
noncomputable def L_L_law_18 (h : Hp) (x0 : Nat) (x0L : Nat) (x0x : Nat → Int32) (x1 : Nat) (x2 : Nat) (x3 : Int32) : Option (Hp × Int32) := iterW (fun s : Hp × Int32 => B_L_law_18 s.1 x0 x0L x0x x1 x2 s.2) (h, x3)
set_option maxHeartbeats 4000000 in
set_option maxRecDepth 100000 in
theorem go_L_law_B18 {Γ : Cx} (hO : Ok Γ mL_law) (h : Hp) (x0 : Nat) (x0L : Nat) (x0x : Nat → Int32) (x1 : Nat) (x2 : Nat) (x3 : Int32) (hx0 : PX Γ x0 x0L x0x) (hx1 : Is x1 11) (hx2 : Is x2 12) {K : (Hp × Int32) ⊕ (Hp × Int32) → Prop} (hC : ∀ (h : Hp) (x3 : Int32), K (.inl (h, x3)) → EW Γ mL_law 18 [(0, .ref x0), (1, rf Γ x1), (2, rf Γ x2), (3, .int x3)] [] h) (hR : ∀ r, K (.inr r) → emHI r = tgt Γ) : EG Γ mL_law 18 [(0, .ref x0), (1, rf Γ x1), (2, rf Γ x2), (3, .int x3)] [] h (B_L_law_18 h x0 x0L x0x x1 x2 x3) K := by
  unfold B_L_law_18
  refine x_iload_n hO 3 rfl rfl dL_law_18 ?_
  refine x_aload_n hO 0 rfl rfl dL_law_19 ?_
  refine x_plen hO hx0 dL_law_20 ?_
  refine x_bipush hO (v := 6) (by decide) dL_law_21 ?_
  refine x_isub hO dL_law_23 ?_
  refine x_icmp_gt hO (tg := 1742) dL_law_24 (by decide) ?_ ?_
  · refine x_iconst hO (v := 1) (by decide) dL_law_1742 ?_
    exact x_zretv hO rfl (by decide) dL_law_1743 (hR _)
  · refine x_aload_n hO 0 rfl rfl dL_law_27 ?_
    refine x_iload_n hO 3 rfl rfl dL_law_28 ?_
    refine x_pald hO hx0 dL_law_29 ?_
    refine x_bipush hO (v := 63) (by decide) dL_law_30 ?_
    refine x_iand hO dL_law_32 ?_
    refine x_tsw hO (tgs := [224, 237, 251, 265, 308, 381, 415, 478, 521, 564, 597, 620, 653, 716, 739, 762, 785, 818, 851, 900, 933, 966, 989, 1032, 1085, 1148, 1181, 1224, 1247, 1260, 1284, 1317, 1340, 1373, 1396, 1459, 1502, 1535, 1568, 1621, 1644, 1687, 1710, 1723]) (dt := 1736) dL_law_33 rfl (by decide) (by decide) ⟨?_, ?_, ?_, ?_, ?_, ?_, ?_, ?_, ?_, ?_, ?_, ?_, ?_, ?_, ?_, ?_, ?_, ?_, ?_, ?_, ?_, ?_, ?_, ?_, ?_, ?_, ?_, ?_, ?_, ?_, ?_, ?_, ?_, ?_, ?_, ?_, ?_, ?_, ?_, ?_, ?_, ?_, ?_, ?_, trivial⟩ ?_
    · refine x_aload_n hO 1 rfl rfl dL_law_224 ?_
      refine y_PI (x_callV hO lv_RL_13 hx1 vc_11 (by decide) (As := []) rfl (Nat.le_of_ble_eq_true rfl) (ok_X11_status (cG Γ) h x1 hx1) dL_law_225 rfl (Nat.le_of_ble_eq_true rfl)) (fun r1 => ?_)
      refine x_aload_n hO 2 rfl rfl dL_law_228 ?_
      refine y_PI (x_callV hO lv_RL_17 hx2 vc_12 (by decide) (As := []) rfl (Nat.le_of_ble_eq_true rfl) (ok_X12_status (cG Γ) h x2 hx2) dL_law_229 rfl (Nat.le_of_ble_eq_true rfl)) (fun r2 => ?_)
      refine x_icmp_eq hO (tg := 1736) dL_law_232 (by decide) ?_ ?_
      · refine x_iinc hO 3 (v := 6) [(3, .int (x3 + (6 : Int32))), (0, .ref x0), (1, rf Γ x1), (2, rf Γ x2)] dL_law_1736 rfl (by decide) (by decide) rfl ?_
        refine x_goto hO (tg := 18) dL_law_1739 (by decide) ?_
        exact x_leafs [1, 2, 3, 0] rfl (hC h (x3 + (6 : Int32)))
      · refine x_iconst hO (v := 0) (by decide) dL_law_235 ?_
        exact x_zretv hO rfl (by decide) dL_law_236 (hR _)
    · refine x_aload_n hO 1 rfl rfl dL_law_237 ?_
      refine y_PL (x_callV hO lv_RL_18 hx1 vc_11 (by decide) (As := []) rfl (Nat.le_of_ble_eq_true rfl) (ok_X11_top (cG Γ) h x1 hx1) dL_law_238 rfl (Nat.le_of_ble_eq_true rfl)) (fun r3 => ?_)
      refine x_aload_n hO 2 rfl rfl dL_law_241 ?_
      refine y_PL (x_callV hO lv_RL_22 hx2 vc_12 (by decide) (As := []) rfl (Nat.le_of_ble_eq_true rfl) (ok_X12_top (cG Γ) h x2 hx2) dL_law_242 rfl (Nat.le_of_ble_eq_true rfl)) (fun r4 => ?_)
      refine x_lcmp hO dL_law_245 ?_
      refine x_if_eq hO (tg := 1736) dL_law_246 (by decide) ?_ ?_
      · refine x_iinc hO 3 (v := 6) [(3, .int (x3 + (6 : Int32))), (0, .ref x0), (1, rf Γ x1), (2, rf Γ x2)] dL_law_1736 rfl (by decide) (by decide) rfl ?_
        refine x_goto hO (tg := 18) dL_law_1739 (by decide) ?_
        exact x_leafs [1, 2, 3, 0] rfl (hC h (x3 + (6 : Int32)))
      · refine x_iconst hO (v := 0) (by decide) dL_law_249 ?_
        exact x_zretv hO rfl (by decide) dL_law_250 (hR _)
    · refine x_aload_n hO 1 rfl rfl dL_law_251 ?_
      refine y_PL (x_callV hO lv_RL_23 hx1 vc_11 (by decide) (As := []) rfl (Nat.le_of_ble_eq_true rfl) (ok_X11_bottom (cG Γ) h x1 hx1) dL_law_252 rfl (Nat.le_of_ble_eq_true rfl)) (fun r5 => ?_)
      refine x_aload_n hO 2 rfl rfl dL_law_255 ?_
      refine y_PL (x_callV hO lv_RL_26 hx2 vc_12 (by decide) (As := []) rfl (Nat.le_of_ble_eq_true rfl) (ok_X12_bottom (cG Γ) h x2 hx2) dL_law_256 rfl (Nat.le_of_ble_eq_true rfl)) (fun r6 => ?_)
      refine x_lcmp hO dL_law_259 ?_
      refine x_if_eq hO (tg := 1736) dL_law_260 (by decide) ?_ ?_
      · refine x_iinc hO 3 (v := 6) [(3, .int (x3 + (6 : Int32))), (0, .ref x0), (1, rf Γ x1), (2, rf Γ x2)] dL_law_1736 rfl (by decide) (by decide) rfl ?_
        refine x_goto hO (tg := 18) dL_law_1739 (by decide) ?_
        exact x_leafs [1, 2, 3, 0] rfl (hC h (x3 + (6 : Int32)))
      · refine x_iconst hO (v := 0) (by decide) dL_law_263 ?_
        exact x_zretv hO rfl (by decide) dL_law_264 (hR _)
    · refine x_aload_n hO 1 rfl rfl dL_law_265 ?_
      refine x_aload_n hO 0 rfl rfl dL_law_266 ?_
      refine x_iload_n hO 3 rfl rfl dL_law_267 ?_
      refine x_iconst hO (v := 1) (by decide) dL_law_268 ?_
      refine x_iadd hO dL_law_269 ?_
      refine x_pald hO hx0 dL_law_270 ?_
      refine x_aload_n hO 0 rfl rfl dL_law_271 ?_
      refine x_iload_n hO 3 rfl rfl dL_law_272 ?_
      refine x_iconst hO (v := 2) (by decide) dL_law_273 ?_
      refine x_iadd hO dL_law_274 ?_
      refine x_pald hO hx0 dL_law_275 ?_
      refine x_aload_n hO 0 rfl rfl dL_law_276 ?_
      refine x_iload_n hO 3 rfl rfl dL_law_277 ?_
      refine x_iconst hO (v := 3) (by decide) dL_law_278 ?_
      refine x_iadd hO dL_law_279 ?_
      refine x_pald hO hx0 dL_law_280 ?_
      refine y_HI (x_callV hO lv_RL_27 hx1 vc_11 (by decide) (As := [.int (x0x (nx (x3 + ((1 : Int32))))), .int (x0x (nx (x3 + ((2 : Int32))))), .int (x0x (nx (x3 + ((3 : Int32)))))]) rfl (Nat.le_of_ble_eq_true rfl) (ok_X11_tray (cG Γ) h x1 (x0x (nx (x3 + ((1 : Int32))))) (x0x (nx (x3 + ((2 : Int32))))) (x0x (nx (x3 + ((3 : Int32))))) hx1) dL_law_281 rfl (Nat.le_of_ble_eq_true rfl)) (fun r7 => ?_)
      refine x_aload_n hO 2 rfl rfl dL_law_284 ?_
      refine x_aload_n hO 0 rfl rfl dL_law_285 ?_
      refine x_iload_n hO 3 rfl rfl dL_law_286 ?_
      refine x_iconst hO (v := 1) (by decide) dL_law_287 ?_
      refine x_iadd hO dL_law_288 ?_
      refine x_pald hO hx0 dL_law_289 ?_
      refine x_aload_n hO 0 rfl rfl dL_law_290 ?_
      refine x_iload_n hO 3 rfl rfl dL_law_291 ?_
      refine x_iconst hO (v := 2) (by decide) dL_law_292 ?_
      refine x_iadd hO dL_law_293 ?_
      refine x_pald hO hx0 dL_law_294 ?_
      refine x_aload_n hO 0 rfl rfl dL_law_295 ?_
      refine x_iload_n hO 3 rfl rfl dL_law_296 ?_
      refine x_iconst hO (v := 3) (by decide) dL_law_297 ?_
      refine x_iadd hO dL_law_298 ?_
      refine x_pald hO hx0 dL_law_299 ?_
      refine y_HI (x_callV hO lv_RL_31 hx2 vc_12 (by decide) (As := [.int (x0x (nx (x3 + ((1 : Int32))))), .int (x0x (nx (x3 + ((2 : Int32))))), .int (x0x (nx (x3 + ((3 : Int32)))))]) rfl (Nat.le_of_ble_eq_true rfl) (ok_X12_tray (cG Γ) r7.1 x2 (x0x (nx (x3 + ((1 : Int32))))) (x0x (nx (x3 + ((2 : Int32))))) (x0x (nx (x3 + ((3 : Int32))))) hx2) dL_law_300 rfl (Nat.le_of_ble_eq_true rfl)) (fun r8 => ?_)
      refine x_icmp_eq hO (tg := 1736) dL_law_303 (by decide) ?_ ?_
      · refine x_iinc hO 3 (v := 6) [(3, .int (x3 + (6 : Int32))), (0, .ref x0), (1, rf Γ x1), (2, rf Γ x2)] dL_law_1736 rfl (by decide) (by decide) rfl ?_
        refine x_goto hO (tg := 18) dL_law_1739 (by decide) ?_
        exact x_leafs [1, 2, 3, 0] rfl (hC r8.1 (x3 + (6 : Int32)))
      · refine x_iconst hO (v := 0) (by decide) dL_law_306 ?_
        exact x_zretv hO rfl (by decide) dL_law_307 (hR _)
    · refine x_aload_n hO 1 rfl rfl dL_law_308 ?_
      refine x_aload_n hO 0 rfl rfl dL_law_309 ?_
      refine x_iload_n hO 3 rfl rfl dL_law_310 ?_
      refine x_iconst hO (v := 1) (by decide) dL_law_311 ?_
      refine x_iadd hO dL_law_312 ?_
      refine x_pald hO hx0 dL_law_313 ?_
      refine x_aload_n hO 0 rfl rfl dL_law_314 ?_
      refine x_iload_n hO 3 rfl rfl dL_law_315 ?_
      refine x_iconst hO (v := 2) (by decide) dL_law_316 ?_
      refine x_iadd hO dL_law_317 ?_
      refine x_pald hO hx0 dL_law_318 ?_
      refine x_aload_n hO 0 rfl rfl dL_law_319 ?_
      refine x_iload_n hO 3 rfl rfl dL_law_320 ?_
      refine x_iconst hO (v := 3) (by decide) dL_law_321 ?_
      refine x_iadd hO dL_law_322 ?_
      refine x_pald hO hx0 dL_law_323 ?_
      refine x_i2l hO dL_law_324 ?_
      refine x_bipush hO (v := 32) (by decide) dL_law_325 ?_
      refine x_lshl hO dL_law_327 ?_
      refine x_aload_n hO 0 rfl rfl dL_law_328 ?_
      refine x_iload_n hO 3 rfl rfl dL_law_329 ?_
      refine x_iconst hO (v := 4) (by decide) dL_law_330 ?_
      refine x_iadd hO dL_law_331 ?_
      refine x_pald hO hx0 dL_law_332 ?_
      refine x_i2l hO dL_law_333 ?_
      refine x_ldc2 hO cn_RL_32 dL_law_334 ?_
      refine x_land hO dL_law_337 ?_
      refine x_lor hO dL_law_338 ?_
      refine y_HI (x_callV hO lv_RL_34 hx1 vc_11 (by decide) (As := [.int (x0x (nx (x3 + ((1 : Int32))))), .int (x0x (nx (x3 + ((2 : Int32))))), .long ((((x0x (nx (x3 + ((3 : Int32))))).toInt64) <<< (((32 : Int32)).toInt64 &&& 63)) ||| (((x0x (nx (x3 + ((4 : Int32))))).toInt64) &&& ((4294967295 : Int64))))]) rfl (Nat.le_of_ble_eq_true rfl) (ok_X11_write (cG Γ) h x1 (x0x (nx (x3 + ((1 : Int32))))) (x0x (nx (x3 + ((2 : Int32))))) ((((x0x (nx (x3 + ((3 : Int32))))).toInt64) <<< (((32 : Int32)).toInt64 &&& 63)) ||| (((x0x (nx (x3 + ((4 : Int32))))).toInt64) &&& ((4294967295 : Int64)))) hx1) dL_law_339 rfl (Nat.le_of_ble_eq_true rfl)) (fun r9 => ?_)
      refine x_aload_n hO 2 rfl rfl dL_law_342 ?_
      refine x_aload_n hO 0 rfl rfl dL_law_343 ?_
      refine x_iload_n hO 3 rfl rfl dL_law_344 ?_
      refine x_iconst hO (v := 1) (by decide) dL_law_345 ?_
      refine x_iadd hO dL_law_346 ?_
      refine x_pald hO hx0 dL_law_347 ?_
      refine x_aload_n hO 0 rfl rfl dL_law_348 ?_
      refine x_iload_n hO 3 rfl rfl dL_law_349 ?_
      refine x_iconst hO (v := 2) (by decide) dL_law_350 ?_
      refine x_iadd hO dL_law_351 ?_
      refine x_pald hO hx0 dL_law_352 ?_
      refine x_aload_n hO 0 rfl rfl dL_law_353 ?_
      refine x_iload_n hO 3 rfl rfl dL_law_354 ?_
      refine x_iconst hO (v := 3) (by decide) dL_law_355 ?_
      refine x_iadd hO dL_law_356 ?_
      refine x_pald hO hx0 dL_law_357 ?_
      refine x_i2l hO dL_law_358 ?_
      refine x_bipush hO (v := 32) (by decide) dL_law_359 ?_
      refine x_lshl hO dL_law_361 ?_
      refine x_aload_n hO 0 rfl rfl dL_law_362 ?_
      refine x_iload_n hO 3 rfl rfl dL_law_363 ?_
      refine x_iconst hO (v := 4) (by decide) dL_law_364 ?_
      refine x_iadd hO dL_law_365 ?_
      refine x_pald hO hx0 dL_law_366 ?_
      refine x_i2l hO dL_law_367 ?_
      refine x_ldc2 hO cn_RL_32 dL_law_368 ?_
      refine x_land hO dL_law_371 ?_
      refine x_lor hO dL_law_372 ?_
      refine y_HI (x_callV hO lv_RL_38 hx2 vc_12 (by decide) (As := [.int (x0x (nx (x3 + ((1 : Int32))))), .int (x0x (nx (x3 + ((2 : Int32))))), .long ((((x0x (nx (x3 + ((3 : Int32))))).toInt64) <<< (((32 : Int32)).toInt64 &&& 63)) ||| (((x0x (nx (x3 + ((4 : Int32))))).toInt64) &&& ((4294967295 : Int64))))]) rfl (Nat.le_of_ble_eq_true rfl) (ok_X12_write (cG Γ) r9.1 x2 (x0x (nx (x3 + ((1 : Int32))))) (x0x (nx (x3 + ((2 : Int32))))) ((((x0x (nx (x3 + ((3 : Int32))))).toInt64) <<< (((32 : Int32)).toInt64 &&& 63)) ||| (((x0x (nx (x3 + ((4 : Int32))))).toInt64) &&& ((4294967295 : Int64)))) hx2) dL_law_373 rfl (Nat.le_of_ble_eq_true rfl)) (fun r10 => ?_)
      refine x_icmp_eq hO (tg := 1736) dL_law_376 (by decide) ?_ ?_
      · refine x_iinc hO 3 (v := 6) [(3, .int (x3 + (6 : Int32))), (0, .ref x0), (1, rf Γ x1), (2, rf Γ x2)] dL_law_1736 rfl (by decide) (by decide) rfl ?_
        refine x_goto hO (tg := 18) dL_law_1739 (by decide) ?_
        exact x_leafs [1, 2, 3, 0] rfl (hC r10.1 (x3 + (6 : Int32)))
      · refine x_iconst hO (v := 0) (by decide) dL_law_379 ?_
        exact x_zretv hO rfl (by decide) dL_law_380 (hR _)
    · refine x_aload_n hO 1 rfl rfl dL_law_381 ?_
      refine x_aload_n hO 0 rfl rfl dL_law_382 ?_
      refine x_iload_n hO 3 rfl rfl dL_law_383 ?_
      refine x_iconst hO (v := 1) (by decide) dL_law_384 ?_
      refine x_iadd hO dL_law_385 ?_
      refine x_pald hO hx0 dL_law_386 ?_
      refine x_aload_n hO 0 rfl rfl dL_law_387 ?_
      refine x_iload_n hO 3 rfl rfl dL_law_388 ?_
      refine x_iconst hO (v := 2) (by decide) dL_law_389 ?_
      refine x_iadd hO dL_law_390 ?_
      refine x_pald hO hx0 dL_law_391 ?_
      refine y_HL (x_callV hO lv_RL_39 hx1 vc_11 (by decide) (As := [.int (x0x (nx (x3 + ((1 : Int32))))), .int (x0x (nx (x3 + ((2 : Int32)))))]) rfl (Nat.le_of_ble_eq_true rfl) (ok_X11_read (cG Γ) h x1 (x0x (nx (x3 + ((1 : Int32))))) (x0x (nx (x3 + ((2 : Int32))))) hx1) dL_law_392 rfl (Nat.le_of_ble_eq_true rfl)) (fun r11 => ?_)
      refine x_aload_n hO 2 rfl rfl dL_law_395 ?_
      refine x_aload_n hO 0 rfl rfl dL_law_396 ?_
      refine x_iload_n hO 3 rfl rfl dL_law_397 ?_
      refine x_iconst hO (v := 1) (by decide) dL_law_398 ?_
      refine x_iadd hO dL_law_399 ?_
      refine x_pald hO hx0 dL_law_400 ?_
      refine x_aload_n hO 0 rfl rfl dL_law_401 ?_
      refine x_iload_n hO 3 rfl rfl dL_law_402 ?_
      refine x_iconst hO (v := 2) (by decide) dL_law_403 ?_
      refine x_iadd hO dL_law_404 ?_
      refine x_pald hO hx0 dL_law_405 ?_
      refine y_HL (x_callV hO lv_RL_43 hx2 vc_12 (by decide) (As := [.int (x0x (nx (x3 + ((1 : Int32))))), .int (x0x (nx (x3 + ((2 : Int32)))))]) rfl (Nat.le_of_ble_eq_true rfl) (ok_X12_read (cG Γ) r11.1 x2 (x0x (nx (x3 + ((1 : Int32))))) (x0x (nx (x3 + ((2 : Int32))))) hx2) dL_law_406 rfl (Nat.le_of_ble_eq_true rfl)) (fun r12 => ?_)
      refine x_lcmp hO dL_law_409 ?_
      refine x_if_eq hO (tg := 1736) dL_law_410 (by decide) ?_ ?_
      · refine x_iinc hO 3 (v := 6) [(3, .int (x3 + (6 : Int32))), (0, .ref x0), (1, rf Γ x1), (2, rf Γ x2)] dL_law_1736 rfl (by decide) (by decide) rfl ?_
        refine x_goto hO (tg := 18) dL_law_1739 (by decide) ?_
        exact x_leafs [1, 2, 3, 0] rfl (hC r12.1 (x3 + (6 : Int32)))
      · refine x_iconst hO (v := 0) (by decide) dL_law_413 ?_
        exact x_zretv hO rfl (by decide) dL_law_414 (hR _)
    · refine x_aload_n hO 1 rfl rfl dL_law_415 ?_
      refine x_aload_n hO 0 rfl rfl dL_law_416 ?_
      refine x_iload_n hO 3 rfl rfl dL_law_417 ?_
      refine x_iconst hO (v := 1) (by decide) dL_law_418 ?_
      refine x_iadd hO dL_law_419 ?_
      refine x_pald hO hx0 dL_law_420 ?_
      refine x_aload_n hO 0 rfl rfl dL_law_421 ?_
      refine x_iload_n hO 3 rfl rfl dL_law_422 ?_
      refine x_iconst hO (v := 2) (by decide) dL_law_423 ?_
      refine x_iadd hO dL_law_424 ?_
      refine x_pald hO hx0 dL_law_425 ?_
      refine x_aload_n hO 0 rfl rfl dL_law_426 ?_
      refine x_iload_n hO 3 rfl rfl dL_law_427 ?_
      refine x_iconst hO (v := 3) (by decide) dL_law_428 ?_
      refine x_iadd hO dL_law_429 ?_
      refine x_pald hO hx0 dL_law_430 ?_
      refine x_aload_n hO 0 rfl rfl dL_law_431 ?_
      refine x_iload_n hO 3 rfl rfl dL_law_432 ?_
      refine x_iconst hO (v := 4) (by decide) dL_law_433 ?_
      refine x_iadd hO dL_law_434 ?_
      refine x_pald hO hx0 dL_law_435 ?_
      refine x_aload_n hO 0 rfl rfl dL_law_436 ?_
      refine x_iload_n hO 3 rfl rfl dL_law_437 ?_
      refine x_iconst hO (v := 5) (by decide) dL_law_438 ?_
      refine x_iadd hO dL_law_439 ?_
      refine x_pald hO hx0 dL_law_440 ?_
      refine y_HI (x_callV hO lv_RL_44 hx1 vc_11 (by decide) (As := [.int (x0x (nx (x3 + ((1 : Int32))))), .int (x0x (nx (x3 + ((2 : Int32))))), .int (x0x (nx (x3 + ((3 : Int32))))), .int (x0x (nx (x3 + ((4 : Int32))))), .int (x0x (nx (x3 + ((5 : Int32)))))]) rfl (Nat.le_of_ble_eq_true rfl) (ok_X11_pour (cG Γ) h x1 (x0x (nx (x3 + ((1 : Int32))))) (x0x (nx (x3 + ((2 : Int32))))) (x0x (nx (x3 + ((3 : Int32))))) (x0x (nx (x3 + ((4 : Int32))))) (x0x (nx (x3 + ((5 : Int32))))) hx1) dL_law_441 rfl (Nat.le_of_ble_eq_true rfl)) (fun r13 => ?_)
      refine x_aload_n hO 2 rfl rfl dL_law_444 ?_
      refine x_aload_n hO 0 rfl rfl dL_law_445 ?_
      refine x_iload_n hO 3 rfl rfl dL_law_446 ?_
      refine x_iconst hO (v := 1) (by decide) dL_law_447 ?_
      refine x_iadd hO dL_law_448 ?_
      refine x_pald hO hx0 dL_law_449 ?_
      refine x_aload_n hO 0 rfl rfl dL_law_450 ?_
      refine x_iload_n hO 3 rfl rfl dL_law_451 ?_
      refine x_iconst hO (v := 2) (by decide) dL_law_452 ?_
      refine x_iadd hO dL_law_453 ?_
      refine x_pald hO hx0 dL_law_454 ?_
      refine x_aload_n hO 0 rfl rfl dL_law_455 ?_
      refine x_iload_n hO 3 rfl rfl dL_law_456 ?_
      refine x_iconst hO (v := 3) (by decide) dL_law_457 ?_
      refine x_iadd hO dL_law_458 ?_
      refine x_pald hO hx0 dL_law_459 ?_
      refine x_aload_n hO 0 rfl rfl dL_law_460 ?_
      refine x_iload_n hO 3 rfl rfl dL_law_461 ?_
      refine x_iconst hO (v := 4) (by decide) dL_law_462 ?_
      refine x_iadd hO dL_law_463 ?_
      refine x_pald hO hx0 dL_law_464 ?_
      refine x_aload_n hO 0 rfl rfl dL_law_465 ?_
      refine x_iload_n hO 3 rfl rfl dL_law_466 ?_
      refine x_iconst hO (v := 5) (by decide) dL_law_467 ?_
      refine x_iadd hO dL_law_468 ?_
      refine x_pald hO hx0 dL_law_469 ?_
      refine y_HI (x_callV hO lv_RL_48 hx2 vc_12 (by decide) (As := [.int (x0x (nx (x3 + ((1 : Int32))))), .int (x0x (nx (x3 + ((2 : Int32))))), .int (x0x (nx (x3 + ((3 : Int32))))), .int (x0x (nx (x3 + ((4 : Int32))))), .int (x0x (nx (x3 + ((5 : Int32)))))]) rfl (Nat.le_of_ble_eq_true rfl) (ok_X12_pour (cG Γ) r13.1 x2 (x0x (nx (x3 + ((1 : Int32))))) (x0x (nx (x3 + ((2 : Int32))))) (x0x (nx (x3 + ((3 : Int32))))) (x0x (nx (x3 + ((4 : Int32))))) (x0x (nx (x3 + ((5 : Int32))))) hx2) dL_law_470 rfl (Nat.le_of_ble_eq_true rfl)) (fun r14 => ?_)
      refine x_icmp_eq hO (tg := 1736) dL_law_473 (by decide) ?_ ?_
      · refine x_iinc hO 3 (v := 6) [(3, .int (x3 + (6 : Int32))), (0, .ref x0), (1, rf Γ x1), (2, rf Γ x2)] dL_law_1736 rfl (by decide) (by decide) rfl ?_
        refine x_goto hO (tg := 18) dL_law_1739 (by decide) ?_
        exact x_leafs [1, 2, 3, 0] rfl (hC r14.1 (x3 + (6 : Int32)))
      · refine x_iconst hO (v := 0) (by decide) dL_law_476 ?_
        exact x_zretv hO rfl (by decide) dL_law_477 (hR _)
    · refine x_aload_n hO 1 rfl rfl dL_law_478 ?_
      refine x_aload_n hO 0 rfl rfl dL_law_479 ?_
      refine x_iload_n hO 3 rfl rfl dL_law_480 ?_
      refine x_iconst hO (v := 1) (by decide) dL_law_481 ?_
      refine x_iadd hO dL_law_482 ?_
      refine x_pald hO hx0 dL_law_483 ?_
      refine x_aload_n hO 0 rfl rfl dL_law_484 ?_
      refine x_iload_n hO 3 rfl rfl dL_law_485 ?_
      refine x_iconst hO (v := 2) (by decide) dL_law_486 ?_
      refine x_iadd hO dL_law_487 ?_
      refine x_pald hO hx0 dL_law_488 ?_
      refine x_aload_n hO 0 rfl rfl dL_law_489 ?_
      refine x_iload_n hO 3 rfl rfl dL_law_490 ?_
      refine x_iconst hO (v := 3) (by decide) dL_law_491 ?_
      refine x_iadd hO dL_law_492 ?_
      refine x_pald hO hx0 dL_law_493 ?_
      refine y_HI (x_callV hO lv_RL_49 hx1 vc_11 (by decide) (As := [.int (x0x (nx (x3 + ((1 : Int32))))), .int (x0x (nx (x3 + ((2 : Int32))))), .int (x0x (nx (x3 + ((3 : Int32)))))]) rfl (Nat.le_of_ble_eq_true rfl) (ok_X11_punch (cG Γ) h x1 (x0x (nx (x3 + ((1 : Int32))))) (x0x (nx (x3 + ((2 : Int32))))) (x0x (nx (x3 + ((3 : Int32))))) hx1) dL_law_494 rfl (Nat.le_of_ble_eq_true rfl)) (fun r15 => ?_)
      refine x_aload_n hO 2 rfl rfl dL_law_497 ?_
      refine x_aload_n hO 0 rfl rfl dL_law_498 ?_
      refine x_iload_n hO 3 rfl rfl dL_law_499 ?_
      refine x_iconst hO (v := 1) (by decide) dL_law_500 ?_
      refine x_iadd hO dL_law_501 ?_
      refine x_pald hO hx0 dL_law_502 ?_
      refine x_aload_n hO 0 rfl rfl dL_law_503 ?_
      refine x_iload_n hO 3 rfl rfl dL_law_504 ?_
      refine x_iconst hO (v := 2) (by decide) dL_law_505 ?_
      refine x_iadd hO dL_law_506 ?_
      refine x_pald hO hx0 dL_law_507 ?_
      refine x_aload_n hO 0 rfl rfl dL_law_508 ?_
      refine x_iload_n hO 3 rfl rfl dL_law_509 ?_
      refine x_iconst hO (v := 3) (by decide) dL_law_510 ?_
      refine x_iadd hO dL_law_511 ?_
      refine x_pald hO hx0 dL_law_512 ?_
      refine y_HI (x_callV hO lv_RL_53 hx2 vc_12 (by decide) (As := [.int (x0x (nx (x3 + ((1 : Int32))))), .int (x0x (nx (x3 + ((2 : Int32))))), .int (x0x (nx (x3 + ((3 : Int32)))))]) rfl (Nat.le_of_ble_eq_true rfl) (ok_X12_punch (cG Γ) r15.1 x2 (x0x (nx (x3 + ((1 : Int32))))) (x0x (nx (x3 + ((2 : Int32))))) (x0x (nx (x3 + ((3 : Int32))))) hx2) dL_law_513 rfl (Nat.le_of_ble_eq_true rfl)) (fun r16 => ?_)
      refine x_icmp_eq hO (tg := 1736) dL_law_516 (by decide) ?_ ?_
      · refine x_iinc hO 3 (v := 6) [(3, .int (x3 + (6 : Int32))), (0, .ref x0), (1, rf Γ x1), (2, rf Γ x2)] dL_law_1736 rfl (by decide) (by decide) rfl ?_
        refine x_goto hO (tg := 18) dL_law_1739 (by decide) ?_
        exact x_leafs [1, 2, 3, 0] rfl (hC r16.1 (x3 + (6 : Int32)))
      · refine x_iconst hO (v := 0) (by decide) dL_law_519 ?_
        exact x_zretv hO rfl (by decide) dL_law_520 (hR _)
    · refine x_aload_n hO 1 rfl rfl dL_law_521 ?_
      refine x_aload_n hO 0 rfl rfl dL_law_522 ?_
      refine x_iload_n hO 3 rfl rfl dL_law_523 ?_
      refine x_iconst hO (v := 1) (by decide) dL_law_524 ?_
      refine x_iadd hO dL_law_525 ?_
      refine x_pald hO hx0 dL_law_526 ?_
      refine x_aload_n hO 0 rfl rfl dL_law_527 ?_
      refine x_iload_n hO 3 rfl rfl dL_law_528 ?_
      refine x_iconst hO (v := 2) (by decide) dL_law_529 ?_
      refine x_iadd hO dL_law_530 ?_
      refine x_pald hO hx0 dL_law_531 ?_
      refine x_aload_n hO 0 rfl rfl dL_law_532 ?_
      refine x_iload_n hO 3 rfl rfl dL_law_533 ?_
      refine x_iconst hO (v := 3) (by decide) dL_law_534 ?_
      refine x_iadd hO dL_law_535 ?_
      refine x_pald hO hx0 dL_law_536 ?_
      refine y_HI (x_callV hO lv_RL_54 hx1 vc_11 (by decide) (As := [.int (x0x (nx (x3 + ((1 : Int32))))), .int (x0x (nx (x3 + ((2 : Int32))))), .int (x0x (nx (x3 + ((3 : Int32)))))]) rfl (Nat.le_of_ble_eq_true rfl) (ok_X11_holes (cG Γ) h x1 (x0x (nx (x3 + ((1 : Int32))))) (x0x (nx (x3 + ((2 : Int32))))) (x0x (nx (x3 + ((3 : Int32))))) hx1) dL_law_537 rfl (Nat.le_of_ble_eq_true rfl)) (fun r17 => ?_)
      refine x_aload_n hO 2 rfl rfl dL_law_540 ?_
      refine x_aload_n hO 0 rfl rfl dL_law_541 ?_
      refine x_iload_n hO 3 rfl rfl dL_law_542 ?_
      refine x_iconst hO (v := 1) (by decide) dL_law_543 ?_
      refine x_iadd hO dL_law_544 ?_
      refine x_pald hO hx0 dL_law_545 ?_
      refine x_aload_n hO 0 rfl rfl dL_law_546 ?_
      refine x_iload_n hO 3 rfl rfl dL_law_547 ?_
      refine x_iconst hO (v := 2) (by decide) dL_law_548 ?_
      refine x_iadd hO dL_law_549 ?_
      refine x_pald hO hx0 dL_law_550 ?_
      refine x_aload_n hO 0 rfl rfl dL_law_551 ?_
      refine x_iload_n hO 3 rfl rfl dL_law_552 ?_
      refine x_iconst hO (v := 3) (by decide) dL_law_553 ?_
      refine x_iadd hO dL_law_554 ?_
      refine x_pald hO hx0 dL_law_555 ?_
      refine y_HI (x_callV hO lv_RL_57 hx2 vc_12 (by decide) (As := [.int (x0x (nx (x3 + ((1 : Int32))))), .int (x0x (nx (x3 + ((2 : Int32))))), .int (x0x (nx (x3 + ((3 : Int32)))))]) rfl (Nat.le_of_ble_eq_true rfl) (ok_X12_holes (cG Γ) r17.1 x2 (x0x (nx (x3 + ((1 : Int32))))) (x0x (nx (x3 + ((2 : Int32))))) (x0x (nx (x3 + ((3 : Int32))))) hx2) dL_law_556 rfl (Nat.le_of_ble_eq_true rfl)) (fun r18 => ?_)
      refine x_icmp_eq hO (tg := 1736) dL_law_559 (by decide) ?_ ?_
      · refine x_iinc hO 3 (v := 6) [(3, .int (x3 + (6 : Int32))), (0, .ref x0), (1, rf Γ x1), (2, rf Γ x2)] dL_law_1736 rfl (by decide) (by decide) rfl ?_
        refine x_goto hO (tg := 18) dL_law_1739 (by decide) ?_
        exact x_leafs [1, 2, 3, 0] rfl (hC r18.1 (x3 + (6 : Int32)))
      · refine x_iconst hO (v := 0) (by decide) dL_law_562 ?_
        exact x_zretv hO rfl (by decide) dL_law_563 (hR _)
    · refine x_aload_n hO 1 rfl rfl dL_law_564 ?_
      refine x_aload_n hO 0 rfl rfl dL_law_565 ?_
      refine x_iload_n hO 3 rfl rfl dL_law_566 ?_
      refine x_iconst hO (v := 1) (by decide) dL_law_567 ?_
      refine x_iadd hO dL_law_568 ?_
      refine x_pald hO hx0 dL_law_569 ?_
      refine x_aload_n hO 0 rfl rfl dL_law_570 ?_
      refine x_iload_n hO 3 rfl rfl dL_law_571 ?_
      refine x_iconst hO (v := 2) (by decide) dL_law_572 ?_
      refine x_iadd hO dL_law_573 ?_
      refine x_pald hO hx0 dL_law_574 ?_
      refine y_HI (x_callV hO lv_RL_58 hx1 vc_11 (by decide) (As := [.int (x0x (nx (x3 + ((1 : Int32))))), .int (x0x (nx (x3 + ((2 : Int32)))))]) rfl (Nat.le_of_ble_eq_true rfl) (ok_X11_card (cG Γ) h x1 (x0x (nx (x3 + ((1 : Int32))))) (x0x (nx (x3 + ((2 : Int32))))) hx1) dL_law_575 rfl (Nat.le_of_ble_eq_true rfl)) (fun r19 => ?_)
      refine x_aload_n hO 2 rfl rfl dL_law_578 ?_
      refine x_aload_n hO 0 rfl rfl dL_law_579 ?_
      refine x_iload_n hO 3 rfl rfl dL_law_580 ?_
      refine x_iconst hO (v := 1) (by decide) dL_law_581 ?_
      refine x_iadd hO dL_law_582 ?_
      refine x_pald hO hx0 dL_law_583 ?_
      refine x_aload_n hO 0 rfl rfl dL_law_584 ?_
      refine x_iload_n hO 3 rfl rfl dL_law_585 ?_
      refine x_iconst hO (v := 2) (by decide) dL_law_586 ?_
      refine x_iadd hO dL_law_587 ?_
      refine x_pald hO hx0 dL_law_588 ?_
      refine y_HI (x_callV hO lv_RL_62 hx2 vc_12 (by decide) (As := [.int (x0x (nx (x3 + ((1 : Int32))))), .int (x0x (nx (x3 + ((2 : Int32)))))]) rfl (Nat.le_of_ble_eq_true rfl) (ok_X12_card (cG Γ) r19.1 x2 (x0x (nx (x3 + ((1 : Int32))))) (x0x (nx (x3 + ((2 : Int32))))) hx2) dL_law_589 rfl (Nat.le_of_ble_eq_true rfl)) (fun r20 => ?_)
      refine x_icmp_eq hO (tg := 1736) dL_law_592 (by decide) ?_ ?_
      · refine x_iinc hO 3 (v := 6) [(3, .int (x3 + (6 : Int32))), (0, .ref x0), (1, rf Γ x1), (2, rf Γ x2)] dL_law_1736 rfl (by decide) (by decide) rfl ?_
        refine x_goto hO (tg := 18) dL_law_1739 (by decide) ?_
        exact x_leafs [1, 2, 3, 0] rfl (hC r20.1 (x3 + (6 : Int32)))
      · refine x_iconst hO (v := 0) (by decide) dL_law_595 ?_
        exact x_zretv hO rfl (by decide) dL_law_596 (hR _)
    · refine x_aload_n hO 1 rfl rfl dL_law_597 ?_
      refine x_aload_n hO 0 rfl rfl dL_law_598 ?_
      refine x_iload_n hO 3 rfl rfl dL_law_599 ?_
      refine x_iconst hO (v := 1) (by decide) dL_law_600 ?_
      refine x_iadd hO dL_law_601 ?_
      refine x_pald hO hx0 dL_law_602 ?_
      refine y_HI (x_callV hO lv_RL_63 hx1 vc_11 (by decide) (As := [.int (x0x (nx (x3 + ((1 : Int32)))))]) rfl (Nat.le_of_ble_eq_true rfl) (ok_X11_lies (cG Γ) h x1 (x0x (nx (x3 + ((1 : Int32))))) hx1) dL_law_603 rfl (Nat.le_of_ble_eq_true rfl)) (fun r21 => ?_)
      refine x_aload_n hO 2 rfl rfl dL_law_606 ?_
      refine x_aload_n hO 0 rfl rfl dL_law_607 ?_
      refine x_iload_n hO 3 rfl rfl dL_law_608 ?_
      refine x_iconst hO (v := 1) (by decide) dL_law_609 ?_
      refine x_iadd hO dL_law_610 ?_
      refine x_pald hO hx0 dL_law_611 ?_
      refine y_HI (x_callV hO lv_RL_67 hx2 vc_12 (by decide) (As := [.int (x0x (nx (x3 + ((1 : Int32)))))]) rfl (Nat.le_of_ble_eq_true rfl) (ok_X12_lies (cG Γ) r21.1 x2 (x0x (nx (x3 + ((1 : Int32))))) hx2) dL_law_612 rfl (Nat.le_of_ble_eq_true rfl)) (fun r22 => ?_)
      refine x_icmp_eq hO (tg := 1736) dL_law_615 (by decide) ?_ ?_
      · refine x_iinc hO 3 (v := 6) [(3, .int (x3 + (6 : Int32))), (0, .ref x0), (1, rf Γ x1), (2, rf Γ x2)] dL_law_1736 rfl (by decide) (by decide) rfl ?_
        refine x_goto hO (tg := 18) dL_law_1739 (by decide) ?_
        exact x_leafs [1, 2, 3, 0] rfl (hC r22.1 (x3 + (6 : Int32)))
      · refine x_iconst hO (v := 0) (by decide) dL_law_618 ?_
        exact x_zretv hO rfl (by decide) dL_law_619 (hR _)
    · refine x_aload_n hO 1 rfl rfl dL_law_620 ?_
      refine x_aload_n hO 0 rfl rfl dL_law_621 ?_
      refine x_iload_n hO 3 rfl rfl dL_law_622 ?_
      refine x_iconst hO (v := 1) (by decide) dL_law_623 ?_
      refine x_iadd hO dL_law_624 ?_
      refine x_pald hO hx0 dL_law_625 ?_
      refine x_aload_n hO 0 rfl rfl dL_law_626 ?_
      refine x_iload_n hO 3 rfl rfl dL_law_627 ?_
      refine x_iconst hO (v := 2) (by decide) dL_law_628 ?_
      refine x_iadd hO dL_law_629 ?_
      refine x_pald hO hx0 dL_law_630 ?_
      refine y_HI (x_callV hO lv_RL_68 hx1 vc_11 (by decide) (As := [.int (x0x (nx (x3 + ((1 : Int32))))), .int (x0x (nx (x3 + ((2 : Int32)))))]) rfl (Nat.le_of_ble_eq_true rfl) (ok_X11_exchange (cG Γ) h x1 (x0x (nx (x3 + ((1 : Int32))))) (x0x (nx (x3 + ((2 : Int32))))) hx1) dL_law_631 rfl (Nat.le_of_ble_eq_true rfl)) (fun r23 => ?_)
      refine x_aload_n hO 2 rfl rfl dL_law_634 ?_
      refine x_aload_n hO 0 rfl rfl dL_law_635 ?_
      refine x_iload_n hO 3 rfl rfl dL_law_636 ?_
      refine x_iconst hO (v := 1) (by decide) dL_law_637 ?_
      refine x_iadd hO dL_law_638 ?_
      refine x_pald hO hx0 dL_law_639 ?_
      refine x_aload_n hO 0 rfl rfl dL_law_640 ?_
      refine x_iload_n hO 3 rfl rfl dL_law_641 ?_
      refine x_iconst hO (v := 2) (by decide) dL_law_642 ?_
      refine x_iadd hO dL_law_643 ?_
      refine x_pald hO hx0 dL_law_644 ?_
      refine y_HI (x_callV hO lv_RL_72 hx2 vc_12 (by decide) (As := [.int (x0x (nx (x3 + ((1 : Int32))))), .int (x0x (nx (x3 + ((2 : Int32)))))]) rfl (Nat.le_of_ble_eq_true rfl) (ok_X12_exchange (cG Γ) r23.1 x2 (x0x (nx (x3 + ((1 : Int32))))) (x0x (nx (x3 + ((2 : Int32))))) hx2) dL_law_645 rfl (Nat.le_of_ble_eq_true rfl)) (fun r24 => ?_)
      refine x_icmp_eq hO (tg := 1736) dL_law_648 (by decide) ?_ ?_
      · refine x_iinc hO 3 (v := 6) [(3, .int (x3 + (6 : Int32))), (0, .ref x0), (1, rf Γ x1), (2, rf Γ x2)] dL_law_1736 rfl (by decide) (by decide) rfl ?_
        refine x_goto hO (tg := 18) dL_law_1739 (by decide) ?_
        exact x_leafs [1, 2, 3, 0] rfl (hC r24.1 (x3 + (6 : Int32)))
      · refine x_iconst hO (v := 0) (by decide) dL_law_651 ?_
        exact x_zretv hO rfl (by decide) dL_law_652 (hR _)
    · refine x_aload_n hO 1 rfl rfl dL_law_653 ?_
      refine x_aload_n hO 0 rfl rfl dL_law_654 ?_
      refine x_iload_n hO 3 rfl rfl dL_law_655 ?_
      refine x_iconst hO (v := 1) (by decide) dL_law_656 ?_
      refine x_iadd hO dL_law_657 ?_
      refine x_pald hO hx0 dL_law_658 ?_
      refine x_aload_n hO 0 rfl rfl dL_law_659 ?_
      refine x_iload_n hO 3 rfl rfl dL_law_660 ?_
      refine x_iconst hO (v := 2) (by decide) dL_law_661 ?_
      refine x_iadd hO dL_law_662 ?_
      refine x_pald hO hx0 dL_law_663 ?_
      refine x_aload_n hO 0 rfl rfl dL_law_664 ?_
      refine x_iload_n hO 3 rfl rfl dL_law_665 ?_
      refine x_iconst hO (v := 3) (by decide) dL_law_666 ?_
      refine x_iadd hO dL_law_667 ?_
      refine x_pald hO hx0 dL_law_668 ?_
      refine x_aload_n hO 0 rfl rfl dL_law_669 ?_
      refine x_iload_n hO 3 rfl rfl dL_law_670 ?_
      refine x_iconst hO (v := 4) (by decide) dL_law_671 ?_
      refine x_iadd hO dL_law_672 ?_
      refine x_pald hO hx0 dL_law_673 ?_
      refine x_aload_n hO 0 rfl rfl dL_law_674 ?_
      refine x_iload_n hO 3 rfl rfl dL_law_675 ?_
      refine x_iconst hO (v := 5) (by decide) dL_law_676 ?_
      refine x_iadd hO dL_law_677 ?_
      refine x_pald hO hx0 dL_law_678 ?_
      refine y_HI (x_callV hO lv_RL_73 hx1 vc_11 (by decide) (As := [.int (x0x (nx (x3 + ((1 : Int32))))), .int (x0x (nx (x3 + ((2 : Int32))))), .int (x0x (nx (x3 + ((3 : Int32))))), .int (x0x (nx (x3 + ((4 : Int32))))), .int (x0x (nx (x3 + ((5 : Int32)))))]) rfl (Nat.le_of_ble_eq_true rfl) (ok_X11_feed (cG Γ) h x1 (x0x (nx (x3 + ((1 : Int32))))) (x0x (nx (x3 + ((2 : Int32))))) (x0x (nx (x3 + ((3 : Int32))))) (x0x (nx (x3 + ((4 : Int32))))) (x0x (nx (x3 + ((5 : Int32))))) hx1) dL_law_679 rfl (Nat.le_of_ble_eq_true rfl)) (fun r25 => ?_)
      refine x_aload_n hO 2 rfl rfl dL_law_682 ?_
      refine x_aload_n hO 0 rfl rfl dL_law_683 ?_
      refine x_iload_n hO 3 rfl rfl dL_law_684 ?_
      refine x_iconst hO (v := 1) (by decide) dL_law_685 ?_
      refine x_iadd hO dL_law_686 ?_
      refine x_pald hO hx0 dL_law_687 ?_
      refine x_aload_n hO 0 rfl rfl dL_law_688 ?_
      refine x_iload_n hO 3 rfl rfl dL_law_689 ?_
      refine x_iconst hO (v := 2) (by decide) dL_law_690 ?_
      refine x_iadd hO dL_law_691 ?_
      refine x_pald hO hx0 dL_law_692 ?_
      refine x_aload_n hO 0 rfl rfl dL_law_693 ?_
      refine x_iload_n hO 3 rfl rfl dL_law_694 ?_
      refine x_iconst hO (v := 3) (by decide) dL_law_695 ?_
      refine x_iadd hO dL_law_696 ?_
      refine x_pald hO hx0 dL_law_697 ?_
      refine x_aload_n hO 0 rfl rfl dL_law_698 ?_
      refine x_iload_n hO 3 rfl rfl dL_law_699 ?_
      refine x_iconst hO (v := 4) (by decide) dL_law_700 ?_
      refine x_iadd hO dL_law_701 ?_
      refine x_pald hO hx0 dL_law_702 ?_
      refine x_aload_n hO 0 rfl rfl dL_law_703 ?_
      refine x_iload_n hO 3 rfl rfl dL_law_704 ?_
      refine x_iconst hO (v := 5) (by decide) dL_law_705 ?_
      refine x_iadd hO dL_law_706 ?_
      refine x_pald hO hx0 dL_law_707 ?_
      refine y_HI (x_callV hO lv_RL_77 hx2 vc_12 (by decide) (As := [.int (x0x (nx (x3 + ((1 : Int32))))), .int (x0x (nx (x3 + ((2 : Int32))))), .int (x0x (nx (x3 + ((3 : Int32))))), .int (x0x (nx (x3 + ((4 : Int32))))), .int (x0x (nx (x3 + ((5 : Int32)))))]) rfl (Nat.le_of_ble_eq_true rfl) (ok_X12_feed (cG Γ) r25.1 x2 (x0x (nx (x3 + ((1 : Int32))))) (x0x (nx (x3 + ((2 : Int32))))) (x0x (nx (x3 + ((3 : Int32))))) (x0x (nx (x3 + ((4 : Int32))))) (x0x (nx (x3 + ((5 : Int32))))) hx2) dL_law_708 rfl (Nat.le_of_ble_eq_true rfl)) (fun r26 => ?_)
      refine x_icmp_eq hO (tg := 1736) dL_law_711 (by decide) ?_ ?_
      · refine x_iinc hO 3 (v := 6) [(3, .int (x3 + (6 : Int32))), (0, .ref x0), (1, rf Γ x1), (2, rf Γ x2)] dL_law_1736 rfl (by decide) (by decide) rfl ?_
        refine x_goto hO (tg := 18) dL_law_1739 (by decide) ?_
        exact x_leafs [1, 2, 3, 0] rfl (hC r26.1 (x3 + (6 : Int32)))
      · refine x_iconst hO (v := 0) (by decide) dL_law_714 ?_
        exact x_zretv hO rfl (by decide) dL_law_715 (hR _)
    · refine x_aload_n hO 1 rfl rfl dL_law_716 ?_
      refine x_aload_n hO 0 rfl rfl dL_law_717 ?_
      refine x_iload_n hO 3 rfl rfl dL_law_718 ?_
      refine x_iconst hO (v := 1) (by decide) dL_law_719 ?_
      refine x_iadd hO dL_law_720 ?_
      refine x_pald hO hx0 dL_law_721 ?_
      refine y_HI (x_callV hO lv_RL_78 hx1 vc_11 (by decide) (As := [.int (x0x (nx (x3 + ((1 : Int32)))))]) rfl (Nat.le_of_ble_eq_true rfl) (ok_X11_book (cG Γ) h x1 (x0x (nx (x3 + ((1 : Int32))))) hx1) dL_law_722 rfl (Nat.le_of_ble_eq_true rfl)) (fun r27 => ?_)
      refine x_aload_n hO 2 rfl rfl dL_law_725 ?_
      refine x_aload_n hO 0 rfl rfl dL_law_726 ?_
      refine x_iload_n hO 3 rfl rfl dL_law_727 ?_
      refine x_iconst hO (v := 1) (by decide) dL_law_728 ?_
      refine x_iadd hO dL_law_729 ?_
      refine x_pald hO hx0 dL_law_730 ?_
      refine y_HI (x_callV hO lv_RL_81 hx2 vc_12 (by decide) (As := [.int (x0x (nx (x3 + ((1 : Int32)))))]) rfl (Nat.le_of_ble_eq_true rfl) (ok_X12_book (cG Γ) r27.1 x2 (x0x (nx (x3 + ((1 : Int32))))) hx2) dL_law_731 rfl (Nat.le_of_ble_eq_true rfl)) (fun r28 => ?_)
      refine x_icmp_eq hO (tg := 1736) dL_law_734 (by decide) ?_ ?_
      · refine x_iinc hO 3 (v := 6) [(3, .int (x3 + (6 : Int32))), (0, .ref x0), (1, rf Γ x1), (2, rf Γ x2)] dL_law_1736 rfl (by decide) (by decide) rfl ?_
        refine x_goto hO (tg := 18) dL_law_1739 (by decide) ?_
        exact x_leafs [1, 2, 3, 0] rfl (hC r28.1 (x3 + (6 : Int32)))
      · refine x_iconst hO (v := 0) (by decide) dL_law_737 ?_
        exact x_zretv hO rfl (by decide) dL_law_738 (hR _)
    · refine x_aload_n hO 1 rfl rfl dL_law_739 ?_
      refine x_aload_n hO 0 rfl rfl dL_law_740 ?_
      refine x_iload_n hO 3 rfl rfl dL_law_741 ?_
      refine x_iconst hO (v := 1) (by decide) dL_law_742 ?_
      refine x_iadd hO dL_law_743 ?_
      refine x_pald hO hx0 dL_law_744 ?_
      refine y_PI (x_callV hO lv_RL_82 hx1 vc_11 (by decide) (As := [.int (x0x (nx (x3 + ((1 : Int32)))))]) rfl (Nat.le_of_ble_eq_true rfl) (ok_X11_fault (cG Γ) h x1 (x0x (nx (x3 + ((1 : Int32))))) hx1) dL_law_745 rfl (Nat.le_of_ble_eq_true rfl)) (fun r29 => ?_)
      refine x_aload_n hO 2 rfl rfl dL_law_748 ?_
      refine x_aload_n hO 0 rfl rfl dL_law_749 ?_
      refine x_iload_n hO 3 rfl rfl dL_law_750 ?_
      refine x_iconst hO (v := 1) (by decide) dL_law_751 ?_
      refine x_iadd hO dL_law_752 ?_
      refine x_pald hO hx0 dL_law_753 ?_
      refine y_PI (x_callV hO lv_RL_85 hx2 vc_12 (by decide) (As := [.int (x0x (nx (x3 + ((1 : Int32)))))]) rfl (Nat.le_of_ble_eq_true rfl) (ok_X12_fault (cG Γ) h x2 (x0x (nx (x3 + ((1 : Int32))))) hx2) dL_law_754 rfl (Nat.le_of_ble_eq_true rfl)) (fun r30 => ?_)
      refine x_icmp_eq hO (tg := 1736) dL_law_757 (by decide) ?_ ?_
      · refine x_iinc hO 3 (v := 6) [(3, .int (x3 + (6 : Int32))), (0, .ref x0), (1, rf Γ x1), (2, rf Γ x2)] dL_law_1736 rfl (by decide) (by decide) rfl ?_
        refine x_goto hO (tg := 18) dL_law_1739 (by decide) ?_
        exact x_leafs [1, 2, 3, 0] rfl (hC h (x3 + (6 : Int32)))
      · refine x_iconst hO (v := 0) (by decide) dL_law_760 ?_
        exact x_zretv hO rfl (by decide) dL_law_761 (hR _)
    · refine x_aload_n hO 1 rfl rfl dL_law_762 ?_
      refine x_aload_n hO 0 rfl rfl dL_law_763 ?_
      refine x_iload_n hO 3 rfl rfl dL_law_764 ?_
      refine x_iconst hO (v := 1) (by decide) dL_law_765 ?_
      refine x_iadd hO dL_law_766 ?_
      refine x_pald hO hx0 dL_law_767 ?_
      refine y_HI (x_callV hO lv_RL_86 hx1 vc_11 (by decide) (As := [.int (x0x (nx (x3 + ((1 : Int32)))))]) rfl (Nat.le_of_ble_eq_true rfl) (ok_X11_many (cG Γ) h x1 (x0x (nx (x3 + ((1 : Int32))))) hx1) dL_law_768 rfl (Nat.le_of_ble_eq_true rfl)) (fun r31 => ?_)
      refine x_aload_n hO 2 rfl rfl dL_law_771 ?_
      refine x_aload_n hO 0 rfl rfl dL_law_772 ?_
      refine x_iload_n hO 3 rfl rfl dL_law_773 ?_
      refine x_iconst hO (v := 1) (by decide) dL_law_774 ?_
      refine x_iadd hO dL_law_775 ?_
      refine x_pald hO hx0 dL_law_776 ?_
      refine y_HI (x_callV hO lv_RL_89 hx2 vc_12 (by decide) (As := [.int (x0x (nx (x3 + ((1 : Int32)))))]) rfl (Nat.le_of_ble_eq_true rfl) (ok_X12_many (cG Γ) r31.1 x2 (x0x (nx (x3 + ((1 : Int32))))) hx2) dL_law_777 rfl (Nat.le_of_ble_eq_true rfl)) (fun r32 => ?_)
      refine x_icmp_eq hO (tg := 1736) dL_law_780 (by decide) ?_ ?_
      · refine x_iinc hO 3 (v := 6) [(3, .int (x3 + (6 : Int32))), (0, .ref x0), (1, rf Γ x1), (2, rf Γ x2)] dL_law_1736 rfl (by decide) (by decide) rfl ?_
        refine x_goto hO (tg := 18) dL_law_1739 (by decide) ?_
        exact x_leafs [1, 2, 3, 0] rfl (hC r32.1 (x3 + (6 : Int32)))
      · refine x_iconst hO (v := 0) (by decide) dL_law_783 ?_
        exact x_zretv hO rfl (by decide) dL_law_784 (hR _)
    · refine x_aload_n hO 1 rfl rfl dL_law_785 ?_
      refine x_aload_n hO 0 rfl rfl dL_law_786 ?_
      refine x_iload_n hO 3 rfl rfl dL_law_787 ?_
      refine x_iconst hO (v := 1) (by decide) dL_law_788 ?_
      refine x_iadd hO dL_law_789 ?_
      refine x_pald hO hx0 dL_law_790 ?_
      refine x_aload_n hO 0 rfl rfl dL_law_791 ?_
      refine x_iload_n hO 3 rfl rfl dL_law_792 ?_
      refine x_iconst hO (v := 2) (by decide) dL_law_793 ?_
      refine x_iadd hO dL_law_794 ?_
      refine x_pald hO hx0 dL_law_795 ?_
      refine y_HI (x_callV hO lv_RL_90 hx1 vc_11 (by decide) (As := [.int (x0x (nx (x3 + ((1 : Int32))))), .int (x0x (nx (x3 + ((2 : Int32)))))]) rfl (Nat.le_of_ble_eq_true rfl) (ok_X11_code (cG Γ) h x1 (x0x (nx (x3 + ((1 : Int32))))) (x0x (nx (x3 + ((2 : Int32))))) hx1) dL_law_796 rfl (Nat.le_of_ble_eq_true rfl)) (fun r33 => ?_)
      refine x_aload_n hO 2 rfl rfl dL_law_799 ?_
      refine x_aload_n hO 0 rfl rfl dL_law_800 ?_
      refine x_iload_n hO 3 rfl rfl dL_law_801 ?_
      refine x_iconst hO (v := 1) (by decide) dL_law_802 ?_
      refine x_iadd hO dL_law_803 ?_
      refine x_pald hO hx0 dL_law_804 ?_
      refine x_aload_n hO 0 rfl rfl dL_law_805 ?_
      refine x_iload_n hO 3 rfl rfl dL_law_806 ?_
      refine x_iconst hO (v := 2) (by decide) dL_law_807 ?_
      refine x_iadd hO dL_law_808 ?_
      refine x_pald hO hx0 dL_law_809 ?_
      refine y_HI (x_callV hO lv_RL_93 hx2 vc_12 (by decide) (As := [.int (x0x (nx (x3 + ((1 : Int32))))), .int (x0x (nx (x3 + ((2 : Int32)))))]) rfl (Nat.le_of_ble_eq_true rfl) (ok_X12_code (cG Γ) r33.1 x2 (x0x (nx (x3 + ((1 : Int32))))) (x0x (nx (x3 + ((2 : Int32))))) hx2) dL_law_810 rfl (Nat.le_of_ble_eq_true rfl)) (fun r34 => ?_)
      refine x_icmp_eq hO (tg := 1736) dL_law_813 (by decide) ?_ ?_
      · refine x_iinc hO 3 (v := 6) [(3, .int (x3 + (6 : Int32))), (0, .ref x0), (1, rf Γ x1), (2, rf Γ x2)] dL_law_1736 rfl (by decide) (by decide) rfl ?_
        refine x_goto hO (tg := 18) dL_law_1739 (by decide) ?_
        exact x_leafs [1, 2, 3, 0] rfl (hC r34.1 (x3 + (6 : Int32)))
      · refine x_iconst hO (v := 0) (by decide) dL_law_816 ?_
        exact x_zretv hO rfl (by decide) dL_law_817 (hR _)
    · refine x_aload_n hO 1 rfl rfl dL_law_818 ?_
      refine x_aload_n hO 0 rfl rfl dL_law_819 ?_
      refine x_iload_n hO 3 rfl rfl dL_law_820 ?_
      refine x_iconst hO (v := 1) (by decide) dL_law_821 ?_
      refine x_iadd hO dL_law_822 ?_
      refine x_pald hO hx0 dL_law_823 ?_
      refine x_aload_n hO 0 rfl rfl dL_law_824 ?_
      refine x_iload_n hO 3 rfl rfl dL_law_825 ?_
      refine x_iconst hO (v := 2) (by decide) dL_law_826 ?_
      refine x_iadd hO dL_law_827 ?_
      refine x_pald hO hx0 dL_law_828 ?_
      refine y_HI (x_callV hO lv_RL_94 hx1 vc_11 (by decide) (As := [.int (x0x (nx (x3 + ((1 : Int32))))), .int (x0x (nx (x3 + ((2 : Int32)))))]) rfl (Nat.le_of_ble_eq_true rfl) (ok_X11_mean (cG Γ) h x1 (x0x (nx (x3 + ((1 : Int32))))) (x0x (nx (x3 + ((2 : Int32))))) hx1) dL_law_829 rfl (Nat.le_of_ble_eq_true rfl)) (fun r35 => ?_)
      refine x_aload_n hO 2 rfl rfl dL_law_832 ?_
      refine x_aload_n hO 0 rfl rfl dL_law_833 ?_
      refine x_iload_n hO 3 rfl rfl dL_law_834 ?_
      refine x_iconst hO (v := 1) (by decide) dL_law_835 ?_
      refine x_iadd hO dL_law_836 ?_
      refine x_pald hO hx0 dL_law_837 ?_
      refine x_aload_n hO 0 rfl rfl dL_law_838 ?_
      refine x_iload_n hO 3 rfl rfl dL_law_839 ?_
      refine x_iconst hO (v := 2) (by decide) dL_law_840 ?_
      refine x_iadd hO dL_law_841 ?_
      refine x_pald hO hx0 dL_law_842 ?_
      refine y_HI (x_callV hO lv_RL_97 hx2 vc_12 (by decide) (As := [.int (x0x (nx (x3 + ((1 : Int32))))), .int (x0x (nx (x3 + ((2 : Int32)))))]) rfl (Nat.le_of_ble_eq_true rfl) (ok_X12_mean (cG Γ) r35.1 x2 (x0x (nx (x3 + ((1 : Int32))))) (x0x (nx (x3 + ((2 : Int32))))) hx2) dL_law_843 rfl (Nat.le_of_ble_eq_true rfl)) (fun r36 => ?_)
      refine x_icmp_eq hO (tg := 1736) dL_law_846 (by decide) ?_ ?_
      · refine x_iinc hO 3 (v := 6) [(3, .int (x3 + (6 : Int32))), (0, .ref x0), (1, rf Γ x1), (2, rf Γ x2)] dL_law_1736 rfl (by decide) (by decide) rfl ?_
        refine x_goto hO (tg := 18) dL_law_1739 (by decide) ?_
        exact x_leafs [1, 2, 3, 0] rfl (hC r36.1 (x3 + (6 : Int32)))
      · refine x_iconst hO (v := 0) (by decide) dL_law_849 ?_
        exact x_zretv hO rfl (by decide) dL_law_850 (hR _)
    · refine x_aload_n hO 1 rfl rfl dL_law_851 ?_
      refine x_aload_n hO 0 rfl rfl dL_law_852 ?_
      refine x_iload_n hO 3 rfl rfl dL_law_853 ?_
      refine x_iconst hO (v := 1) (by decide) dL_law_854 ?_
      refine x_iadd hO dL_law_855 ?_
      refine x_pald hO hx0 dL_law_856 ?_
      refine x_aload_n hO 0 rfl rfl dL_law_857 ?_
      refine x_iload_n hO 3 rfl rfl dL_law_858 ?_
      refine x_iconst hO (v := 2) (by decide) dL_law_859 ?_
      refine x_iadd hO dL_law_860 ?_
      refine x_pald hO hx0 dL_law_861 ?_
      refine x_if_eq hO (tg := 869) dL_law_862 (by decide) ?_ ?_
      · refine x_iconst hO (v := 0) (by decide) dL_law_869 ?_
        exact x_sub [0, 1, 2, 3] rfl (go_L_law_J870 hO h x0 x0L x0x x1 x2 x3 x1 (x0x (nx (x3 + ((1 : Int32))))) ((0 : Int32)) hx0 hx1 hx2 hx1 hC hR)
      · refine x_iconst hO (v := 1) (by decide) dL_law_865 ?_
        refine x_goto hO (tg := 870) dL_law_866 (by decide) ?_
        exact x_sub [0, 1, 2, 3] rfl (go_L_law_J870 hO h x0 x0L x0x x1 x2 x3 x1 (x0x (nx (x3 + ((1 : Int32))))) ((1 : Int32)) hx0 hx1 hx2 hx1 hC hR)
    · refine x_aload_n hO 1 rfl rfl dL_law_900 ?_
      refine x_aload_n hO 0 rfl rfl dL_law_901 ?_
      refine x_iload_n hO 3 rfl rfl dL_law_902 ?_
      refine x_iconst hO (v := 1) (by decide) dL_law_903 ?_
      refine x_iadd hO dL_law_904 ?_
      refine x_pald hO hx0 dL_law_905 ?_
      refine x_aload_n hO 0 rfl rfl dL_law_906 ?_
      refine x_iload_n hO 3 rfl rfl dL_law_907 ?_
      refine x_iconst hO (v := 2) (by decide) dL_law_908 ?_
      refine x_iadd hO dL_law_909 ?_
      refine x_pald hO hx0 dL_law_910 ?_
      refine y_HI (x_callV hO lv_RL_103 hx1 vc_11 (by decide) (As := [.int (x0x (nx (x3 + ((1 : Int32))))), .int (x0x (nx (x3 + ((2 : Int32)))))]) rfl (Nat.le_of_ble_eq_true rfl) (ok_X11_ordered (cG Γ) h x1 (x0x (nx (x3 + ((1 : Int32))))) (x0x (nx (x3 + ((2 : Int32))))) hx1) dL_law_911 rfl (Nat.le_of_ble_eq_true rfl)) (fun r37 => ?_)
      refine x_aload_n hO 2 rfl rfl dL_law_914 ?_
      refine x_aload_n hO 0 rfl rfl dL_law_915 ?_
      refine x_iload_n hO 3 rfl rfl dL_law_916 ?_
      refine x_iconst hO (v := 1) (by decide) dL_law_917 ?_
      refine x_iadd hO dL_law_918 ?_
      refine x_pald hO hx0 dL_law_919 ?_
      refine x_aload_n hO 0 rfl rfl dL_law_920 ?_
      refine x_iload_n hO 3 rfl rfl dL_law_921 ?_
      refine x_iconst hO (v := 2) (by decide) dL_law_922 ?_
      refine x_iadd hO dL_law_923 ?_
      refine x_pald hO hx0 dL_law_924 ?_
      refine y_HI (x_callV hO lv_RL_106 hx2 vc_12 (by decide) (As := [.int (x0x (nx (x3 + ((1 : Int32))))), .int (x0x (nx (x3 + ((2 : Int32)))))]) rfl (Nat.le_of_ble_eq_true rfl) (ok_X12_ordered (cG Γ) r37.1 x2 (x0x (nx (x3 + ((1 : Int32))))) (x0x (nx (x3 + ((2 : Int32))))) hx2) dL_law_925 rfl (Nat.le_of_ble_eq_true rfl)) (fun r38 => ?_)
      refine x_icmp_eq hO (tg := 1736) dL_law_928 (by decide) ?_ ?_
      · refine x_iinc hO 3 (v := 6) [(3, .int (x3 + (6 : Int32))), (0, .ref x0), (1, rf Γ x1), (2, rf Γ x2)] dL_law_1736 rfl (by decide) (by decide) rfl ?_
        refine x_goto hO (tg := 18) dL_law_1739 (by decide) ?_
        exact x_leafs [1, 2, 3, 0] rfl (hC r38.1 (x3 + (6 : Int32)))
      · refine x_iconst hO (v := 0) (by decide) dL_law_931 ?_
        exact x_zretv hO rfl (by decide) dL_law_932 (hR _)
    · refine x_aload_n hO 1 rfl rfl dL_law_933 ?_
      refine x_aload_n hO 0 rfl rfl dL_law_934 ?_
      refine x_iload_n hO 3 rfl rfl dL_law_935 ?_
      refine x_iconst hO (v := 1) (by decide) dL_law_936 ?_
      refine x_iadd hO dL_law_937 ?_
      refine x_pald hO hx0 dL_law_938 ?_
      refine x_aload_n hO 0 rfl rfl dL_law_939 ?_
      refine x_iload_n hO 3 rfl rfl dL_law_940 ?_
      refine x_iconst hO (v := 2) (by decide) dL_law_941 ?_
      refine x_iadd hO dL_law_942 ?_
      refine x_pald hO hx0 dL_law_943 ?_
      refine y_HI (x_callV hO lv_RL_107 hx1 vc_11 (by decide) (As := [.int (x0x (nx (x3 + ((1 : Int32))))), .int (x0x (nx (x3 + ((2 : Int32)))))]) rfl (Nat.le_of_ble_eq_true rfl) (ok_X11_plan (cG Γ) h x1 (x0x (nx (x3 + ((1 : Int32))))) (x0x (nx (x3 + ((2 : Int32))))) hx1) dL_law_944 rfl (Nat.le_of_ble_eq_true rfl)) (fun r39 => ?_)
      refine x_aload_n hO 2 rfl rfl dL_law_947 ?_
      refine x_aload_n hO 0 rfl rfl dL_law_948 ?_
      refine x_iload_n hO 3 rfl rfl dL_law_949 ?_
      refine x_iconst hO (v := 1) (by decide) dL_law_950 ?_
      refine x_iadd hO dL_law_951 ?_
      refine x_pald hO hx0 dL_law_952 ?_
      refine x_aload_n hO 0 rfl rfl dL_law_953 ?_
      refine x_iload_n hO 3 rfl rfl dL_law_954 ?_
      refine x_iconst hO (v := 2) (by decide) dL_law_955 ?_
      refine x_iadd hO dL_law_956 ?_
      refine x_pald hO hx0 dL_law_957 ?_
      refine y_HI (x_callV hO lv_RL_110 hx2 vc_12 (by decide) (As := [.int (x0x (nx (x3 + ((1 : Int32))))), .int (x0x (nx (x3 + ((2 : Int32)))))]) rfl (Nat.le_of_ble_eq_true rfl) (ok_X12_plan (cG Γ) r39.1 x2 (x0x (nx (x3 + ((1 : Int32))))) (x0x (nx (x3 + ((2 : Int32))))) hx2) dL_law_958 rfl (Nat.le_of_ble_eq_true rfl)) (fun r40 => ?_)
      refine x_icmp_eq hO (tg := 1736) dL_law_961 (by decide) ?_ ?_
      · refine x_iinc hO 3 (v := 6) [(3, .int (x3 + (6 : Int32))), (0, .ref x0), (1, rf Γ x1), (2, rf Γ x2)] dL_law_1736 rfl (by decide) (by decide) rfl ?_
        refine x_goto hO (tg := 18) dL_law_1739 (by decide) ?_
        exact x_leafs [1, 2, 3, 0] rfl (hC r40.1 (x3 + (6 : Int32)))
      · refine x_iconst hO (v := 0) (by decide) dL_law_964 ?_
        exact x_zretv hO rfl (by decide) dL_law_965 (hR _)
    · refine x_aload_n hO 1 rfl rfl dL_law_966 ?_
      refine x_aload_n hO 0 rfl rfl dL_law_967 ?_
      refine x_iload_n hO 3 rfl rfl dL_law_968 ?_
      refine x_iconst hO (v := 1) (by decide) dL_law_969 ?_
      refine x_iadd hO dL_law_970 ?_
      refine x_pald hO hx0 dL_law_971 ?_
      refine y_HI (x_callV hO lv_RL_111 hx1 vc_11 (by decide) (As := [.int (x0x (nx (x3 + ((1 : Int32)))))]) rfl (Nat.le_of_ble_eq_true rfl) (ok_X11_planned (cG Γ) h x1 (x0x (nx (x3 + ((1 : Int32))))) hx1) dL_law_972 rfl (Nat.le_of_ble_eq_true rfl)) (fun r41 => ?_)
      refine x_aload_n hO 2 rfl rfl dL_law_975 ?_
      refine x_aload_n hO 0 rfl rfl dL_law_976 ?_
      refine x_iload_n hO 3 rfl rfl dL_law_977 ?_
      refine x_iconst hO (v := 1) (by decide) dL_law_978 ?_
      refine x_iadd hO dL_law_979 ?_
      refine x_pald hO hx0 dL_law_980 ?_
      refine y_HI (x_callV hO lv_RL_114 hx2 vc_12 (by decide) (As := [.int (x0x (nx (x3 + ((1 : Int32)))))]) rfl (Nat.le_of_ble_eq_true rfl) (ok_X12_planned (cG Γ) r41.1 x2 (x0x (nx (x3 + ((1 : Int32))))) hx2) dL_law_981 rfl (Nat.le_of_ble_eq_true rfl)) (fun r42 => ?_)
      refine x_icmp_eq hO (tg := 1736) dL_law_984 (by decide) ?_ ?_
      · refine x_iinc hO 3 (v := 6) [(3, .int (x3 + (6 : Int32))), (0, .ref x0), (1, rf Γ x1), (2, rf Γ x2)] dL_law_1736 rfl (by decide) (by decide) rfl ?_
        refine x_goto hO (tg := 18) dL_law_1739 (by decide) ?_
        exact x_leafs [1, 2, 3, 0] rfl (hC r42.1 (x3 + (6 : Int32)))
      · refine x_iconst hO (v := 0) (by decide) dL_law_987 ?_
        exact x_zretv hO rfl (by decide) dL_law_988 (hR _)
    · refine x_aload_n hO 1 rfl rfl dL_law_989 ?_
      refine x_aload_n hO 0 rfl rfl dL_law_990 ?_
      refine x_iload_n hO 3 rfl rfl dL_law_991 ?_
      refine x_iconst hO (v := 1) (by decide) dL_law_992 ?_
      refine x_iadd hO dL_law_993 ?_
      refine x_pald hO hx0 dL_law_994 ?_
      refine x_aload_n hO 0 rfl rfl dL_law_995 ?_
      refine x_iload_n hO 3 rfl rfl dL_law_996 ?_
      refine x_iconst hO (v := 2) (by decide) dL_law_997 ?_
      refine x_iadd hO dL_law_998 ?_
      refine x_pald hO hx0 dL_law_999 ?_
      refine x_aload_n hO 0 rfl rfl dL_law_1000 ?_
      refine x_iload_n hO 3 rfl rfl dL_law_1001 ?_
      refine x_iconst hO (v := 3) (by decide) dL_law_1002 ?_
      refine x_iadd hO dL_law_1003 ?_
      refine x_pald hO hx0 dL_law_1004 ?_
      refine y_HI (x_callV hO lv_RL_115 hx1 vc_11 (by decide) (As := [.int (x0x (nx (x3 + ((1 : Int32))))), .int (x0x (nx (x3 + ((2 : Int32))))), .int (x0x (nx (x3 + ((3 : Int32)))))]) rfl (Nat.le_of_ble_eq_true rfl) (ok_X11_field (cG Γ) h x1 (x0x (nx (x3 + ((1 : Int32))))) (x0x (nx (x3 + ((2 : Int32))))) (x0x (nx (x3 + ((3 : Int32))))) hx1) dL_law_1005 rfl (Nat.le_of_ble_eq_true rfl)) (fun r43 => ?_)
      refine x_aload_n hO 2 rfl rfl dL_law_1008 ?_
      refine x_aload_n hO 0 rfl rfl dL_law_1009 ?_
      refine x_iload_n hO 3 rfl rfl dL_law_1010 ?_
      refine x_iconst hO (v := 1) (by decide) dL_law_1011 ?_
      refine x_iadd hO dL_law_1012 ?_
      refine x_pald hO hx0 dL_law_1013 ?_
      refine x_aload_n hO 0 rfl rfl dL_law_1014 ?_
      refine x_iload_n hO 3 rfl rfl dL_law_1015 ?_
      refine x_iconst hO (v := 2) (by decide) dL_law_1016 ?_
      refine x_iadd hO dL_law_1017 ?_
      refine x_pald hO hx0 dL_law_1018 ?_
      refine x_aload_n hO 0 rfl rfl dL_law_1019 ?_
      refine x_iload_n hO 3 rfl rfl dL_law_1020 ?_
      refine x_iconst hO (v := 3) (by decide) dL_law_1021 ?_
      refine x_iadd hO dL_law_1022 ?_
      refine x_pald hO hx0 dL_law_1023 ?_
      refine y_HI (x_callV hO lv_RL_118 hx2 vc_12 (by decide) (As := [.int (x0x (nx (x3 + ((1 : Int32))))), .int (x0x (nx (x3 + ((2 : Int32))))), .int (x0x (nx (x3 + ((3 : Int32)))))]) rfl (Nat.le_of_ble_eq_true rfl) (ok_X12_field (cG Γ) r43.1 x2 (x0x (nx (x3 + ((1 : Int32))))) (x0x (nx (x3 + ((2 : Int32))))) (x0x (nx (x3 + ((3 : Int32))))) hx2) dL_law_1024 rfl (Nat.le_of_ble_eq_true rfl)) (fun r44 => ?_)
      refine x_icmp_eq hO (tg := 1736) dL_law_1027 (by decide) ?_ ?_
      · refine x_iinc hO 3 (v := 6) [(3, .int (x3 + (6 : Int32))), (0, .ref x0), (1, rf Γ x1), (2, rf Γ x2)] dL_law_1736 rfl (by decide) (by decide) rfl ?_
        refine x_goto hO (tg := 18) dL_law_1739 (by decide) ?_
        exact x_leafs [1, 2, 3, 0] rfl (hC r44.1 (x3 + (6 : Int32)))
      · refine x_iconst hO (v := 0) (by decide) dL_law_1030 ?_
        exact x_zretv hO rfl (by decide) dL_law_1031 (hR _)
    · refine x_aload_n hO 1 rfl rfl dL_law_1032 ?_
      refine x_aload_n hO 0 rfl rfl dL_law_1033 ?_
      refine x_iload_n hO 3 rfl rfl dL_law_1034 ?_
      refine x_iconst hO (v := 1) (by decide) dL_law_1035 ?_
      refine x_iadd hO dL_law_1036 ?_
      refine x_pald hO hx0 dL_law_1037 ?_
      refine x_aload_n hO 0 rfl rfl dL_law_1038 ?_
      refine x_iload_n hO 3 rfl rfl dL_law_1039 ?_
      refine x_iconst hO (v := 2) (by decide) dL_law_1040 ?_
      refine x_iadd hO dL_law_1041 ?_
      refine x_pald hO hx0 dL_law_1042 ?_
      refine x_aload_n hO 0 rfl rfl dL_law_1043 ?_
      refine x_iload_n hO 3 rfl rfl dL_law_1044 ?_
      refine x_iconst hO (v := 3) (by decide) dL_law_1045 ?_
      refine x_iadd hO dL_law_1046 ?_
      refine x_pald hO hx0 dL_law_1047 ?_
      refine x_aload_n hO 0 rfl rfl dL_law_1048 ?_
      refine x_iload_n hO 3 rfl rfl dL_law_1049 ?_
      refine x_iconst hO (v := 4) (by decide) dL_law_1050 ?_
      refine x_iadd hO dL_law_1051 ?_
      refine x_pald hO hx0 dL_law_1052 ?_
      refine y_HI (x_callV hO lv_RL_119 hx1 vc_11 (by decide) (As := [.int (x0x (nx (x3 + ((1 : Int32))))), .int (x0x (nx (x3 + ((2 : Int32))))), .int (x0x (nx (x3 + ((3 : Int32))))), .int (x0x (nx (x3 + ((4 : Int32)))))]) rfl (Nat.le_of_ble_eq_true rfl) (ok_X11_sum (cG Γ) h x1 (x0x (nx (x3 + ((1 : Int32))))) (x0x (nx (x3 + ((2 : Int32))))) (x0x (nx (x3 + ((3 : Int32))))) (x0x (nx (x3 + ((4 : Int32))))) hx1) dL_law_1053 rfl (Nat.le_of_ble_eq_true rfl)) (fun r45 => ?_)
      refine x_aload_n hO 2 rfl rfl dL_law_1056 ?_
      refine x_aload_n hO 0 rfl rfl dL_law_1057 ?_
      refine x_iload_n hO 3 rfl rfl dL_law_1058 ?_
      refine x_iconst hO (v := 1) (by decide) dL_law_1059 ?_
      refine x_iadd hO dL_law_1060 ?_
      refine x_pald hO hx0 dL_law_1061 ?_
      refine x_aload_n hO 0 rfl rfl dL_law_1062 ?_
      refine x_iload_n hO 3 rfl rfl dL_law_1063 ?_
      refine x_iconst hO (v := 2) (by decide) dL_law_1064 ?_
      refine x_iadd hO dL_law_1065 ?_
      refine x_pald hO hx0 dL_law_1066 ?_
      refine x_aload_n hO 0 rfl rfl dL_law_1067 ?_
      refine x_iload_n hO 3 rfl rfl dL_law_1068 ?_
      refine x_iconst hO (v := 3) (by decide) dL_law_1069 ?_
      refine x_iadd hO dL_law_1070 ?_
      refine x_pald hO hx0 dL_law_1071 ?_
      refine x_aload_n hO 0 rfl rfl dL_law_1072 ?_
      refine x_iload_n hO 3 rfl rfl dL_law_1073 ?_
      refine x_iconst hO (v := 4) (by decide) dL_law_1074 ?_
      refine x_iadd hO dL_law_1075 ?_
      refine x_pald hO hx0 dL_law_1076 ?_
      refine y_HI (x_callV hO lv_RL_123 hx2 vc_12 (by decide) (As := [.int (x0x (nx (x3 + ((1 : Int32))))), .int (x0x (nx (x3 + ((2 : Int32))))), .int (x0x (nx (x3 + ((3 : Int32))))), .int (x0x (nx (x3 + ((4 : Int32)))))]) rfl (Nat.le_of_ble_eq_true rfl) (ok_X12_sum (cG Γ) r45.1 x2 (x0x (nx (x3 + ((1 : Int32))))) (x0x (nx (x3 + ((2 : Int32))))) (x0x (nx (x3 + ((3 : Int32))))) (x0x (nx (x3 + ((4 : Int32))))) hx2) dL_law_1077 rfl (Nat.le_of_ble_eq_true rfl)) (fun r46 => ?_)
      refine x_icmp_eq hO (tg := 1736) dL_law_1080 (by decide) ?_ ?_
      · refine x_iinc hO 3 (v := 6) [(3, .int (x3 + (6 : Int32))), (0, .ref x0), (1, rf Γ x1), (2, rf Γ x2)] dL_law_1736 rfl (by decide) (by decide) rfl ?_
        refine x_goto hO (tg := 18) dL_law_1739 (by decide) ?_
        exact x_leafs [1, 2, 3, 0] rfl (hC r46.1 (x3 + (6 : Int32)))
      · refine x_iconst hO (v := 0) (by decide) dL_law_1083 ?_
        exact x_zretv hO rfl (by decide) dL_law_1084 (hR _)
    · refine x_aload_n hO 1 rfl rfl dL_law_1085 ?_
      refine x_aload_n hO 0 rfl rfl dL_law_1086 ?_
      refine x_iload_n hO 3 rfl rfl dL_law_1087 ?_
      refine x_iconst hO (v := 1) (by decide) dL_law_1088 ?_
      refine x_iadd hO dL_law_1089 ?_
      refine x_pald hO hx0 dL_law_1090 ?_
      refine x_aload_n hO 0 rfl rfl dL_law_1091 ?_
      refine x_iload_n hO 3 rfl rfl dL_law_1092 ?_
      refine x_iconst hO (v := 2) (by decide) dL_law_1093 ?_
      refine x_iadd hO dL_law_1094 ?_
      refine x_pald hO hx0 dL_law_1095 ?_
      refine x_aload_n hO 0 rfl rfl dL_law_1096 ?_
      refine x_iload_n hO 3 rfl rfl dL_law_1097 ?_
      refine x_iconst hO (v := 3) (by decide) dL_law_1098 ?_
      refine x_iadd hO dL_law_1099 ?_
      refine x_pald hO hx0 dL_law_1100 ?_
      refine x_aload_n hO 0 rfl rfl dL_law_1101 ?_
      refine x_iload_n hO 3 rfl rfl dL_law_1102 ?_
      refine x_iconst hO (v := 4) (by decide) dL_law_1103 ?_
      refine x_iadd hO dL_law_1104 ?_
      refine x_pald hO hx0 dL_law_1105 ?_
      refine x_aload_n hO 0 rfl rfl dL_law_1106 ?_
      refine x_iload_n hO 3 rfl rfl dL_law_1107 ?_
      refine x_iconst hO (v := 5) (by decide) dL_law_1108 ?_
      refine x_iadd hO dL_law_1109 ?_
      refine x_pald hO hx0 dL_law_1110 ?_
      refine y_HI (x_callV hO lv_RL_124 hx1 vc_11 (by decide) (As := [.int (x0x (nx (x3 + ((1 : Int32))))), .int (x0x (nx (x3 + ((2 : Int32))))), .int (x0x (nx (x3 + ((3 : Int32))))), .int (x0x (nx (x3 + ((4 : Int32))))), .int (x0x (nx (x3 + ((5 : Int32)))))]) rfl (Nat.le_of_ble_eq_true rfl) (ok_X11_pocket (cG Γ) h x1 (x0x (nx (x3 + ((1 : Int32))))) (x0x (nx (x3 + ((2 : Int32))))) (x0x (nx (x3 + ((3 : Int32))))) (x0x (nx (x3 + ((4 : Int32))))) (x0x (nx (x3 + ((5 : Int32))))) hx1) dL_law_1111 rfl (Nat.le_of_ble_eq_true rfl)) (fun r47 => ?_)
      refine x_aload_n hO 2 rfl rfl dL_law_1114 ?_
      refine x_aload_n hO 0 rfl rfl dL_law_1115 ?_
      refine x_iload_n hO 3 rfl rfl dL_law_1116 ?_
      refine x_iconst hO (v := 1) (by decide) dL_law_1117 ?_
      refine x_iadd hO dL_law_1118 ?_
      refine x_pald hO hx0 dL_law_1119 ?_
      refine x_aload_n hO 0 rfl rfl dL_law_1120 ?_
      refine x_iload_n hO 3 rfl rfl dL_law_1121 ?_
      refine x_iconst hO (v := 2) (by decide) dL_law_1122 ?_
      refine x_iadd hO dL_law_1123 ?_
      refine x_pald hO hx0 dL_law_1124 ?_
      refine x_aload_n hO 0 rfl rfl dL_law_1125 ?_
      refine x_iload_n hO 3 rfl rfl dL_law_1126 ?_
      refine x_iconst hO (v := 3) (by decide) dL_law_1127 ?_
      refine x_iadd hO dL_law_1128 ?_
      refine x_pald hO hx0 dL_law_1129 ?_
      refine x_aload_n hO 0 rfl rfl dL_law_1130 ?_
      refine x_iload_n hO 3 rfl rfl dL_law_1131 ?_
      refine x_iconst hO (v := 4) (by decide) dL_law_1132 ?_
      refine x_iadd hO dL_law_1133 ?_
      refine x_pald hO hx0 dL_law_1134 ?_
      refine x_aload_n hO 0 rfl rfl dL_law_1135 ?_
      refine x_iload_n hO 3 rfl rfl dL_law_1136 ?_
      refine x_iconst hO (v := 5) (by decide) dL_law_1137 ?_
      refine x_iadd hO dL_law_1138 ?_
      refine x_pald hO hx0 dL_law_1139 ?_
      refine y_HI (x_callV hO lv_RL_127 hx2 vc_12 (by decide) (As := [.int (x0x (nx (x3 + ((1 : Int32))))), .int (x0x (nx (x3 + ((2 : Int32))))), .int (x0x (nx (x3 + ((3 : Int32))))), .int (x0x (nx (x3 + ((4 : Int32))))), .int (x0x (nx (x3 + ((5 : Int32)))))]) rfl (Nat.le_of_ble_eq_true rfl) (ok_X12_pocket (cG Γ) r47.1 x2 (x0x (nx (x3 + ((1 : Int32))))) (x0x (nx (x3 + ((2 : Int32))))) (x0x (nx (x3 + ((3 : Int32))))) (x0x (nx (x3 + ((4 : Int32))))) (x0x (nx (x3 + ((5 : Int32))))) hx2) dL_law_1140 rfl (Nat.le_of_ble_eq_true rfl)) (fun r48 => ?_)
      refine x_icmp_eq hO (tg := 1736) dL_law_1143 (by decide) ?_ ?_
      · refine x_iinc hO 3 (v := 6) [(3, .int (x3 + (6 : Int32))), (0, .ref x0), (1, rf Γ x1), (2, rf Γ x2)] dL_law_1736 rfl (by decide) (by decide) rfl ?_
        refine x_goto hO (tg := 18) dL_law_1739 (by decide) ?_
        exact x_leafs [1, 2, 3, 0] rfl (hC r48.1 (x3 + (6 : Int32)))
      · refine x_iconst hO (v := 0) (by decide) dL_law_1146 ?_
        exact x_zretv hO rfl (by decide) dL_law_1147 (hR _)
    · refine x_aload_n hO 1 rfl rfl dL_law_1148 ?_
      refine x_aload_n hO 0 rfl rfl dL_law_1149 ?_
      refine x_iload_n hO 3 rfl rfl dL_law_1150 ?_
      refine x_iconst hO (v := 1) (by decide) dL_law_1151 ?_
      refine x_iadd hO dL_law_1152 ?_
      refine x_pald hO hx0 dL_law_1153 ?_
      refine x_aload_n hO 0 rfl rfl dL_law_1154 ?_
      refine x_iload_n hO 3 rfl rfl dL_law_1155 ?_
      refine x_iconst hO (v := 2) (by decide) dL_law_1156 ?_
      refine x_iadd hO dL_law_1157 ?_
      refine x_pald hO hx0 dL_law_1158 ?_
      refine y_HI (x_callV hO lv_RL_128 hx1 vc_11 (by decide) (As := [.int (x0x (nx (x3 + ((1 : Int32))))), .int (x0x (nx (x3 + ((2 : Int32)))))]) rfl (Nat.le_of_ble_eq_true rfl) (ok_X11_collate (cG Γ) h x1 (x0x (nx (x3 + ((1 : Int32))))) (x0x (nx (x3 + ((2 : Int32))))) hx1) dL_law_1159 rfl (Nat.le_of_ble_eq_true rfl)) (fun r49 => ?_)
      refine x_aload_n hO 2 rfl rfl dL_law_1162 ?_
      refine x_aload_n hO 0 rfl rfl dL_law_1163 ?_
      refine x_iload_n hO 3 rfl rfl dL_law_1164 ?_
      refine x_iconst hO (v := 1) (by decide) dL_law_1165 ?_
      refine x_iadd hO dL_law_1166 ?_
      refine x_pald hO hx0 dL_law_1167 ?_
      refine x_aload_n hO 0 rfl rfl dL_law_1168 ?_
      refine x_iload_n hO 3 rfl rfl dL_law_1169 ?_
      refine x_iconst hO (v := 2) (by decide) dL_law_1170 ?_
      refine x_iadd hO dL_law_1171 ?_
      refine x_pald hO hx0 dL_law_1172 ?_
      refine y_HI (x_callV hO lv_RL_131 hx2 vc_12 (by decide) (As := [.int (x0x (nx (x3 + ((1 : Int32))))), .int (x0x (nx (x3 + ((2 : Int32)))))]) rfl (Nat.le_of_ble_eq_true rfl) (ok_X12_collate (cG Γ) r49.1 x2 (x0x (nx (x3 + ((1 : Int32))))) (x0x (nx (x3 + ((2 : Int32))))) hx2) dL_law_1173 rfl (Nat.le_of_ble_eq_true rfl)) (fun r50 => ?_)
      refine x_icmp_eq hO (tg := 1736) dL_law_1176 (by decide) ?_ ?_
      · refine x_iinc hO 3 (v := 6) [(3, .int (x3 + (6 : Int32))), (0, .ref x0), (1, rf Γ x1), (2, rf Γ x2)] dL_law_1736 rfl (by decide) (by decide) rfl ?_
        refine x_goto hO (tg := 18) dL_law_1739 (by decide) ?_
        exact x_leafs [1, 2, 3, 0] rfl (hC r50.1 (x3 + (6 : Int32)))
      · refine x_iconst hO (v := 0) (by decide) dL_law_1179 ?_
        exact x_zretv hO rfl (by decide) dL_law_1180 (hR _)
    · refine x_aload_n hO 1 rfl rfl dL_law_1181 ?_
      refine x_aload_n hO 0 rfl rfl dL_law_1182 ?_
      refine x_iload_n hO 3 rfl rfl dL_law_1183 ?_
      refine x_iconst hO (v := 1) (by decide) dL_law_1184 ?_
      refine x_iadd hO dL_law_1185 ?_
      refine x_pald hO hx0 dL_law_1186 ?_
      refine x_aload_n hO 0 rfl rfl dL_law_1187 ?_
      refine x_iload_n hO 3 rfl rfl dL_law_1188 ?_
      refine x_iconst hO (v := 2) (by decide) dL_law_1189 ?_
      refine x_iadd hO dL_law_1190 ?_
      refine x_pald hO hx0 dL_law_1191 ?_
      refine x_aload_n hO 0 rfl rfl dL_law_1192 ?_
      refine x_iload_n hO 3 rfl rfl dL_law_1193 ?_
      refine x_iconst hO (v := 3) (by decide) dL_law_1194 ?_
      refine x_iadd hO dL_law_1195 ?_
      refine x_pald hO hx0 dL_law_1196 ?_
      refine y_HI (x_callV hO lv_RL_132 hx1 vc_11 (by decide) (As := [.int (x0x (nx (x3 + ((1 : Int32))))), .int (x0x (nx (x3 + ((2 : Int32))))), .int (x0x (nx (x3 + ((3 : Int32)))))]) rfl (Nat.le_of_ble_eq_true rfl) (ok_X11_matched (cG Γ) h x1 (x0x (nx (x3 + ((1 : Int32))))) (x0x (nx (x3 + ((2 : Int32))))) (x0x (nx (x3 + ((3 : Int32))))) hx1) dL_law_1197 rfl (Nat.le_of_ble_eq_true rfl)) (fun r51 => ?_)
      refine x_aload_n hO 2 rfl rfl dL_law_1200 ?_
      refine x_aload_n hO 0 rfl rfl dL_law_1201 ?_
      refine x_iload_n hO 3 rfl rfl dL_law_1202 ?_
      refine x_iconst hO (v := 1) (by decide) dL_law_1203 ?_
      refine x_iadd hO dL_law_1204 ?_
      refine x_pald hO hx0 dL_law_1205 ?_
      refine x_aload_n hO 0 rfl rfl dL_law_1206 ?_
      refine x_iload_n hO 3 rfl rfl dL_law_1207 ?_
      refine x_iconst hO (v := 2) (by decide) dL_law_1208 ?_
      refine x_iadd hO dL_law_1209 ?_
      refine x_pald hO hx0 dL_law_1210 ?_
      refine x_aload_n hO 0 rfl rfl dL_law_1211 ?_
      refine x_iload_n hO 3 rfl rfl dL_law_1212 ?_
      refine x_iconst hO (v := 3) (by decide) dL_law_1213 ?_
      refine x_iadd hO dL_law_1214 ?_
      refine x_pald hO hx0 dL_law_1215 ?_
      refine y_HI (x_callV hO lv_RL_135 hx2 vc_12 (by decide) (As := [.int (x0x (nx (x3 + ((1 : Int32))))), .int (x0x (nx (x3 + ((2 : Int32))))), .int (x0x (nx (x3 + ((3 : Int32)))))]) rfl (Nat.le_of_ble_eq_true rfl) (ok_X12_matched (cG Γ) r51.1 x2 (x0x (nx (x3 + ((1 : Int32))))) (x0x (nx (x3 + ((2 : Int32))))) (x0x (nx (x3 + ((3 : Int32))))) hx2) dL_law_1216 rfl (Nat.le_of_ble_eq_true rfl)) (fun r52 => ?_)
      refine x_icmp_eq hO (tg := 1736) dL_law_1219 (by decide) ?_ ?_
      · refine x_iinc hO 3 (v := 6) [(3, .int (x3 + (6 : Int32))), (0, .ref x0), (1, rf Γ x1), (2, rf Γ x2)] dL_law_1736 rfl (by decide) (by decide) rfl ?_
        refine x_goto hO (tg := 18) dL_law_1739 (by decide) ?_
        exact x_leafs [1, 2, 3, 0] rfl (hC r52.1 (x3 + (6 : Int32)))
      · refine x_iconst hO (v := 0) (by decide) dL_law_1222 ?_
        exact x_zretv hO rfl (by decide) dL_law_1223 (hR _)
    · refine x_aload_n hO 1 rfl rfl dL_law_1224 ?_
      refine x_aload_n hO 0 rfl rfl dL_law_1225 ?_
      refine x_iload_n hO 3 rfl rfl dL_law_1226 ?_
      refine x_iconst hO (v := 1) (by decide) dL_law_1227 ?_
      refine x_iadd hO dL_law_1228 ?_
      refine x_pald hO hx0 dL_law_1229 ?_
      refine y_HI (x_callV hO lv_RL_136 hx1 vc_11 (by decide) (As := [.int (x0x (nx (x3 + ((1 : Int32)))))]) rfl (Nat.le_of_ble_eq_true rfl) (ok_X11_program (cG Γ) h x1 (x0x (nx (x3 + ((1 : Int32))))) hx1) dL_law_1230 rfl (Nat.le_of_ble_eq_true rfl)) (fun r53 => ?_)
      refine x_aload_n hO 2 rfl rfl dL_law_1233 ?_
      refine x_aload_n hO 0 rfl rfl dL_law_1234 ?_
      refine x_iload_n hO 3 rfl rfl dL_law_1235 ?_
      refine x_iconst hO (v := 1) (by decide) dL_law_1236 ?_
      refine x_iadd hO dL_law_1237 ?_
      refine x_pald hO hx0 dL_law_1238 ?_
      refine y_HI (x_callV hO lv_RL_139 hx2 vc_12 (by decide) (As := [.int (x0x (nx (x3 + ((1 : Int32)))))]) rfl (Nat.le_of_ble_eq_true rfl) (ok_X12_program (cG Γ) r53.1 x2 (x0x (nx (x3 + ((1 : Int32))))) hx2) dL_law_1239 rfl (Nat.le_of_ble_eq_true rfl)) (fun r54 => ?_)
      refine x_icmp_eq hO (tg := 1736) dL_law_1242 (by decide) ?_ ?_
      · refine x_iinc hO 3 (v := 6) [(3, .int (x3 + (6 : Int32))), (0, .ref x0), (1, rf Γ x1), (2, rf Γ x2)] dL_law_1736 rfl (by decide) (by decide) rfl ?_
        refine x_goto hO (tg := 18) dL_law_1739 (by decide) ?_
        exact x_leafs [1, 2, 3, 0] rfl (hC r54.1 (x3 + (6 : Int32)))
      · refine x_iconst hO (v := 0) (by decide) dL_law_1245 ?_
        exact x_zretv hO rfl (by decide) dL_law_1246 (hR _)
    · refine x_aload_n hO 1 rfl rfl dL_law_1247 ?_
      refine y_HI (x_callV hO lv_RL_140 hx1 vc_11 (by decide) (As := []) rfl (Nat.le_of_ble_eq_true rfl) (ok_X11_run (cG Γ) h x1 hx1) dL_law_1248 rfl (Nat.le_of_ble_eq_true rfl)) (fun r55 => ?_)
      refine x_aload_n hO 2 rfl rfl dL_law_1251 ?_
      refine y_HI (x_callV hO lv_RL_143 hx2 vc_12 (by decide) (As := []) rfl (Nat.le_of_ble_eq_true rfl) (ok_X12_run (cG Γ) r55.1 x2 hx2) dL_law_1252 rfl (Nat.le_of_ble_eq_true rfl)) (fun r56 => ?_)
      refine x_icmp_eq hO (tg := 1736) dL_law_1255 (by decide) ?_ ?_
      · refine x_iinc hO 3 (v := 6) [(3, .int (x3 + (6 : Int32))), (0, .ref x0), (1, rf Γ x1), (2, rf Γ x2)] dL_law_1736 rfl (by decide) (by decide) rfl ?_
        refine x_goto hO (tg := 18) dL_law_1739 (by decide) ?_
        exact x_leafs [1, 2, 3, 0] rfl (hC r56.1 (x3 + (6 : Int32)))
      · refine x_iconst hO (v := 0) (by decide) dL_law_1258 ?_
        exact x_zretv hO rfl (by decide) dL_law_1259 (hR _)
    · refine x_aload_n hO 1 rfl rfl dL_law_1260 ?_
      refine x_aload_n hO 0 rfl rfl dL_law_1261 ?_
      refine x_iload_n hO 3 rfl rfl dL_law_1262 ?_
      refine x_iconst hO (v := 1) (by decide) dL_law_1263 ?_
      refine x_iadd hO dL_law_1264 ?_
      refine x_pald hO hx0 dL_law_1265 ?_
      refine y_HL (x_callV hO lv_RL_144 hx1 vc_11 (by decide) (As := [.int (x0x (nx (x3 + ((1 : Int32)))))]) rfl (Nat.le_of_ble_eq_true rfl) (ok_X11_ran (cG Γ) h x1 (x0x (nx (x3 + ((1 : Int32))))) hx1) dL_law_1266 rfl (Nat.le_of_ble_eq_true rfl)) (fun r57 => ?_)
      refine x_aload_n hO 2 rfl rfl dL_law_1269 ?_
      refine x_aload_n hO 0 rfl rfl dL_law_1270 ?_
      refine x_iload_n hO 3 rfl rfl dL_law_1271 ?_
      refine x_iconst hO (v := 1) (by decide) dL_law_1272 ?_
      refine x_iadd hO dL_law_1273 ?_
      refine x_pald hO hx0 dL_law_1274 ?_
      refine y_HL (x_callV hO lv_RL_148 hx2 vc_12 (by decide) (As := [.int (x0x (nx (x3 + ((1 : Int32)))))]) rfl (Nat.le_of_ble_eq_true rfl) (ok_X12_ran (cG Γ) r57.1 x2 (x0x (nx (x3 + ((1 : Int32))))) hx2) dL_law_1275 rfl (Nat.le_of_ble_eq_true rfl)) (fun r58 => ?_)
      refine x_lcmp hO dL_law_1278 ?_
      refine x_if_eq hO (tg := 1736) dL_law_1279 (by decide) ?_ ?_
      · refine x_iinc hO 3 (v := 6) [(3, .int (x3 + (6 : Int32))), (0, .ref x0), (1, rf Γ x1), (2, rf Γ x2)] dL_law_1736 rfl (by decide) (by decide) rfl ?_
        refine x_goto hO (tg := 18) dL_law_1739 (by decide) ?_
        exact x_leafs [1, 2, 3, 0] rfl (hC r58.1 (x3 + (6 : Int32)))
      · refine x_iconst hO (v := 0) (by decide) dL_law_1282 ?_
        exact x_zretv hO rfl (by decide) dL_law_1283 (hR _)
    · refine x_aload_n hO 1 rfl rfl dL_law_1284 ?_
      refine x_aload_n hO 0 rfl rfl dL_law_1285 ?_
      refine x_iload_n hO 3 rfl rfl dL_law_1286 ?_
      refine x_iconst hO (v := 1) (by decide) dL_law_1287 ?_
      refine x_iadd hO dL_law_1288 ?_
      refine x_pald hO hx0 dL_law_1289 ?_
      refine x_aload_n hO 0 rfl rfl dL_law_1290 ?_
      refine x_iload_n hO 3 rfl rfl dL_law_1291 ?_
      refine x_iconst hO (v := 2) (by decide) dL_law_1292 ?_
      refine x_iadd hO dL_law_1293 ?_
      refine x_pald hO hx0 dL_law_1294 ?_
      refine y_HI (x_callV hO lv_RL_149 hx1 vc_11 (by decide) (As := [.int (x0x (nx (x3 + ((1 : Int32))))), .int (x0x (nx (x3 + ((2 : Int32)))))]) rfl (Nat.le_of_ble_eq_true rfl) (ok_X11_fewest (cG Γ) h x1 (x0x (nx (x3 + ((1 : Int32))))) (x0x (nx (x3 + ((2 : Int32))))) hx1) dL_law_1295 rfl (Nat.le_of_ble_eq_true rfl)) (fun r59 => ?_)
      refine x_aload_n hO 2 rfl rfl dL_law_1298 ?_
      refine x_aload_n hO 0 rfl rfl dL_law_1299 ?_
      refine x_iload_n hO 3 rfl rfl dL_law_1300 ?_
      refine x_iconst hO (v := 1) (by decide) dL_law_1301 ?_
      refine x_iadd hO dL_law_1302 ?_
      refine x_pald hO hx0 dL_law_1303 ?_
      refine x_aload_n hO 0 rfl rfl dL_law_1304 ?_
      refine x_iload_n hO 3 rfl rfl dL_law_1305 ?_
      refine x_iconst hO (v := 2) (by decide) dL_law_1306 ?_
      refine x_iadd hO dL_law_1307 ?_
      refine x_pald hO hx0 dL_law_1308 ?_
      refine y_HI (x_callV hO lv_RL_152 hx2 vc_12 (by decide) (As := [.int (x0x (nx (x3 + ((1 : Int32))))), .int (x0x (nx (x3 + ((2 : Int32)))))]) rfl (Nat.le_of_ble_eq_true rfl) (ok_X12_fewest (cG Γ) r59.1 x2 (x0x (nx (x3 + ((1 : Int32))))) (x0x (nx (x3 + ((2 : Int32))))) hx2) dL_law_1309 rfl (Nat.le_of_ble_eq_true rfl)) (fun r60 => ?_)
      refine x_icmp_eq hO (tg := 1736) dL_law_1312 (by decide) ?_ ?_
      · refine x_iinc hO 3 (v := 6) [(3, .int (x3 + (6 : Int32))), (0, .ref x0), (1, rf Γ x1), (2, rf Γ x2)] dL_law_1736 rfl (by decide) (by decide) rfl ?_
        refine x_goto hO (tg := 18) dL_law_1739 (by decide) ?_
        exact x_leafs [1, 2, 3, 0] rfl (hC r60.1 (x3 + (6 : Int32)))
      · refine x_iconst hO (v := 0) (by decide) dL_law_1315 ?_
        exact x_zretv hO rfl (by decide) dL_law_1316 (hR _)
    · refine x_aload_n hO 1 rfl rfl dL_law_1317 ?_
      refine x_aload_n hO 0 rfl rfl dL_law_1318 ?_
      refine x_iload_n hO 3 rfl rfl dL_law_1319 ?_
      refine x_iconst hO (v := 1) (by decide) dL_law_1320 ?_
      refine x_iadd hO dL_law_1321 ?_
      refine x_pald hO hx0 dL_law_1322 ?_
      refine y_HI (x_callV hO lv_RL_153 hx1 vc_11 (by decide) (As := [.int (x0x (nx (x3 + ((1 : Int32)))))]) rfl (Nat.le_of_ble_eq_true rfl) (ok_X11_misread (cG Γ) h x1 (x0x (nx (x3 + ((1 : Int32))))) hx1) dL_law_1323 rfl (Nat.le_of_ble_eq_true rfl)) (fun r61 => ?_)
      refine x_aload_n hO 2 rfl rfl dL_law_1326 ?_
      refine x_aload_n hO 0 rfl rfl dL_law_1327 ?_
      refine x_iload_n hO 3 rfl rfl dL_law_1328 ?_
      refine x_iconst hO (v := 1) (by decide) dL_law_1329 ?_
      refine x_iadd hO dL_law_1330 ?_
      refine x_pald hO hx0 dL_law_1331 ?_
      refine y_HI (x_callV hO lv_RL_156 hx2 vc_12 (by decide) (As := [.int (x0x (nx (x3 + ((1 : Int32)))))]) rfl (Nat.le_of_ble_eq_true rfl) (ok_X12_misread (cG Γ) r61.1 x2 (x0x (nx (x3 + ((1 : Int32))))) hx2) dL_law_1332 rfl (Nat.le_of_ble_eq_true rfl)) (fun r62 => ?_)
      refine x_icmp_eq hO (tg := 1736) dL_law_1335 (by decide) ?_ ?_
      · refine x_iinc hO 3 (v := 6) [(3, .int (x3 + (6 : Int32))), (0, .ref x0), (1, rf Γ x1), (2, rf Γ x2)] dL_law_1736 rfl (by decide) (by decide) rfl ?_
        refine x_goto hO (tg := 18) dL_law_1739 (by decide) ?_
        exact x_leafs [1, 2, 3, 0] rfl (hC r62.1 (x3 + (6 : Int32)))
      · refine x_iconst hO (v := 0) (by decide) dL_law_1338 ?_
        exact x_zretv hO rfl (by decide) dL_law_1339 (hR _)
    · refine x_aload_n hO 1 rfl rfl dL_law_1340 ?_
      refine x_aload_n hO 0 rfl rfl dL_law_1341 ?_
      refine x_iload_n hO 3 rfl rfl dL_law_1342 ?_
      refine x_iconst hO (v := 1) (by decide) dL_law_1343 ?_
      refine x_iadd hO dL_law_1344 ?_
      refine x_pald hO hx0 dL_law_1345 ?_
      refine x_aload_n hO 0 rfl rfl dL_law_1346 ?_
      refine x_iload_n hO 3 rfl rfl dL_law_1347 ?_
      refine x_iconst hO (v := 2) (by decide) dL_law_1348 ?_
      refine x_iadd hO dL_law_1349 ?_
      refine x_pald hO hx0 dL_law_1350 ?_
      refine y_HI (x_callV hO lv_RL_157 hx1 vc_11 (by decide) (As := [.int (x0x (nx (x3 + ((1 : Int32))))), .int (x0x (nx (x3 + ((2 : Int32)))))]) rfl (Nat.le_of_ble_eq_true rfl) (ok_X11_parts (cG Γ) h x1 (x0x (nx (x3 + ((1 : Int32))))) (x0x (nx (x3 + ((2 : Int32))))) hx1) dL_law_1351 rfl (Nat.le_of_ble_eq_true rfl)) (fun r63 => ?_)
      refine x_aload_n hO 2 rfl rfl dL_law_1354 ?_
      refine x_aload_n hO 0 rfl rfl dL_law_1355 ?_
      refine x_iload_n hO 3 rfl rfl dL_law_1356 ?_
      refine x_iconst hO (v := 1) (by decide) dL_law_1357 ?_
      refine x_iadd hO dL_law_1358 ?_
      refine x_pald hO hx0 dL_law_1359 ?_
      refine x_aload_n hO 0 rfl rfl dL_law_1360 ?_
      refine x_iload_n hO 3 rfl rfl dL_law_1361 ?_
      refine x_iconst hO (v := 2) (by decide) dL_law_1362 ?_
      refine x_iadd hO dL_law_1363 ?_
      refine x_pald hO hx0 dL_law_1364 ?_
      refine y_HI (x_callV hO lv_RL_160 hx2 vc_12 (by decide) (As := [.int (x0x (nx (x3 + ((1 : Int32))))), .int (x0x (nx (x3 + ((2 : Int32)))))]) rfl (Nat.le_of_ble_eq_true rfl) (ok_X12_parts (cG Γ) r63.1 x2 (x0x (nx (x3 + ((1 : Int32))))) (x0x (nx (x3 + ((2 : Int32))))) hx2) dL_law_1365 rfl (Nat.le_of_ble_eq_true rfl)) (fun r64 => ?_)
      refine x_icmp_eq hO (tg := 1736) dL_law_1368 (by decide) ?_ ?_
      · refine x_iinc hO 3 (v := 6) [(3, .int (x3 + (6 : Int32))), (0, .ref x0), (1, rf Γ x1), (2, rf Γ x2)] dL_law_1736 rfl (by decide) (by decide) rfl ?_
        refine x_goto hO (tg := 18) dL_law_1739 (by decide) ?_
        exact x_leafs [1, 2, 3, 0] rfl (hC r64.1 (x3 + (6 : Int32)))
      · refine x_iconst hO (v := 0) (by decide) dL_law_1371 ?_
        exact x_zretv hO rfl (by decide) dL_law_1372 (hR _)
    · refine x_aload_n hO 1 rfl rfl dL_law_1373 ?_
      refine x_aload_n hO 0 rfl rfl dL_law_1374 ?_
      refine x_iload_n hO 3 rfl rfl dL_law_1375 ?_
      refine x_iconst hO (v := 1) (by decide) dL_law_1376 ?_
      refine x_iadd hO dL_law_1377 ?_
      refine x_pald hO hx0 dL_law_1378 ?_
      refine y_HI (x_callV hO lv_RL_161 hx1 vc_11 (by decide) (As := [.int (x0x (nx (x3 + ((1 : Int32)))))]) rfl (Nat.le_of_ble_eq_true rfl) (ok_X11_parted (cG Γ) h x1 (x0x (nx (x3 + ((1 : Int32))))) hx1) dL_law_1379 rfl (Nat.le_of_ble_eq_true rfl)) (fun r65 => ?_)
      refine x_aload_n hO 2 rfl rfl dL_law_1382 ?_
      refine x_aload_n hO 0 rfl rfl dL_law_1383 ?_
      refine x_iload_n hO 3 rfl rfl dL_law_1384 ?_
      refine x_iconst hO (v := 1) (by decide) dL_law_1385 ?_
      refine x_iadd hO dL_law_1386 ?_
      refine x_pald hO hx0 dL_law_1387 ?_
      refine y_HI (x_callV hO lv_RL_164 hx2 vc_12 (by decide) (As := [.int (x0x (nx (x3 + ((1 : Int32)))))]) rfl (Nat.le_of_ble_eq_true rfl) (ok_X12_parted (cG Γ) r65.1 x2 (x0x (nx (x3 + ((1 : Int32))))) hx2) dL_law_1388 rfl (Nat.le_of_ble_eq_true rfl)) (fun r66 => ?_)
      refine x_icmp_eq hO (tg := 1736) dL_law_1391 (by decide) ?_ ?_
      · refine x_iinc hO 3 (v := 6) [(3, .int (x3 + (6 : Int32))), (0, .ref x0), (1, rf Γ x1), (2, rf Γ x2)] dL_law_1736 rfl (by decide) (by decide) rfl ?_
        refine x_goto hO (tg := 18) dL_law_1739 (by decide) ?_
        exact x_leafs [1, 2, 3, 0] rfl (hC r66.1 (x3 + (6 : Int32)))
      · refine x_iconst hO (v := 0) (by decide) dL_law_1394 ?_
        exact x_zretv hO rfl (by decide) dL_law_1395 (hR _)
    · refine x_aload_n hO 1 rfl rfl dL_law_1396 ?_
      refine x_aload_n hO 0 rfl rfl dL_law_1397 ?_
      refine x_iload_n hO 3 rfl rfl dL_law_1398 ?_
      refine x_iconst hO (v := 1) (by decide) dL_law_1399 ?_
      refine x_iadd hO dL_law_1400 ?_
      refine x_pald hO hx0 dL_law_1401 ?_
      refine x_aload_n hO 0 rfl rfl dL_law_1402 ?_
      refine x_iload_n hO 3 rfl rfl dL_law_1403 ?_
      refine x_iconst hO (v := 2) (by decide) dL_law_1404 ?_
      refine x_iadd hO dL_law_1405 ?_
      refine x_pald hO hx0 dL_law_1406 ?_
      refine x_aload_n hO 0 rfl rfl dL_law_1407 ?_
      refine x_iload_n hO 3 rfl rfl dL_law_1408 ?_
      refine x_iconst hO (v := 3) (by decide) dL_law_1409 ?_
      refine x_iadd hO dL_law_1410 ?_
      refine x_pald hO hx0 dL_law_1411 ?_
      refine x_aload_n hO 0 rfl rfl dL_law_1412 ?_
      refine x_iload_n hO 3 rfl rfl dL_law_1413 ?_
      refine x_iconst hO (v := 4) (by decide) dL_law_1414 ?_
      refine x_iadd hO dL_law_1415 ?_
      refine x_pald hO hx0 dL_law_1416 ?_
      refine x_aload_n hO 0 rfl rfl dL_law_1417 ?_
      refine x_iload_n hO 3 rfl rfl dL_law_1418 ?_
      refine x_iconst hO (v := 5) (by decide) dL_law_1419 ?_
      refine x_iadd hO dL_law_1420 ?_
      refine x_pald hO hx0 dL_law_1421 ?_
      refine y_HI (x_callV hO lv_RL_165 hx1 vc_11 (by decide) (As := [.int (x0x (nx (x3 + ((1 : Int32))))), .int (x0x (nx (x3 + ((2 : Int32))))), .int (x0x (nx (x3 + ((3 : Int32))))), .int (x0x (nx (x3 + ((4 : Int32))))), .int (x0x (nx (x3 + ((5 : Int32)))))]) rfl (Nat.le_of_ble_eq_true rfl) (ok_X11_lost (cG Γ) h x1 (x0x (nx (x3 + ((1 : Int32))))) (x0x (nx (x3 + ((2 : Int32))))) (x0x (nx (x3 + ((3 : Int32))))) (x0x (nx (x3 + ((4 : Int32))))) (x0x (nx (x3 + ((5 : Int32))))) hx1) dL_law_1422 rfl (Nat.le_of_ble_eq_true rfl)) (fun r67 => ?_)
      refine x_aload_n hO 2 rfl rfl dL_law_1425 ?_
      refine x_aload_n hO 0 rfl rfl dL_law_1426 ?_
      refine x_iload_n hO 3 rfl rfl dL_law_1427 ?_
      refine x_iconst hO (v := 1) (by decide) dL_law_1428 ?_
      refine x_iadd hO dL_law_1429 ?_
      refine x_pald hO hx0 dL_law_1430 ?_
      refine x_aload_n hO 0 rfl rfl dL_law_1431 ?_
      refine x_iload_n hO 3 rfl rfl dL_law_1432 ?_
      refine x_iconst hO (v := 2) (by decide) dL_law_1433 ?_
      refine x_iadd hO dL_law_1434 ?_
      refine x_pald hO hx0 dL_law_1435 ?_
      refine x_aload_n hO 0 rfl rfl dL_law_1436 ?_
      refine x_iload_n hO 3 rfl rfl dL_law_1437 ?_
      refine x_iconst hO (v := 3) (by decide) dL_law_1438 ?_
      refine x_iadd hO dL_law_1439 ?_
      refine x_pald hO hx0 dL_law_1440 ?_
      refine x_aload_n hO 0 rfl rfl dL_law_1441 ?_
      refine x_iload_n hO 3 rfl rfl dL_law_1442 ?_
      refine x_iconst hO (v := 4) (by decide) dL_law_1443 ?_
      refine x_iadd hO dL_law_1444 ?_
      refine x_pald hO hx0 dL_law_1445 ?_
      refine x_aload_n hO 0 rfl rfl dL_law_1446 ?_
      refine x_iload_n hO 3 rfl rfl dL_law_1447 ?_
      refine x_iconst hO (v := 5) (by decide) dL_law_1448 ?_
      refine x_iadd hO dL_law_1449 ?_
      refine x_pald hO hx0 dL_law_1450 ?_
      refine y_HI (x_callV hO lv_RL_168 hx2 vc_12 (by decide) (As := [.int (x0x (nx (x3 + ((1 : Int32))))), .int (x0x (nx (x3 + ((2 : Int32))))), .int (x0x (nx (x3 + ((3 : Int32))))), .int (x0x (nx (x3 + ((4 : Int32))))), .int (x0x (nx (x3 + ((5 : Int32)))))]) rfl (Nat.le_of_ble_eq_true rfl) (ok_X12_lost (cG Γ) r67.1 x2 (x0x (nx (x3 + ((1 : Int32))))) (x0x (nx (x3 + ((2 : Int32))))) (x0x (nx (x3 + ((3 : Int32))))) (x0x (nx (x3 + ((4 : Int32))))) (x0x (nx (x3 + ((5 : Int32))))) hx2) dL_law_1451 rfl (Nat.le_of_ble_eq_true rfl)) (fun r68 => ?_)
      refine x_icmp_eq hO (tg := 1736) dL_law_1454 (by decide) ?_ ?_
      · refine x_iinc hO 3 (v := 6) [(3, .int (x3 + (6 : Int32))), (0, .ref x0), (1, rf Γ x1), (2, rf Γ x2)] dL_law_1736 rfl (by decide) (by decide) rfl ?_
        refine x_goto hO (tg := 18) dL_law_1739 (by decide) ?_
        exact x_leafs [1, 2, 3, 0] rfl (hC r68.1 (x3 + (6 : Int32)))
      · refine x_iconst hO (v := 0) (by decide) dL_law_1457 ?_
        exact x_zretv hO rfl (by decide) dL_law_1458 (hR _)
    · refine x_aload_n hO 1 rfl rfl dL_law_1459 ?_
      refine x_aload_n hO 0 rfl rfl dL_law_1460 ?_
      refine x_iload_n hO 3 rfl rfl dL_law_1461 ?_
      refine x_iconst hO (v := 1) (by decide) dL_law_1462 ?_
      refine x_iadd hO dL_law_1463 ?_
      refine x_pald hO hx0 dL_law_1464 ?_
      refine x_aload_n hO 0 rfl rfl dL_law_1465 ?_
      refine x_iload_n hO 3 rfl rfl dL_law_1466 ?_
      refine x_iconst hO (v := 2) (by decide) dL_law_1467 ?_
      refine x_iadd hO dL_law_1468 ?_
      refine x_pald hO hx0 dL_law_1469 ?_
      refine x_aload_n hO 0 rfl rfl dL_law_1470 ?_
      refine x_iload_n hO 3 rfl rfl dL_law_1471 ?_
      refine x_iconst hO (v := 3) (by decide) dL_law_1472 ?_
      refine x_iadd hO dL_law_1473 ?_
      refine x_pald hO hx0 dL_law_1474 ?_
      refine y_HI (x_callV hO lv_RL_169 hx1 vc_11 (by decide) (As := [.int (x0x (nx (x3 + ((1 : Int32))))), .int (x0x (nx (x3 + ((2 : Int32))))), .int (x0x (nx (x3 + ((3 : Int32)))))]) rfl (Nat.le_of_ble_eq_true rfl) (ok_X11_meaning (cG Γ) h x1 (x0x (nx (x3 + ((1 : Int32))))) (x0x (nx (x3 + ((2 : Int32))))) (x0x (nx (x3 + ((3 : Int32))))) hx1) dL_law_1475 rfl (Nat.le_of_ble_eq_true rfl)) (fun r69 => ?_)
      refine x_aload_n hO 2 rfl rfl dL_law_1478 ?_
      refine x_aload_n hO 0 rfl rfl dL_law_1479 ?_
      refine x_iload_n hO 3 rfl rfl dL_law_1480 ?_
      refine x_iconst hO (v := 1) (by decide) dL_law_1481 ?_
      refine x_iadd hO dL_law_1482 ?_
      refine x_pald hO hx0 dL_law_1483 ?_
      refine x_aload_n hO 0 rfl rfl dL_law_1484 ?_
      refine x_iload_n hO 3 rfl rfl dL_law_1485 ?_
      refine x_iconst hO (v := 2) (by decide) dL_law_1486 ?_
      refine x_iadd hO dL_law_1487 ?_
      refine x_pald hO hx0 dL_law_1488 ?_
      refine x_aload_n hO 0 rfl rfl dL_law_1489 ?_
      refine x_iload_n hO 3 rfl rfl dL_law_1490 ?_
      refine x_iconst hO (v := 3) (by decide) dL_law_1491 ?_
      refine x_iadd hO dL_law_1492 ?_
      refine x_pald hO hx0 dL_law_1493 ?_
      refine y_HI (x_callV hO lv_RL_172 hx2 vc_12 (by decide) (As := [.int (x0x (nx (x3 + ((1 : Int32))))), .int (x0x (nx (x3 + ((2 : Int32))))), .int (x0x (nx (x3 + ((3 : Int32)))))]) rfl (Nat.le_of_ble_eq_true rfl) (ok_X12_meaning (cG Γ) r69.1 x2 (x0x (nx (x3 + ((1 : Int32))))) (x0x (nx (x3 + ((2 : Int32))))) (x0x (nx (x3 + ((3 : Int32))))) hx2) dL_law_1494 rfl (Nat.le_of_ble_eq_true rfl)) (fun r70 => ?_)
      refine x_icmp_eq hO (tg := 1736) dL_law_1497 (by decide) ?_ ?_
      · refine x_iinc hO 3 (v := 6) [(3, .int (x3 + (6 : Int32))), (0, .ref x0), (1, rf Γ x1), (2, rf Γ x2)] dL_law_1736 rfl (by decide) (by decide) rfl ?_
        refine x_goto hO (tg := 18) dL_law_1739 (by decide) ?_
        exact x_leafs [1, 2, 3, 0] rfl (hC r70.1 (x3 + (6 : Int32)))
      · refine x_iconst hO (v := 0) (by decide) dL_law_1500 ?_
        exact x_zretv hO rfl (by decide) dL_law_1501 (hR _)
    · refine x_aload_n hO 1 rfl rfl dL_law_1502 ?_
      refine x_aload_n hO 0 rfl rfl dL_law_1503 ?_
      refine x_iload_n hO 3 rfl rfl dL_law_1504 ?_
      refine x_iconst hO (v := 1) (by decide) dL_law_1505 ?_
      refine x_iadd hO dL_law_1506 ?_
      refine x_pald hO hx0 dL_law_1507 ?_
      refine x_aload_n hO 0 rfl rfl dL_law_1508 ?_
      refine x_iload_n hO 3 rfl rfl dL_law_1509 ?_
      refine x_iconst hO (v := 2) (by decide) dL_law_1510 ?_
      refine x_iadd hO dL_law_1511 ?_
      refine x_pald hO hx0 dL_law_1512 ?_
      refine y_HI (x_callV hO lv_RL_173 hx1 vc_11 (by decide) (As := [.int (x0x (nx (x3 + ((1 : Int32))))), .int (x0x (nx (x3 + ((2 : Int32)))))]) rfl (Nat.le_of_ble_eq_true rfl) (ok_X11_joined (cG Γ) h x1 (x0x (nx (x3 + ((1 : Int32))))) (x0x (nx (x3 + ((2 : Int32))))) hx1) dL_law_1513 rfl (Nat.le_of_ble_eq_true rfl)) (fun r71 => ?_)
      refine x_aload_n hO 2 rfl rfl dL_law_1516 ?_
      refine x_aload_n hO 0 rfl rfl dL_law_1517 ?_
      refine x_iload_n hO 3 rfl rfl dL_law_1518 ?_
      refine x_iconst hO (v := 1) (by decide) dL_law_1519 ?_
      refine x_iadd hO dL_law_1520 ?_
      refine x_pald hO hx0 dL_law_1521 ?_
      refine x_aload_n hO 0 rfl rfl dL_law_1522 ?_
      refine x_iload_n hO 3 rfl rfl dL_law_1523 ?_
      refine x_iconst hO (v := 2) (by decide) dL_law_1524 ?_
      refine x_iadd hO dL_law_1525 ?_
      refine x_pald hO hx0 dL_law_1526 ?_
      refine y_HI (x_callV hO lv_RL_176 hx2 vc_12 (by decide) (As := [.int (x0x (nx (x3 + ((1 : Int32))))), .int (x0x (nx (x3 + ((2 : Int32)))))]) rfl (Nat.le_of_ble_eq_true rfl) (ok_X12_joined (cG Γ) r71.1 x2 (x0x (nx (x3 + ((1 : Int32))))) (x0x (nx (x3 + ((2 : Int32))))) hx2) dL_law_1527 rfl (Nat.le_of_ble_eq_true rfl)) (fun r72 => ?_)
      refine x_icmp_eq hO (tg := 1736) dL_law_1530 (by decide) ?_ ?_
      · refine x_iinc hO 3 (v := 6) [(3, .int (x3 + (6 : Int32))), (0, .ref x0), (1, rf Γ x1), (2, rf Γ x2)] dL_law_1736 rfl (by decide) (by decide) rfl ?_
        refine x_goto hO (tg := 18) dL_law_1739 (by decide) ?_
        exact x_leafs [1, 2, 3, 0] rfl (hC r72.1 (x3 + (6 : Int32)))
      · refine x_iconst hO (v := 0) (by decide) dL_law_1533 ?_
        exact x_zretv hO rfl (by decide) dL_law_1534 (hR _)
    · refine x_aload_n hO 1 rfl rfl dL_law_1535 ?_
      refine x_aload_n hO 0 rfl rfl dL_law_1536 ?_
      refine x_iload_n hO 3 rfl rfl dL_law_1537 ?_
      refine x_iconst hO (v := 1) (by decide) dL_law_1538 ?_
      refine x_iadd hO dL_law_1539 ?_
      refine x_pald hO hx0 dL_law_1540 ?_
      refine x_aload_n hO 0 rfl rfl dL_law_1541 ?_
      refine x_iload_n hO 3 rfl rfl dL_law_1542 ?_
      refine x_iconst hO (v := 2) (by decide) dL_law_1543 ?_
      refine x_iadd hO dL_law_1544 ?_
      refine x_pald hO hx0 dL_law_1545 ?_
      refine y_HI (x_callV hO lv_RL_177 hx1 vc_11 (by decide) (As := [.int (x0x (nx (x3 + ((1 : Int32))))), .int (x0x (nx (x3 + ((2 : Int32)))))]) rfl (Nat.le_of_ble_eq_true rfl) (ok_X11_count (cG Γ) h x1 (x0x (nx (x3 + ((1 : Int32))))) (x0x (nx (x3 + ((2 : Int32))))) hx1) dL_law_1546 rfl (Nat.le_of_ble_eq_true rfl)) (fun r73 => ?_)
      refine x_aload_n hO 2 rfl rfl dL_law_1549 ?_
      refine x_aload_n hO 0 rfl rfl dL_law_1550 ?_
      refine x_iload_n hO 3 rfl rfl dL_law_1551 ?_
      refine x_iconst hO (v := 1) (by decide) dL_law_1552 ?_
      refine x_iadd hO dL_law_1553 ?_
      refine x_pald hO hx0 dL_law_1554 ?_
      refine x_aload_n hO 0 rfl rfl dL_law_1555 ?_
      refine x_iload_n hO 3 rfl rfl dL_law_1556 ?_
      refine x_iconst hO (v := 2) (by decide) dL_law_1557 ?_
      refine x_iadd hO dL_law_1558 ?_
      refine x_pald hO hx0 dL_law_1559 ?_
      refine y_HI (x_callV hO lv_RL_180 hx2 vc_12 (by decide) (As := [.int (x0x (nx (x3 + ((1 : Int32))))), .int (x0x (nx (x3 + ((2 : Int32)))))]) rfl (Nat.le_of_ble_eq_true rfl) (ok_X12_count (cG Γ) r73.1 x2 (x0x (nx (x3 + ((1 : Int32))))) (x0x (nx (x3 + ((2 : Int32))))) hx2) dL_law_1560 rfl (Nat.le_of_ble_eq_true rfl)) (fun r74 => ?_)
      refine x_icmp_eq hO (tg := 1736) dL_law_1563 (by decide) ?_ ?_
      · refine x_iinc hO 3 (v := 6) [(3, .int (x3 + (6 : Int32))), (0, .ref x0), (1, rf Γ x1), (2, rf Γ x2)] dL_law_1736 rfl (by decide) (by decide) rfl ?_
        refine x_goto hO (tg := 18) dL_law_1739 (by decide) ?_
        exact x_leafs [1, 2, 3, 0] rfl (hC r74.1 (x3 + (6 : Int32)))
      · refine x_iconst hO (v := 0) (by decide) dL_law_1566 ?_
        exact x_zretv hO rfl (by decide) dL_law_1567 (hR _)
    · refine x_aload_n hO 1 rfl rfl dL_law_1568 ?_
      refine x_aload_n hO 0 rfl rfl dL_law_1569 ?_
      refine x_iload_n hO 3 rfl rfl dL_law_1570 ?_
      refine x_iconst hO (v := 1) (by decide) dL_law_1571 ?_
      refine x_iadd hO dL_law_1572 ?_
      refine x_pald hO hx0 dL_law_1573 ?_
      refine x_aload_n hO 0 rfl rfl dL_law_1574 ?_
      refine x_iload_n hO 3 rfl rfl dL_law_1575 ?_
      refine x_iconst hO (v := 2) (by decide) dL_law_1576 ?_
      refine x_iadd hO dL_law_1577 ?_
      refine x_pald hO hx0 dL_law_1578 ?_
      refine x_aload_n hO 0 rfl rfl dL_law_1579 ?_
      refine x_iload_n hO 3 rfl rfl dL_law_1580 ?_
      refine x_iconst hO (v := 3) (by decide) dL_law_1581 ?_
      refine x_iadd hO dL_law_1582 ?_
      refine x_pald hO hx0 dL_law_1583 ?_
      refine x_aload_n hO 0 rfl rfl dL_law_1584 ?_
      refine x_iload_n hO 3 rfl rfl dL_law_1585 ?_
      refine x_iconst hO (v := 4) (by decide) dL_law_1586 ?_
      refine x_iadd hO dL_law_1587 ?_
      refine x_pald hO hx0 dL_law_1588 ?_
      refine y_HI (x_callV hO lv_RL_181 hx1 vc_11 (by decide) (As := [.int (x0x (nx (x3 + ((1 : Int32))))), .int (x0x (nx (x3 + ((2 : Int32))))), .int (x0x (nx (x3 + ((3 : Int32))))), .int (x0x (nx (x3 + ((4 : Int32)))))]) rfl (Nat.le_of_ble_eq_true rfl) (ok_X11_meant (cG Γ) h x1 (x0x (nx (x3 + ((1 : Int32))))) (x0x (nx (x3 + ((2 : Int32))))) (x0x (nx (x3 + ((3 : Int32))))) (x0x (nx (x3 + ((4 : Int32))))) hx1) dL_law_1589 rfl (Nat.le_of_ble_eq_true rfl)) (fun r75 => ?_)
      refine x_aload_n hO 2 rfl rfl dL_law_1592 ?_
      refine x_aload_n hO 0 rfl rfl dL_law_1593 ?_
      refine x_iload_n hO 3 rfl rfl dL_law_1594 ?_
      refine x_iconst hO (v := 1) (by decide) dL_law_1595 ?_
      refine x_iadd hO dL_law_1596 ?_
      refine x_pald hO hx0 dL_law_1597 ?_
      refine x_aload_n hO 0 rfl rfl dL_law_1598 ?_
      refine x_iload_n hO 3 rfl rfl dL_law_1599 ?_
      refine x_iconst hO (v := 2) (by decide) dL_law_1600 ?_
      refine x_iadd hO dL_law_1601 ?_
      refine x_pald hO hx0 dL_law_1602 ?_
      refine x_aload_n hO 0 rfl rfl dL_law_1603 ?_
      refine x_iload_n hO 3 rfl rfl dL_law_1604 ?_
      refine x_iconst hO (v := 3) (by decide) dL_law_1605 ?_
      refine x_iadd hO dL_law_1606 ?_
      refine x_pald hO hx0 dL_law_1607 ?_
      refine x_aload_n hO 0 rfl rfl dL_law_1608 ?_
      refine x_iload_n hO 3 rfl rfl dL_law_1609 ?_
      refine x_iconst hO (v := 4) (by decide) dL_law_1610 ?_
      refine x_iadd hO dL_law_1611 ?_
      refine x_pald hO hx0 dL_law_1612 ?_
      refine y_HI (x_callV hO lv_RL_184 hx2 vc_12 (by decide) (As := [.int (x0x (nx (x3 + ((1 : Int32))))), .int (x0x (nx (x3 + ((2 : Int32))))), .int (x0x (nx (x3 + ((3 : Int32))))), .int (x0x (nx (x3 + ((4 : Int32)))))]) rfl (Nat.le_of_ble_eq_true rfl) (ok_X12_meant (cG Γ) r75.1 x2 (x0x (nx (x3 + ((1 : Int32))))) (x0x (nx (x3 + ((2 : Int32))))) (x0x (nx (x3 + ((3 : Int32))))) (x0x (nx (x3 + ((4 : Int32))))) hx2) dL_law_1613 rfl (Nat.le_of_ble_eq_true rfl)) (fun r76 => ?_)
      refine x_icmp_eq hO (tg := 1736) dL_law_1616 (by decide) ?_ ?_
      · refine x_iinc hO 3 (v := 6) [(3, .int (x3 + (6 : Int32))), (0, .ref x0), (1, rf Γ x1), (2, rf Γ x2)] dL_law_1736 rfl (by decide) (by decide) rfl ?_
        refine x_goto hO (tg := 18) dL_law_1739 (by decide) ?_
        exact x_leafs [1, 2, 3, 0] rfl (hC r76.1 (x3 + (6 : Int32)))
      · refine x_iconst hO (v := 0) (by decide) dL_law_1619 ?_
        exact x_zretv hO rfl (by decide) dL_law_1620 (hR _)
    · refine x_aload_n hO 1 rfl rfl dL_law_1621 ?_
      refine x_aload_n hO 0 rfl rfl dL_law_1622 ?_
      refine x_iload_n hO 3 rfl rfl dL_law_1623 ?_
      refine x_iconst hO (v := 1) (by decide) dL_law_1624 ?_
      refine x_iadd hO dL_law_1625 ?_
      refine x_pald hO hx0 dL_law_1626 ?_
      refine y_HI (x_callV hO lv_RL_185 hx1 vc_11 (by decide) (As := [.int (x0x (nx (x3 + ((1 : Int32)))))]) rfl (Nat.le_of_ble_eq_true rfl) (ok_X11_anew (cG Γ) h x1 (x0x (nx (x3 + ((1 : Int32))))) hx1) dL_law_1627 rfl (Nat.le_of_ble_eq_true rfl)) (fun r77 => ?_)
      refine x_aload_n hO 2 rfl rfl dL_law_1630 ?_
      refine x_aload_n hO 0 rfl rfl dL_law_1631 ?_
      refine x_iload_n hO 3 rfl rfl dL_law_1632 ?_
      refine x_iconst hO (v := 1) (by decide) dL_law_1633 ?_
      refine x_iadd hO dL_law_1634 ?_
      refine x_pald hO hx0 dL_law_1635 ?_
      refine y_HI (x_callV hO lv_RL_188 hx2 vc_12 (by decide) (As := [.int (x0x (nx (x3 + ((1 : Int32)))))]) rfl (Nat.le_of_ble_eq_true rfl) (ok_X12_anew (cG Γ) r77.1 x2 (x0x (nx (x3 + ((1 : Int32))))) hx2) dL_law_1636 rfl (Nat.le_of_ble_eq_true rfl)) (fun r78 => ?_)
      refine x_icmp_eq hO (tg := 1736) dL_law_1639 (by decide) ?_ ?_
      · refine x_iinc hO 3 (v := 6) [(3, .int (x3 + (6 : Int32))), (0, .ref x0), (1, rf Γ x1), (2, rf Γ x2)] dL_law_1736 rfl (by decide) (by decide) rfl ?_
        refine x_goto hO (tg := 18) dL_law_1739 (by decide) ?_
        exact x_leafs [1, 2, 3, 0] rfl (hC r78.1 (x3 + (6 : Int32)))
      · refine x_iconst hO (v := 0) (by decide) dL_law_1642 ?_
        exact x_zretv hO rfl (by decide) dL_law_1643 (hR _)
    · refine x_aload_n hO 1 rfl rfl dL_law_1644 ?_
      refine x_aload_n hO 0 rfl rfl dL_law_1645 ?_
      refine x_iload_n hO 3 rfl rfl dL_law_1646 ?_
      refine x_iconst hO (v := 1) (by decide) dL_law_1647 ?_
      refine x_iadd hO dL_law_1648 ?_
      refine x_pald hO hx0 dL_law_1649 ?_
      refine x_aload_n hO 0 rfl rfl dL_law_1650 ?_
      refine x_iload_n hO 3 rfl rfl dL_law_1651 ?_
      refine x_iconst hO (v := 2) (by decide) dL_law_1652 ?_
      refine x_iadd hO dL_law_1653 ?_
      refine x_pald hO hx0 dL_law_1654 ?_
      refine x_aload_n hO 0 rfl rfl dL_law_1655 ?_
      refine x_iload_n hO 3 rfl rfl dL_law_1656 ?_
      refine x_iconst hO (v := 3) (by decide) dL_law_1657 ?_
      refine x_iadd hO dL_law_1658 ?_
      refine x_pald hO hx0 dL_law_1659 ?_
      refine y_HI (x_callV hO lv_RL_189 hx1 vc_11 (by decide) (As := [.int (x0x (nx (x3 + ((1 : Int32))))), .int (x0x (nx (x3 + ((2 : Int32))))), .int (x0x (nx (x3 + ((3 : Int32)))))]) rfl (Nat.le_of_ble_eq_true rfl) (ok_X11_list (cG Γ) h x1 (x0x (nx (x3 + ((1 : Int32))))) (x0x (nx (x3 + ((2 : Int32))))) (x0x (nx (x3 + ((3 : Int32))))) hx1) dL_law_1660 rfl (Nat.le_of_ble_eq_true rfl)) (fun r79 => ?_)
      refine x_aload_n hO 2 rfl rfl dL_law_1663 ?_
      refine x_aload_n hO 0 rfl rfl dL_law_1664 ?_
      refine x_iload_n hO 3 rfl rfl dL_law_1665 ?_
      refine x_iconst hO (v := 1) (by decide) dL_law_1666 ?_
      refine x_iadd hO dL_law_1667 ?_
      refine x_pald hO hx0 dL_law_1668 ?_
      refine x_aload_n hO 0 rfl rfl dL_law_1669 ?_
      refine x_iload_n hO 3 rfl rfl dL_law_1670 ?_
      refine x_iconst hO (v := 2) (by decide) dL_law_1671 ?_
      refine x_iadd hO dL_law_1672 ?_
      refine x_pald hO hx0 dL_law_1673 ?_
      refine x_aload_n hO 0 rfl rfl dL_law_1674 ?_
      refine x_iload_n hO 3 rfl rfl dL_law_1675 ?_
      refine x_iconst hO (v := 3) (by decide) dL_law_1676 ?_
      refine x_iadd hO dL_law_1677 ?_
      refine x_pald hO hx0 dL_law_1678 ?_
      refine y_HI (x_callV hO lv_RL_192 hx2 vc_12 (by decide) (As := [.int (x0x (nx (x3 + ((1 : Int32))))), .int (x0x (nx (x3 + ((2 : Int32))))), .int (x0x (nx (x3 + ((3 : Int32)))))]) rfl (Nat.le_of_ble_eq_true rfl) (ok_X12_list (cG Γ) r79.1 x2 (x0x (nx (x3 + ((1 : Int32))))) (x0x (nx (x3 + ((2 : Int32))))) (x0x (nx (x3 + ((3 : Int32))))) hx2) dL_law_1679 rfl (Nat.le_of_ble_eq_true rfl)) (fun r80 => ?_)
      refine x_icmp_eq hO (tg := 1736) dL_law_1682 (by decide) ?_ ?_
      · refine x_iinc hO 3 (v := 6) [(3, .int (x3 + (6 : Int32))), (0, .ref x0), (1, rf Γ x1), (2, rf Γ x2)] dL_law_1736 rfl (by decide) (by decide) rfl ?_
        refine x_goto hO (tg := 18) dL_law_1739 (by decide) ?_
        exact x_leafs [1, 2, 3, 0] rfl (hC r80.1 (x3 + (6 : Int32)))
      · refine x_iconst hO (v := 0) (by decide) dL_law_1685 ?_
        exact x_zretv hO rfl (by decide) dL_law_1686 (hR _)
    · refine x_aload_n hO 1 rfl rfl dL_law_1687 ?_
      refine x_aload_n hO 0 rfl rfl dL_law_1688 ?_
      refine x_iload_n hO 3 rfl rfl dL_law_1689 ?_
      refine x_iconst hO (v := 1) (by decide) dL_law_1690 ?_
      refine x_iadd hO dL_law_1691 ?_
      refine x_pald hO hx0 dL_law_1692 ?_
      refine y_HI (x_callV hO lv_RL_193 hx1 vc_11 (by decide) (As := [.int (x0x (nx (x3 + ((1 : Int32)))))]) rfl (Nat.le_of_ble_eq_true rfl) (ok_X11_habit (cG Γ) h x1 (x0x (nx (x3 + ((1 : Int32))))) hx1) dL_law_1693 rfl (Nat.le_of_ble_eq_true rfl)) (fun r81 => ?_)
      refine x_aload_n hO 2 rfl rfl dL_law_1696 ?_
      refine x_aload_n hO 0 rfl rfl dL_law_1697 ?_
      refine x_iload_n hO 3 rfl rfl dL_law_1698 ?_
      refine x_iconst hO (v := 1) (by decide) dL_law_1699 ?_
      refine x_iadd hO dL_law_1700 ?_
      refine x_pald hO hx0 dL_law_1701 ?_
      refine y_HI (x_callV hO lv_RL_197 hx2 vc_12 (by decide) (As := [.int (x0x (nx (x3 + ((1 : Int32)))))]) rfl (Nat.le_of_ble_eq_true rfl) (ok_X12_habit (cG Γ) r81.1 x2 (x0x (nx (x3 + ((1 : Int32))))) hx2) dL_law_1702 rfl (Nat.le_of_ble_eq_true rfl)) (fun r82 => ?_)
      refine x_icmp_eq hO (tg := 1736) dL_law_1705 (by decide) ?_ ?_
      · refine x_iinc hO 3 (v := 6) [(3, .int (x3 + (6 : Int32))), (0, .ref x0), (1, rf Γ x1), (2, rf Γ x2)] dL_law_1736 rfl (by decide) (by decide) rfl ?_
        refine x_goto hO (tg := 18) dL_law_1739 (by decide) ?_
        exact x_leafs [1, 2, 3, 0] rfl (hC r82.1 (x3 + (6 : Int32)))
      · refine x_iconst hO (v := 0) (by decide) dL_law_1708 ?_
        exact x_zretv hO rfl (by decide) dL_law_1709 (hR _)
    · refine x_aload_n hO 1 rfl rfl dL_law_1710 ?_
      refine y_HI (x_callV hO lv_RL_198 hx1 vc_11 (by decide) (As := []) rfl (Nat.le_of_ble_eq_true rfl) (ok_X11_mark (cG Γ) h x1 hx1) dL_law_1711 rfl (Nat.le_of_ble_eq_true rfl)) (fun r83 => ?_)
      refine x_aload_n hO 2 rfl rfl dL_law_1714 ?_
      refine y_HI (x_callV hO lv_RL_201 hx2 vc_12 (by decide) (As := []) rfl (Nat.le_of_ble_eq_true rfl) (ok_X12_mark (cG Γ) r83.1 x2 hx2) dL_law_1715 rfl (Nat.le_of_ble_eq_true rfl)) (fun r84 => ?_)
      refine x_icmp_eq hO (tg := 1736) dL_law_1718 (by decide) ?_ ?_
      · refine x_iinc hO 3 (v := 6) [(3, .int (x3 + (6 : Int32))), (0, .ref x0), (1, rf Γ x1), (2, rf Γ x2)] dL_law_1736 rfl (by decide) (by decide) rfl ?_
        refine x_goto hO (tg := 18) dL_law_1739 (by decide) ?_
        exact x_leafs [1, 2, 3, 0] rfl (hC r84.1 (x3 + (6 : Int32)))
      · refine x_iconst hO (v := 0) (by decide) dL_law_1721 ?_
        exact x_zretv hO rfl (by decide) dL_law_1722 (hR _)
    · refine x_aload_n hO 1 rfl rfl dL_law_1723 ?_
      refine y_HI (x_callV hO lv_RL_202 hx1 vc_11 (by decide) (As := []) rfl (Nat.le_of_ble_eq_true rfl) (ok_X11_back (cG Γ) h x1 hx1) dL_law_1724 rfl (Nat.le_of_ble_eq_true rfl)) (fun r85 => ?_)
      refine x_aload_n hO 2 rfl rfl dL_law_1727 ?_
      refine y_HI (x_callV hO lv_RL_205 hx2 vc_12 (by decide) (As := []) rfl (Nat.le_of_ble_eq_true rfl) (ok_X12_back (cG Γ) r85.1 x2 hx2) dL_law_1728 rfl (Nat.le_of_ble_eq_true rfl)) (fun r86 => ?_)
      refine x_icmp_eq hO (tg := 1736) dL_law_1731 (by decide) ?_ ?_
      · refine x_iinc hO 3 (v := 6) [(3, .int (x3 + (6 : Int32))), (0, .ref x0), (1, rf Γ x1), (2, rf Γ x2)] dL_law_1736 rfl (by decide) (by decide) rfl ?_
        refine x_goto hO (tg := 18) dL_law_1739 (by decide) ?_
        exact x_leafs [1, 2, 3, 0] rfl (hC r86.1 (x3 + (6 : Int32)))
      · refine x_iconst hO (v := 0) (by decide) dL_law_1734 ?_
        exact x_zretv hO rfl (by decide) dL_law_1735 (hR _)
    · refine x_iinc hO 3 (v := 6) [(3, .int (x3 + (6 : Int32))), (0, .ref x0), (1, rf Γ x1), (2, rf Γ x2)] dL_law_1736 rfl (by decide) (by decide) rfl ?_
      refine x_goto hO (tg := 18) dL_law_1739 (by decide) ?_
      exact x_leafs [1, 2, 3, 0] rfl (hC h (x3 + (6 : Int32)))
set_option maxHeartbeats 4000000 in
set_option maxRecDepth 100000 in
theorem go_L_law_L18 {Γ : Cx} (hO : Ok Γ mL_law) (h : Hp) (x0 : Nat) (x0L : Nat) (x0x : Nat → Int32) (x1 : Nat) (x2 : Nat) (x3 : Int32) (hx0 : PX Γ x0 x0L x0x) (hx1 : Is x1 11) (hx2 : Is x2 12) {K : Hp × Int32 → Prop} (hR : ∀ r, K (r) → emHI r = tgt Γ) : EG Γ mL_law 18 [(0, .ref x0), (1, rf Γ x1), (2, rf Γ x2), (3, .int x3)] [] h (L_L_law_18 h x0 x0L x0x x1 x2 x3) K := by
  have q := x_loop (Γ := Γ) (M := mL_law) (pc := 18) (B := fun s : Hp × Int32 => B_L_law_18 s.1 x0 x0L x0x x1 x2 s.2) (lvf := fun s => [(0, .ref x0), (1, rf Γ x1), (2, rf Γ x2), (3, .int s.2)]) (hf := fun s => s.1) (Ky := K) (fun s => go_L_law_B18 hO s.1 x0 x0L x0x x1 x2 s.2 hx0 hx1 hx2 (fun _ _ => id) hR) (h, x3)
  exact q
