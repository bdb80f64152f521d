set_option maxHeartbeats 4000000 in
set_option maxRecDepth 100000 in
/-- size -/
theorem c_X3_size (l : Launch) (hlt : l.stackTraces = false) (dC : Nat → ClassId) (dI : Nat → Nat → Nat) (cI cII : ClassId) (aX : Nat → Nat) (cv : Nat) (bs : Nat) (ch : Nat) (ep : Int32) (ol : Int32) (aN : Nat → Nat) (fr : Nat → Int32) (le : Nat → Int32) (fi : Nat → Int32) (ne : Nat → Int32) (fl : Nat → Int32) (du : Int32) (ar : Nat → Int32) (pr : Nat → Int32) (sp : Int32) (z : Nat) (x0 : Int32) (x1 : Int32) (hz : Nat) (h1 : z ≤ 4) : dk_Xi l yX3_size wsX3_size ({ frames := 7, cells := 3, slots := 18, locals := 104 }) (dC, dI) (dk_T cI cII) [.ref (aX 0), .int x0, .int x1] (dk_X cI cII aX (aN 0) cv bs ch ep ol ++ dk_N cI cII aN fr le fi ne fl du ar pr (nI z) sp) hz (fun (r : Int32) (_ : Unit) => dk_kSize z x0 x1 = 0 ∧ r = (nI z)) (fun _ => dk_X cI cII aX (aN 0) cv bs ch ep 1 ++ dk_N cI cII aN fr le fi ne fl du (upd ar z x0) (upd pr z x1) (nI (z + 1)) sp) (dk_px (dk_kSize z x0 x1)) 3 18 := by
  refine dk_ofXi (cc := cX3_size) (maxL := 3) (by decide) rfl (Nat.le_of_ble_eq_true rfl) ?_
  intro p e s m args below meth c A ls Q ⟨hx, hb, hml, hts, hown, hnm⟩ hlocks hno hsz hK hP hD hA hS hl hE hQ hret hthr
  have hT : ∀ w ∈ dk_tbl, w.before args s = true := fun w h => hts w (List.mem_cons_of_mem _ h)
  have hown : s.vm.findClass RX3 = some m.cls := hown
  have hl : lv_has ls 3 [(0, .ref (aX 0)), (1, .int x0), (2, .int x1)] := hl
  refine lv_iload_n hx hb dX3_size_0 rfl (lv_at hl 1 rfl) ?_
  refine lv_iconst (v := 1) hx hb dX3_size_1 (by decide) ?_
  refine lv_sipush (v := 1000) hx hb dX3_size_2 (by decide) ?_
  refine dk_xdem (vx_runS (As := [.int x0, .int 1, .int 1000]) (rest := []) ⟨hx, hb, hml, hown, hT⟩ (c_X3_demand l hlt x0 1 1000) (va_cwS 3 hT (dk_gS mw_254 mw_255 mw_23 mw_256) rfl rfl rfl (by decide +kernel) ⟨Nat.le_of_ble_eq_true rfl, Nat.le_of_ble_eq_true rfl⟩) (dk_preD hE hS hA) rfl rfl hl.1 rfl (lv_room (Nat.le_of_ble_eq_true rfl)) dX3_size_5 ⟨Nat.le_of_ble_eq_true rfl, Nat.le_of_ble_eq_true rfl⟩) (fun ce q9 H1 hc hz hk h1 h2 h3 => hthr dk_IAE ce q9 H1 _ _ _ _ _ _ (Or.inl ⟨rfl, by unfold dk_kSize; rw [if_pos hc]⟩) (hP.kept (fun k q hq => hk q.1 (hP k q hq).lt)) hD ⟨Nat.le_trans hS.1 hz, fun q h1 h2 => (hk q (Nat.lt_of_lt_of_le h1 hS.1)).trans (hS.2.1 q h1 h2), hS.2.2⟩ h1 h2 h3 (Nat.le_of_ble_eq_true rfl) (Nat.le_of_ble_eq_true rfl)) (fun hd_5 => ?_)
  refine lv_iload_n hx hb dX3_size_8 rfl (lv_at hl 2 rfl) ?_
  refine lv_iconst (v := 1) hx hb dX3_size_9 (by decide) ?_
  refine lv_sipush (v := 1000) hx hb dX3_size_10 (by decide) ?_
  refine dk_xdem (vx_runS (As := [.int x1, .int 1, .int 1000]) (rest := []) ⟨hx, hb, hml, hown, hT⟩ (c_X3_demand l hlt x1 1 1000) (va_cwS 3 hT (dk_gS mw_254 mw_255 mw_23 mw_256) rfl rfl rfl (by decide +kernel) ⟨Nat.le_of_ble_eq_true rfl, Nat.le_of_ble_eq_true rfl⟩) (dk_preD hE hS hA) rfl rfl hl.1 rfl (lv_room (Nat.le_of_ble_eq_true rfl)) dX3_size_13 ⟨Nat.le_of_ble_eq_true rfl, Nat.le_of_ble_eq_true rfl⟩) (fun ce q9 H1 hc hz hk h1 h2 h3 => hthr dk_IAE ce q9 H1 _ _ _ _ _ _ (Or.inl ⟨rfl, by unfold dk_kSize; rw [if_neg hd_5, if_pos hc]⟩) (hP.kept (fun k q hq => hk q.1 (hP k q hq).lt)) hD ⟨Nat.le_trans hS.1 hz, fun q h1 h2 => (hk q (Nat.lt_of_lt_of_le h1 hS.1)).trans (hS.2.1 q h1 h2), hS.2.2⟩ h1 h2 h3 (Nat.le_of_ble_eq_true rfl) (Nat.le_of_ble_eq_true rfl)) (fun hd_13 => ?_)
  refine lv_aload_n hx hb dX3_size_16 rfl (lv_at hl 0 rfl) ?_
  refine va_get (D := (dC, dI)) (ci := 3) (v := .ref (aN 0)) (C := RX3) (T := TX3) (N := 6) hx hb hT in_X3 hown hK hP 0 rfl rfl 0 (by decide) (hT _ mw_152) (fun _ h9 => h9) rfl dX3_size_17 ?_
  refine va_get (D := (dC, dI)) (ci := 1) (v := .int (nI z)) (C := RX1) (T := TX1) (N := 10) hx hb hT in_X1 hown hK hP 1 rfl rfl 8 (by decide) (hT _ mw_63) (fun _ h9 => h9) rfl dX3_size_20 ?_
  refine lv_iconst (v := 4) hx hb dX3_size_23 (by decide) ?_
  refine lv_icmp_lt (tgt := 37) hx hb dX3_size_24 (by decide) (fun c_24 => ?_) (fun c_24 => ?_)
  · refine lv_aload_n hx hb dX3_size_37 rfl (lv_at hl 0 rfl) ?_
    refine lv_iconst (v := 1) hx hb dX3_size_38 (by decide) ?_
    refine va_put (D := (dC, dI)) (ci := 3) (v := .int 1) (ty := .boolean) (C := RX3) (T := TX3) (N := 6) hx hb hT in_X3 tyX3 tyX3_ok nmX3 hown hK hP hD hS 0 rfl rfl 5 (by decide) (hT _ mw_157) (fun _ h9 => h9) rfl (by decide +kernel) rfl rfl (Nat.le_of_ble_eq_true rfl) dX3_size_39 (fun H locs hP hD hS => ?_)
    have hP : va_P (dC, dI) vwCl (dk_X cI cII aX (aN 0) cv bs ch ep 1 ++ dk_N cI cII aN fr le fi ne fl du ar pr (nI z) sp) H := hP
    have hD : va_D A (dk_X cI cII aX (aN 0) cv bs ch ep 1 ++ dk_N cI cII aN fr le fi ne fl du ar pr (nI z) sp) := hD
    refine lv_aload_n hx hb dX3_size_42 rfl (lv_at hl 0 rfl) ?_
    refine va_get (D := (dC, dI)) (ci := 3) (v := .ref (aN 0)) (C := RX3) (T := TX3) (N := 6) hx hb hT in_X3 hown hK hP 0 rfl rfl 0 (by decide) (hT _ mw_152) (fun _ h9 => h9) rfl dX3_size_43 ?_
    refine lv_iload_n hx hb dX3_size_46 rfl (lv_at hl 1 rfl) ?_
    refine lv_iload_n hx hb dX3_size_47 rfl (lv_at hl 2 rfl) ?_
    refine dk_calli (wr := dk_X cI cII aX (aN 0) cv bs ch ep 1) (va_runV (As := [.int x0, .int x1]) (rest := []) ⟨hx, hb, hml, hown, hT⟩ (c_X1_addSize l dC dI cI cII aN fr le fi ne fl du ar pr sp z x0 x1 _ ((nI_ltI (by omega) (by omega)).mp c_24)) (cwV 2 hT (dk_gV mw_367 mw_368 mw_369 mw_24 mw_370) rfl rfl rfl (by decide +kernel) ⟨(Nat.le_of_ble_eq_true rfl), (Nat.le_of_ble_eq_true rfl)⟩) (dk_preV hK hP hD [1, 2, 3, 4, 5, 6, 7, 8] rfl rfl (q0 := 1) (ci := 1) rfl rfl) rfl rfl hl.1 rfl (lv_room (Nat.le_of_ble_eq_true rfl)) dX3_size_48 ⟨Nat.le_of_ble_eq_true rfl, Nat.le_of_ble_eq_true rfl⟩) hP hD hS hA [1, 2, 3, 4, 5, 6, 7, 8] [0] rfl rfl rfl (by decide) (fun r9 _ H locs h9 hP hD hS => ?_)
    subst h9
    have hP : va_P (dC, dI) vwCl (dk_X cI cII aX (aN 0) cv bs ch ep 1 ++ dk_N cI cII aN fr le fi ne fl du (upd ar z x0) (upd pr z x1) (nI (z + 1)) sp) H := hP
    have hD : va_D A (dk_X cI cII aX (aN 0) cv bs ch ep 1 ++ dk_N cI cII aN fr le fi ne fl du (upd ar z x0) (upd pr z x1) (nI (z + 1)) sp) := hD
    refine W.widen (k := 3) (n := 18) (Nat.le_of_ble_eq_true rfl) (Nat.le_of_ble_eq_true rfl) ?_
    exact hret _ () _ _ _ _ ⟨(by unfold dk_kSize; rw [if_neg hd_5, if_neg hd_13, if_pos c_24]), rfl⟩ hP hD hS dX3_size_51
  · subst hQ
    obtain ⟨sa, hsa⟩ := hE.2.2.1 (68, "there are all the sizes that there can be") (by decide +kernel)
    exact vx_throwS (own := RX3) (cls := dk_ISE) (names := dk_ups) (A := A) hx hb hlt hown (by decide +kernel) (by decide +kernel) (hT _ mw_324) (hT _ mw_32) hsa (vx_hat (L := vx_atS RX3 54 dk_ISE dk_ups) (B := dk_badS) (fun w hw => hT w ((by decide +kernel : ∀ w ∈ (vx_atS RX3 54 dk_ISE dk_ups).filter goodWord, w ∈ dk_tbl) w hw)) (by decide +kernel) (fun w hw => va_Nw.use ((by decide +kernel : ∀ w ∈ dk_badS, w.onTables = true) w hw) (hE.2.2.2 w ((by decide +kernel : ∀ w ∈ dk_badS, w ∈ dk_badA ++ dk_badS) w hw)))) (by decide +kernel) hE.1 hE.2.1 hS (hl.1.trans hml.symm) dX3_size_27 dX3_size_30 dX3_size_31 dX3_size_33 dX3_size_36 (fun x hx => (hno x hx).elim) (Nat.le_of_ble_eq_true rfl) (Nat.le_of_ble_eq_true rfl) (Nat.le_of_ble_eq_true rfl) (Nat.le_of_ble_eq_true rfl) hlocks (fun t ha hsz hk => ⟨dk_ISE, (Or.inr ⟨rfl, (by unfold dk_kSize; rw [if_neg hd_5, if_neg hd_13, if_neg c_24])⟩), ⟨rfl, hP.kept (fun k q hq => hk q.1 (hP k q hq).lt), va_K.moved ha hK, hD⟩, Nat.le_trans hS.1 hsz, fun q h1 h2 => (hk q (Nat.lt_of_lt_of_le h1 hS.1)).trans (hS.2.1 q h1 h2)⟩) hS.2.2 (Nat.le_of_ble_eq_true rfl) (Nat.le_of_ble_eq_true rfl)
