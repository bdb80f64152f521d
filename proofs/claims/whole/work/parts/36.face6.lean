set_option maxHeartbeats 4000000 in
set_option maxRecDepth 100000 in
/-- fan -/
theorem c_X3_fan (l : Launch) (hlt : l.stackTraces = false) (dC : Nat → ClassId) (dI : Nat → Nat → Nat) (cI cII : ClassId) (aX : Nat → Nat) (nw : Nat) (bs : Nat) (ch : Nat) (ep : Int32) (ol : Int32) (aC : Nat → Nat) (cf : Nat → Int32) (cp : Nat → Int32) (k : Nat) (x0 : Int32) (x1 : Int32) (hz : Nat) (hk1 : k ≤ 5) : dk_Xi l yX3_fan wsX3_fan ({ frames := 7, cells := 3, slots := 18, locals := 104 }) (dC, dI) (dk_T cI cII) [.ref (aX 0), .int x0, .int x1] (dk_X cI cII aX nw (aC 0) bs ch ep ol ++ dk_C cI cII aC cf cp (nI k)) hz (fun (r : Int32) (_ : Unit) => dk_kFan cf cp k x0 x1 = 0 ∧ r = (nI (k + 1))) (fun _ => dk_X cI cII aX nw (aC 0) bs ch ep 1 ++ dk_C cI cII aC (upd cf k x0) (upd cp k x1) (nI (k + 1))) (dk_px (dk_kFan cf cp k x0 x1)) 3 18 := by
  refine dk_ofXi (cc := cX3_fan) (maxL := 3) (by decide) rfl (Nat.le_of_ble_eq_true rfl) ?_
  intro p e s m args below meth c A ls Q ⟨hx, hb, hml, hts, hown, hnm⟩ hlocks hno hsz hK hP hD hA hS hl hE hQ hret hthr
  have hT : ∀ w ∈ dk_tbl, w.before args s = true := fun w h => hts w (List.mem_cons_of_mem _ h)
  have hown : s.vm.findClass RX3 = some m.cls := hown
  have hl : lv_has ls 3 [(0, .ref (aX 0)), (1, .int x0), (2, .int x1)] := hl
  refine lv_iload_n hx hb dX3_fan_0 rfl (lv_at hl 1 rfl) ?_
  refine lv_iconst (v := 0) hx hb dX3_fan_1 (by decide) ?_
  refine lv_sipush (v := 10000) hx hb dX3_fan_2 (by decide) ?_
  refine dk_xdem (vx_runS (As := [.int x0, .int 0, .int 10000]) (rest := []) ⟨hx, hb, hml, hown, hT⟩ (c_X3_demand l hlt x0 0 10000) (va_cwS 3 hT (dk_gS mw_254 mw_255 mw_23 mw_256) rfl rfl rfl (by decide +kernel) ⟨Nat.le_of_ble_eq_true rfl, Nat.le_of_ble_eq_true rfl⟩) (dk_preD hE hS hA) rfl rfl hl.1 rfl (lv_room (Nat.le_of_ble_eq_true rfl)) dX3_fan_5 ⟨Nat.le_of_ble_eq_true rfl, Nat.le_of_ble_eq_true rfl⟩) (fun ce q9 H1 hc hz hk h1 h2 h3 => hthr dk_IAE ce q9 H1 _ _ _ _ _ _ (Or.inl ⟨rfl, by unfold dk_kFan; rw [if_pos hc]⟩) (hP.kept (fun k q hq => hk q.1 (hP k q hq).lt)) hD ⟨Nat.le_trans hS.1 hz, fun q h1 h2 => (hk q (Nat.lt_of_lt_of_le h1 hS.1)).trans (hS.2.1 q h1 h2), hS.2.2⟩ h1 h2 h3 (Nat.le_of_ble_eq_true rfl) (Nat.le_of_ble_eq_true rfl)) (fun hd_5 => ?_)
  refine lv_iload_n hx hb dX3_fan_8 rfl (lv_at hl 2 rfl) ?_
  refine lv_iconst (v := 0) hx hb dX3_fan_9 (by decide) ?_
  refine lv_sipush (v := 300) hx hb dX3_fan_10 (by decide) ?_
  refine dk_xdem (vx_runS (As := [.int x1, .int 0, .int 300]) (rest := []) ⟨hx, hb, hml, hown, hT⟩ (c_X3_demand l hlt x1 0 300) (va_cwS 3 hT (dk_gS mw_254 mw_255 mw_23 mw_256) rfl rfl rfl (by decide +kernel) ⟨Nat.le_of_ble_eq_true rfl, Nat.le_of_ble_eq_true rfl⟩) (dk_preD hE hS hA) rfl rfl hl.1 rfl (lv_room (Nat.le_of_ble_eq_true rfl)) dX3_fan_13 ⟨Nat.le_of_ble_eq_true rfl, Nat.le_of_ble_eq_true rfl⟩) (fun ce q9 H1 hc hz hk h1 h2 h3 => hthr dk_IAE ce q9 H1 _ _ _ _ _ _ (Or.inl ⟨rfl, by unfold dk_kFan; rw [if_neg hd_5, if_pos hc]⟩) (hP.kept (fun k q hq => hk q.1 (hP k q hq).lt)) hD ⟨Nat.le_trans hS.1 hz, fun q h1 h2 => (hk q (Nat.lt_of_lt_of_le h1 hS.1)).trans (hS.2.1 q h1 h2), hS.2.2⟩ h1 h2 h3 (Nat.le_of_ble_eq_true rfl) (Nat.le_of_ble_eq_true rfl)) (fun hd_13 => ?_)
  refine lv_aload_n hx hb dX3_fan_16 rfl (lv_at hl 0 rfl) ?_
  refine va_get (D := (dC, dI)) (ci := 3) (v := .ref (aC 0)) (C := RX3) (T := TX3) (N := 6) hx hb hT in_X3 hown hK hP 0 rfl rfl 1 (by decide) (hT _ mw_153) (fun _ h9 => h9) rfl dX3_fan_17 ?_
  refine lv_iload_n hx hb dX3_fan_20 rfl (lv_at hl 1 rfl) ?_
  refine lv_iload_n hx hb dX3_fan_21 rfl (lv_at hl 2 rfl) ?_
  refine dk_csi (va_runV (As := [.int x0, .int x1]) (rest := []) ⟨hx, hb, hml, hown, hT⟩ (c_X0_takes l dC dI cI cII aC cf cp k x0 x1 hk1) (cwV 2 hT (dk_gV mw_394 mw_395 mw_396 mw_25 mw_397) rfl rfl rfl (by decide +kernel) ⟨(Nat.le_of_ble_eq_true rfl), (Nat.le_of_ble_eq_true rfl)⟩) (dk_preRV hK hP [1, 2, 3] rfl (q0 := 1) (ci := 0) rfl rfl) rfl rfl hl.1 rfl (lv_room (Nat.le_of_ble_eq_true rfl)) dX3_fan_22 ⟨Nat.le_of_ble_eq_true rfl, Nat.le_of_ble_eq_true rfl⟩) (fun r9 h9 => ?_)
  subst h9
  refine lv_if_ne (tgt := 38) hx hb dX3_fan_25 (by decide) (fun c_25 => ?_) (fun c_25 => ?_)
  · refine lv_aload_n hx hb dX3_fan_38 rfl (lv_at hl 0 rfl) ?_
    refine lv_iconst (v := 1) hx hb dX3_fan_39 (by decide) ?_
    refine va_put (D := (dC, dI)) (ci := 3) (v := .int 1) (ty := .boolean) (C := RX3) (T := TX3) (N := 6) hx hb hT in_X3 tyX3 tyX3_ok nmX3 hown hK hP hD hS 0 rfl rfl 5 (by decide) (hT _ mw_157) (fun _ h9 => h9) rfl (by decide +kernel) rfl rfl (Nat.le_of_ble_eq_true rfl) dX3_fan_40 (fun H locs hP hD hS => ?_)
    have hP : va_P (dC, dI) vwCl (dk_X cI cII aX nw (aC 0) bs ch ep 1 ++ dk_C cI cII aC cf cp (nI k)) H := hP
    have hD : va_D A (dk_X cI cII aX nw (aC 0) bs ch ep 1 ++ dk_C cI cII aC cf cp (nI k)) := hD
    refine lv_aload_n hx hb dX3_fan_43 rfl (lv_at hl 0 rfl) ?_
    refine va_get (D := (dC, dI)) (ci := 3) (v := .ref (aC 0)) (C := RX3) (T := TX3) (N := 6) hx hb hT in_X3 hown hK hP 0 rfl rfl 1 (by decide) (hT _ mw_153) (fun _ h9 => h9) rfl dX3_fan_44 ?_
    refine lv_iload_n hx hb dX3_fan_47 rfl (lv_at hl 1 rfl) ?_
    refine lv_iload_n hx hb dX3_fan_48 rfl (lv_at hl 2 rfl) ?_
    refine dk_calli (wr := dk_X cI cII aX nw (aC 0) bs ch ep 1) (va_runV (As := [.int x0, .int x1]) (rest := []) ⟨hx, hb, hml, hown, hT⟩ (c_X0_addPoint l dC dI cI cII aC cf cp k x0 x1 _ (dk_takesLt hk1 c_25)) (cwV 2 hT (dk_gV mw_399 mw_400 mw_401 mw_25 mw_402) rfl rfl rfl (by decide +kernel) ⟨(Nat.le_of_ble_eq_true rfl), (Nat.le_of_ble_eq_true rfl)⟩) (dk_preV hK hP hD [1, 2, 3] rfl rfl (q0 := 1) (ci := 0) rfl rfl) rfl rfl hl.1 rfl (lv_room (Nat.le_of_ble_eq_true rfl)) dX3_fan_49 ⟨Nat.le_of_ble_eq_true rfl, Nat.le_of_ble_eq_true rfl⟩) hP hD hS hA [1, 2, 3] [0] rfl rfl rfl (by decide) (fun r9 _ H locs h9 hP hD hS => ?_)
    subst h9
    have hP : va_P (dC, dI) vwCl (dk_X cI cII aX nw (aC 0) bs ch ep 1 ++ dk_C cI cII aC (upd cf k x0) (upd cp k x1) (nI (k + 1))) H := hP
    have hD : va_D A (dk_X cI cII aX nw (aC 0) bs ch ep 1 ++ dk_C cI cII aC (upd cf k x0) (upd cp k x1) (nI (k + 1))) := hD
    refine W.widen (k := 3) (n := 18) (Nat.le_of_ble_eq_true rfl) (Nat.le_of_ble_eq_true rfl) ?_
    exact hret _ () _ _ _ _ ⟨(by unfold dk_kFan; rw [if_neg hd_5, if_neg hd_13, if_neg c_25]), rfl⟩ hP hD hS dX3_fan_52
  · subst hQ
    obtain ⟨sa, hsa⟩ := hE.2.2.1 (84, "the fan can not have this point behind its others") (by decide +kernel)
    exact vx_throwS (own := RX3) (cls := dk_ISE) (names := dk_ups) (A := A) hx hb hlt hown (by decide +kernel) (by decide +kernel) (hT _ mw_324) (hT _ mw_32) hsa (vx_hat (L := vx_atS RX3 54 dk_ISE dk_ups) (B := dk_badS) (fun w hw => hT w ((by decide +kernel : ∀ w ∈ (vx_atS RX3 54 dk_ISE dk_ups).filter goodWord, w ∈ dk_tbl) w hw)) (by decide +kernel) (fun w hw => va_Nw.use ((by decide +kernel : ∀ w ∈ dk_badS, w.onTables = true) w hw) (hE.2.2.2 w ((by decide +kernel : ∀ w ∈ dk_badS, w ∈ dk_badA ++ dk_badS) w hw)))) (by decide +kernel) hE.1 hE.2.1 hS (hl.1.trans hml.symm) dX3_fan_28 dX3_fan_31 dX3_fan_32 dX3_fan_34 dX3_fan_37 (fun x hx => (hno x hx).elim) (Nat.le_of_ble_eq_true rfl) (Nat.le_of_ble_eq_true rfl) (Nat.le_of_ble_eq_true rfl) (Nat.le_of_ble_eq_true rfl) hlocks (fun t ha hsz hk => ⟨dk_ISE, (Or.inr ⟨rfl, (by unfold dk_kFan; rw [if_neg hd_5, if_neg hd_13, if_pos c_25])⟩), ⟨rfl, hP.kept (fun k q hq => hk q.1 (hP k q hq).lt), va_K.moved ha hK, hD⟩, Nat.le_trans hS.1 hsz, fun q h1 h2 => (hk q (Nat.lt_of_lt_of_le h1 hS.1)).trans (hS.2.1 q h1 h2)⟩) hS.2.2 (Nat.le_of_ble_eq_true rfl) (Nat.le_of_ble_eq_true rfl)
