set_option maxHeartbeats 4000000 in
set_option maxRecDepth 100000 in
/-- changeEnergyPrice -/
theorem c_X3_changeEnergyPrice (l : Launch) (hlt : l.stackTraces = false) (dC : Nat → ClassId) (dI : Nat → Nat → Nat) (cI cII : ClassId) (aX : Nat → Nat) (cv : Nat) (bs : Nat) (ch : Nat) (ep : Int32) (ol : Int32) (aN : Nat → Nat) (fr : Nat → Int32) (le : Nat → Int32) (fi : Nat → Int32) (ne : Nat → Int32) (fl : Nat → Int32) (du : Int32) (ar : Nat → Int32) (pr : Nat → Int32) (sz : Int32) (sp : Int32) (x0 : Int32) (hz : Nat) : dk_Xi l yX3_changeEnergyPrice wsX3_changeEnergyPrice ({ frames := 7, cells := 1, slots := 6, locals := 104 }) (dC, dI) (dk_T cI cII) [.ref (aX 0), .int x0] (dk_X cI cII aX (aN 0) cv bs ch ep ol ++ dk_N cI cII aN fr le fi ne fl du ar pr sz sp) hz (fun (r : Int32) (_ : Unit) => dk_kEnergy x0 = 0 ∧ r = ep) (fun _ => dk_X cI cII aX (aN 0) cv bs ch x0 1 ++ dk_N cI cII aN fr le fi ne fl du ar pr sz sp) (dk_px (dk_kEnergy x0)) 1 6 := by
  refine dk_ofXi (cc := cX3_changeEnergyPrice) (maxL := 3) (by decide) rfl (Nat.le_of_ble_eq_true rfl) ?_
  intro p e s m args below meth c A ls Q ⟨hx, hb, hml, hts, hown, hnm⟩ hlocks hno hsz hK hP hD hA hS hl hE hQ hret hthr
  have hT : ∀ w ∈ dk_tbl, w.before args s = true := fun w h => hts w (List.mem_cons_of_mem _ h)
  have hown : s.vm.findClass RX3 = some m.cls := hown
  have hl : lv_has ls 3 [(0, .ref (aX 0)), (1, .int x0)] := hl
  refine lv_iload_n hx hb dX3_changeEnergyPrice_0 rfl (lv_at hl 1 rfl) ?_
  refine lv_iconst (v := 0) hx hb dX3_changeEnergyPrice_1 (by decide) ?_
  refine lv_sipush (v := 1000) hx hb dX3_changeEnergyPrice_2 (by decide) ?_
  refine dk_xdem (vx_runS (As := [.int x0, .int 0, .int 1000]) (rest := []) ⟨hx, hb, hml, hown, hT⟩ (c_X3_demand l hlt x0 0 1000) (va_cwS 3 hT (dk_gS mw_254 mw_255 mw_23 mw_256) rfl rfl rfl (by decide +kernel) ⟨Nat.le_of_ble_eq_true rfl, Nat.le_of_ble_eq_true rfl⟩) (dk_preD hE hS hA) rfl rfl hl.1 rfl (lv_room (Nat.le_of_ble_eq_true rfl)) dX3_changeEnergyPrice_5 ⟨Nat.le_of_ble_eq_true rfl, Nat.le_of_ble_eq_true rfl⟩) (fun ce q9 H1 hc hz hk h1 h2 h3 => hthr dk_IAE ce q9 H1 _ _ _ _ _ _ (Or.inl ⟨rfl, by unfold dk_kEnergy; rw [if_pos hc]⟩) (hP.kept (fun k q hq => hk q.1 (hP k q hq).lt)) hD ⟨Nat.le_trans hS.1 hz, fun q h1 h2 => (hk q (Nat.lt_of_lt_of_le h1 hS.1)).trans (hS.2.1 q h1 h2), hS.2.2⟩ h1 h2 h3 (Nat.le_of_ble_eq_true rfl) (Nat.le_of_ble_eq_true rfl)) (fun hd_5 => ?_)
  refine lv_aload_n hx hb dX3_changeEnergyPrice_8 rfl (lv_at hl 0 rfl) ?_
  refine va_get (D := (dC, dI)) (ci := 3) (v := .int ep) (C := RX3) (T := TX3) (N := 6) hx hb hT in_X3 hown hK hP 0 rfl rfl 4 (by decide) (hT _ mw_156) (fun _ h9 => h9) rfl dX3_changeEnergyPrice_9 ?_
  refine lv_istore_n (lv' := [(2, .int ep), (0, .ref (aX 0)), (1, .int x0)]) hx hb dX3_changeEnergyPrice_12 rfl hl (by decide) rfl (fun ls hl => ?_)
  refine lv_aload_n hx hb dX3_changeEnergyPrice_13 rfl (lv_at hl 1 rfl) ?_
  refine lv_iload_n hx hb dX3_changeEnergyPrice_14 rfl (lv_at hl 2 rfl) ?_
  refine va_put (D := (dC, dI)) (ci := 3) (v := .int x0) (ty := .int) (C := RX3) (T := TX3) (N := 6) hx hb hT in_X3 tyX3 tyX3_ok nmX3 hown hK hP hD hS 0 rfl rfl 4 (by decide) (hT _ mw_156) (fun _ h9 => h9) rfl (by decide +kernel) rfl rfl (Nat.le_of_ble_eq_true rfl) dX3_changeEnergyPrice_15 (fun H locs hP hD hS => ?_)
  have hP : va_P (dC, dI) vwCl (dk_X cI cII aX (aN 0) cv bs ch x0 ol ++ dk_N cI cII aN fr le fi ne fl du ar pr sz sp) H := hP
  have hD : va_D A (dk_X cI cII aX (aN 0) cv bs ch x0 ol ++ dk_N cI cII aN fr le fi ne fl du ar pr sz sp) := hD
  refine lv_aload_n hx hb dX3_changeEnergyPrice_18 rfl (lv_at hl 1 rfl) ?_
  refine lv_iconst (v := 1) hx hb dX3_changeEnergyPrice_19 (by decide) ?_
  refine va_put (D := (dC, dI)) (ci := 3) (v := .int 1) (ty := .boolean) (C := RX3) (T := TX3) (N := 6) hx hb hT in_X3 tyX3 tyX3_ok nmX3 hown hK hP hD hS 0 rfl rfl 5 (by decide) (hT _ mw_157) (fun _ h9 => h9) rfl (by decide +kernel) rfl rfl (Nat.le_of_ble_eq_true rfl) dX3_changeEnergyPrice_20 (fun H locs hP hD hS => ?_)
  have hP : va_P (dC, dI) vwCl (dk_X cI cII aX (aN 0) cv bs ch x0 1 ++ dk_N cI cII aN fr le fi ne fl du ar pr sz sp) H := hP
  have hD : va_D A (dk_X cI cII aX (aN 0) cv bs ch x0 1 ++ dk_N cI cII aN fr le fi ne fl du ar pr sz sp) := hD
  refine lv_iload_n hx hb dX3_changeEnergyPrice_23 rfl (lv_at hl 0 rfl) ?_
  refine W.widen (k := 1) (n := 6) (Nat.le_of_ble_eq_true rfl) (Nat.le_of_ble_eq_true rfl) ?_
  exact hret _ () _ _ _ _ ⟨(by unfold dk_kEnergy; rw [if_neg hd_5]), rfl⟩ hP hD hS dX3_changeEnergyPrice_24
