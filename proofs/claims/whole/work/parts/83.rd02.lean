set_option maxHeartbeats 4000000 in
set_option maxRecDepth 100000 in
/-- DuctSizesModel.isDuct -/
theorem c_X4_isDuct (l : Launch) (dC : Nat → ClassId) (dI : Nat → Nat → Nat) (cI cII : ClassId) (aR : Nat → Nat) (cd : Int32) (fr : Nat → Int32) (le : Nat → Int32) (fi : Nat → Int32) (ne : Nat → Int32) (sz : Int32) (ar : Nat → Int32) (pr : Nat → Int32) (sp : Int32) (ep : Int32) (pt : Int32) (cf : Nat → Int32) (cp : Nat → Int32) (ch : Nat → Int32) (la : Nat → Int64) (fd : Int32) (bc : Int64) (bp : Int64) (bh : Nat → Int32) (ba : Nat → Int64) (fs : Nat → Int64) (d : Nat) (x : Int32) : dk_Ri l yX4_isDuct wsX4_isDuct ({ frames := 1, cells := 0, slots := 0, locals := 25 }) (dC, dI) (dk_TR cI cII) [.ref (aR 0), .int x] (dk_R cI cII aR cd (nI d) fr le fi ne sz ar pr sp ep pt cf cp ch la fd bc bp bh ba fs) (fun r => r = rk_isIn x.toInt64 1 (nI d).toInt64) := by
  refine dk_ofRz (cc := cX4_isDuct) (maxL := 2) (by decide) rfl (Nat.le_of_ble_eq_true rfl) ?_
  intro p e s m args below meth c ls Q H ⟨hx, hb, hml, hts, hown, hnm⟩ hK hP hl hret
  have hT : ∀ w ∈ dk_tbl, w.before args s = true := fun w h => hts w (List.mem_cons_of_mem _ h)
  have hown : s.vm.findClass RX4 = some m.cls := hown
  have hl : lv_has ls 2 [(0, .ref (aR 0)), (1, .int x)] := hl
  refine lv_iload_n hx hb dX4_isDuct_0 rfl (lv_at hl 1 rfl) ?_
  refine lv_i2l (v := (x).toInt64) hx hb dX4_isDuct_1 rfl ?_
  refine lv_lconst (v := 1) hx hb dX4_isDuct_2 (by decide) ?_
  refine lv_aload_n hx hb dX4_isDuct_3 rfl (lv_at hl 0 rfl) ?_
  refine va_get (D := (dC, dI)) (ci := 4) (v := .int (nI d)) (C := RX4) (T := TX4) (N := 22) hx hb hT in_X4 hown hK hP 0 rfl rfl 1 (by decide) (hT _ mw_462) (fun _ h9 => h9) rfl dX4_isDuct_4 ?_
  refine lv_i2l (v := ((nI d)).toInt64) hx hb dX4_isDuct_7 rfl ?_
  refine dk_csi (va_runS (As := [.long ((x).toInt64), .long 1, .long (((nI d)).toInt64)]) (rest := []) ⟨hx, hb, hml, hown, hT⟩ (c_X4_isIn l dC dI cI cII ((x).toInt64) 1 (((nI d)).toInt64)) (va_cwS 3 hT (dk_gS mw_537 mw_538 mw_27 mw_539) rfl rfl rfl (by decide +kernel) ⟨(Nat.le_of_ble_eq_true rfl), (Nat.le_of_ble_eq_true rfl)⟩) (dk_preRS hK hP [] rfl) rfl rfl hl.1 rfl (lv_room (Nat.le_of_ble_eq_true rfl)) dX4_isDuct_8 ⟨Nat.le_of_ble_eq_true rfl, Nat.le_of_ble_eq_true rfl⟩) (fun r9 h9 => ?_)
  subst h9
  exact hret _ _ _ rk_isIn_b rfl dX4_isDuct_11
