set_option maxHeartbeats 4000000 in
set_option maxRecDepth 100000 in
/-- DuctSizesModel.thrown -/
theorem c_X4_thrown (l : Launch) (dC : Nat → ClassId) (dI : Nat → Nat → Nat) (cI cII : ClassId) (aR : Nat → Nat) (cd : Int32) (du : Int32) (fr : Nat → Int32) (le : Nat → Int32) (fi : Nat → Int32) (ne : Nat → Int32) (sz : Int32) (ar : Nat → Int32) (pr : Nat → Int32) (sp : Int32) (ep : Int32) (pt : Int32) (cf : Nat → Int32) (cp : Nat → Int32) (ch : Nat → Int32) (la : Nat → Int64) (fd : Int32) (bc : Int64) (bp : Int64) (bh : Nat → Int32) (ba : Nat → Int64) (fs : Nat → Int64) : dk_Ri l yX4_thrown wsX4_thrown ({ frames := 0, cells := 0, slots := 0, locals := 0 }) (dC, dI) (dk_TR cI cII) [.ref (aR 0)] (dk_R cI cII aR cd du fr le fi ne sz ar pr sp ep pt cf cp ch la fd bc bp bh ba fs) (fun r => r = cd) := by
  refine dk_ofRi (cc := cX4_thrown) (maxL := 1) (by decide) rfl (Nat.le_of_ble_eq_true rfl) ?_
  intro p e s m args below meth c ls Q H ⟨hx, hb, hml, hts, hown, hnm⟩ hK hP hl hret
  have hT : ∀ w ∈ dk_tbl, w.before args s = true := fun w h => hts w (List.mem_cons_of_mem _ h)
  have hown : s.vm.findClass RX4 = some m.cls := hown
  have hl : lv_has ls 1 [(0, .ref (aR 0))] := hl
  refine lv_aload_n hx hb dX4_thrown_0 rfl (lv_at hl 0 rfl) ?_
  refine va_get (D := (dC, dI)) (ci := 4) (v := .int cd) (C := RX4) (T := TX4) (N := 22) hx hb hT in_X4 hown hK hP 0 rfl rfl 0 (by decide) (hT _ mw_461) (fun _ h9 => h9) rfl dX4_thrown_1 ?_
  exact hret _ _ _ rfl dX4_thrown_4
