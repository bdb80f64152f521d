set_option maxHeartbeats 4000000 in
set_option maxRecDepth 100000 in
/-- DuctSizesModel.speedOf -/
theorem c_X4_speedOf (l : Launch) (dC : Nat → ClassId) (dI : Nat → Nat → Nat) (cI cII : ClassId) (aR : Nat → Nat) (cd : Int32) (fr : Nat → Int32) (le : Nat → Int32) (fi : Nat → Int32) (ne : Nat → Int32) (ar : Nat → Int32) (pr : Nat → Int32) (sp : Int32) (ep : Int32) (pt : Int32) (cf : Nat → Int32) (cp : Nat → Int32) (ch : Nat → Int32) (la : Nat → Int64) (fd : Int32) (bc : Int64) (bp : Int64) (bh : Nat → Int32) (ba : Nat → Int64) (fs : Nat → Int64) (d : Nat) (z : Nat) (frN : Nat → Nat) (leN : Nat → Nat) (fiN : Nat → Nat) (neN : Nat → Nat) (arN : Nat → Nat) (prN : Nat → Nat) (i : Nat) (j : Nat) (hd1 : d ≤ 6) (hz1 : z ≤ 4) (hO : rk_Ok d z fr le fi ne ar pr frN leN fiN neN arN prN) (hi1 : 1 ≤ i) (hi : i ≤ d) (hj : j < z) : dk_Rl l yX4_speedOf wsX4_speedOf ({ frames := 2, cells := 0, slots := 0, locals := 47 }) (dC, dI) (dk_TR cI cII) [.ref (aR 0), .int (nI i), .int (nI j)] (dk_R cI cII aR cd (nI d) fr le fi ne (nI z) ar pr sp ep pt cf cp ch la fd bc bp bh ba fs) (fun r => r = lN (dk_spN (rk_flow frN neN d i) (arN j))) := by
  refine dk_ofRl (cc := cX4_speedOf) (maxL := 3) (by decide) rfl (Nat.le_of_ble_eq_true rfl) ?_
  intro p e s m args below meth c ls Q H ⟨hx, hb, hml, hts, hown, hnm⟩ hK hP hl hret
  have hT : ∀ w ∈ dk_tbl, w.before args s = true := fun w h => hts w (List.mem_cons_of_mem _ h)
  have hown : s.vm.findClass RX4 = some m.cls := hown
  have hl : lv_has ls 3 [(0, .ref (aR 0)), (1, .int (nI i)), (2, .int (nI j))] := hl
  obtain ⟨ha1, ha2, ha3⟩ := hO.ar hj
  refine lv_ldc2 (v := 100) hx hb hown (hT _ mw_540) dX4_speedOf_0 ?_
  refine lv_aload_n hx hb dX4_speedOf_3 rfl (lv_at hl 0 rfl) ?_
  refine lv_iload_n hx hb dX4_speedOf_4 rfl (lv_at hl 1 rfl) ?_
  refine dk_csl (va_runV (As := [.int (nI i)]) (rest := [.long 100]) ⟨hx, hb, hml, hown, hT⟩ (c_X4_flowOf l dC dI cI cII aR cd fr le fi ne ar pr sp ep pt cf cp ch la fd bc bp bh ba fs d z frN leN fiN neN arN prN i hd1 hz1 hO (by omega)) (cwV 1 hT (dk_gV mw_578 mw_580 mw_13 mw_27 mw_581) rfl rfl rfl (by decide +kernel) ⟨(Nat.le_of_ble_eq_true rfl), (Nat.le_of_ble_eq_true rfl)⟩) (dk_preRV hK hP [0, 1, 2, 3, 4, 5, 6, 7, 8, 9, 10, 11, 12, 13] rfl (q0 := 0) (ci := 4) rfl rfl) rfl rfl hl.1 rfl (lv_room (Nat.le_of_ble_eq_true rfl)) dX4_speedOf_5 ⟨Nat.le_of_ble_eq_true rfl, Nat.le_of_ble_eq_true rfl⟩) (fun r9 h9 => ?_)
  subst h9
  refine lv_lmul hx hb dX4_speedOf_8 ?_
  refine lv_aload_n hx hb dX4_speedOf_9 rfl (lv_at hl 0 rfl) ?_
  refine va_get (D := (dC, dI)) (ci := 4) (v := .ref (aR 5)) (C := RX4) (T := TX4) (N := 22) hx hb hT in_X4 hown hK hP 0 rfl rfl 7 (by decide) (hT _ mw_468) (fun _ h9 => h9) rfl dX4_speedOf_10 ?_
  refine lv_iload_n hx hb dX4_speedOf_13 rfl (lv_at hl 2 rfl) ?_
  refine dk_iald (q0 := 5) (t0 := 0) (i := j) hx hb hK hP rfl rfl rfl (by omega) (by decide) dX4_speedOf_14 ?_
  refine lv_topi (fun y9 e9 => ?_)
  obtain rfl : y9 = nI (arN j) := by rw [e9]; exact ha1
  refine lv_i2l (v := ((nI (arN j))).toInt64) hx hb dX4_speedOf_15 rfl ?_
  refine lv_ldiv hx hb dX4_speedOf_16 (rk_l0 ha2 (by omega)) ?_
  exact hret _ _ _ (rk_speed (rk_flow_le hO i) ha2 ha3) dX4_speedOf_17
