set_option maxHeartbeats 4000000 in
set_option maxRecDepth 100000 in
/-- DuctSizesModel.fallOf -/
theorem c_X4_fallOf (l : Launch) (dC : Nat → ClassId) (dI : Nat → Nat → Nat) (cI cII : ClassId) (aR : Nat → Nat) (cd : Int32) (fr : Nat → Int32) (le : Nat → Int32) (fi : Nat → Int32) (ne : Nat → Int32) (ar : Nat → Int32) (pr : Nat → Int32) (sp : Int32) (ep : Int32) (pt : Int32) (cf : Nat → Int32) (cp : Nat → Int32) (ch : Nat → Int32) (la : Nat → Int64) (fd : Int32) (bc : Int64) (bp : Int64) (bh : Nat → Int32) (ba : Nat → Int64) (fs : Nat → Int64) (d : Nat) (z : Nat) (frN : Nat → Nat) (leN : Nat → Nat) (fiN : Nat → Nat) (neN : Nat → Nat) (arN : Nat → Nat) (prN : Nat → Nat) (i : Nat) (j : Nat) (hd1 : d ≤ 6) (hz1 : z ≤ 4) (hO : rk_Ok d z fr le fi ne ar pr frN leN fiN neN arN prN) (hi1 : 1 ≤ i) (hi : i ≤ d) (hj : j < z) : dk_Rl l yX4_fallOf wsX4_fallOf ({ frames := 2, cells := 0, slots := 0, locals := 47 }) (dC, dI) (dk_TR cI cII) [.ref (aR 0), .int (nI i), .int (nI j)] (dk_R cI cII aR cd (nI d) fr le fi ne (nI z) ar pr sp ep pt cf cp ch la fd bc bp bh ba fs) (fun r => r = lN (dk_faN (leN i) (fiN i) (rk_flow frN neN d i) (arN j))) := by
  refine dk_ofRl (cc := cX4_fallOf) (maxL := 7) (by decide) rfl (Nat.le_of_ble_eq_true rfl) ?_
  intro p e s m args below meth c ls Q H ⟨hx, hb, hml, hts, hown, hnm⟩ hK hP hl hret
  have hT : ∀ w ∈ dk_tbl, w.before args s = true := fun w h => hts w (List.mem_cons_of_mem _ h)
  have hown : s.vm.findClass RX4 = some m.cls := hown
  have hl : lv_has ls 7 [(0, .ref (aR 0)), (1, .int (nI i)), (2, .int (nI j))] := hl
  obtain ⟨ha1, ha2, ha3⟩ := hO.ar hj
  obtain ⟨hl1, hl2⟩ := hO.le hi1 hi
  obtain ⟨hf1, hf2⟩ := hO.fi hi1 hi
  have haa : arN j * arN j ≤ 1000 * 1000 := Nat.mul_le_mul ha3 ha3
  obtain ⟨hr1, hr2⟩ := rk_raw hl1 hl2 (rk_flow_le hO i) ha2 ha3
  refine lv_aload_n hx hb dX4_fallOf_0 rfl (lv_at hl 0 rfl) ?_
  refine lv_iload_n hx hb dX4_fallOf_1 rfl (lv_at hl 1 rfl) ?_
  refine dk_csl (va_runV (As := [.int (nI i)]) (rest := []) ⟨hx, hb, hml, hown, hT⟩ (c_X4_flowOf l dC dI cI cII aR cd fr le fi ne ar pr sp ep pt cf cp ch la fd bc bp bh ba fs d z frN leN fiN neN arN prN i hd1 hz1 hO (by omega)) (cwV 1 hT (dk_gV mw_578 mw_580 mw_13 mw_27 mw_581) rfl rfl rfl (by decide +kernel) ⟨(Nat.le_of_ble_eq_true rfl), (Nat.le_of_ble_eq_true rfl)⟩) (dk_preRV hK hP [0, 1, 2, 3, 4, 5, 6, 7, 8, 9, 10, 11, 12, 13] rfl (q0 := 0) (ci := 4) rfl rfl) rfl rfl hl.1 rfl (lv_room (Nat.le_of_ble_eq_true rfl)) dX4_fallOf_2 ⟨Nat.le_of_ble_eq_true rfl, Nat.le_of_ble_eq_true rfl⟩) (fun r9 h9 => ?_)
  subst h9
  refine lv_lstore_n (lv' := [(3, .long (lN (rk_flow frN neN d i))), (0, .ref (aR 0)), (1, .int (nI i)), (2, .int (nI j))]) hx hb dX4_fallOf_5 rfl hl (by decide) rfl (fun ls hl => ?_)
  refine lv_aload_n hx hb dX4_fallOf_6 rfl (lv_at hl 1 rfl) ?_
  refine va_get (D := (dC, dI)) (ci := 4) (v := .ref (aR 2)) (C := RX4) (T := TX4) (N := 22) hx hb hT in_X4 hown hK hP 0 rfl rfl 3 (by decide) (hT _ mw_464) (fun _ h9 => h9) rfl dX4_fallOf_7 ?_
  refine lv_iload_n hx hb dX4_fallOf_10 rfl (lv_at hl 2 rfl) ?_
  refine dk_iald (q0 := 2) (t0 := 0) (i := i) hx hb hK hP rfl rfl rfl (by omega) (by decide) dX4_fallOf_11 ?_
  refine lv_i2l (v := ((le i)).toInt64) hx hb dX4_fallOf_12 rfl ?_
  refine lv_ldc2 (v := 1000) hx hb hown (hT _ mw_550) dX4_fallOf_13 ?_
  refine lv_lload_n hx hb dX4_fallOf_16 rfl (lv_at hl 0 rfl) ?_
  refine lv_lmul hx hb dX4_fallOf_17 ?_
  refine lv_lload_n hx hb dX4_fallOf_18 rfl (lv_at hl 0 rfl) ?_
  refine lv_lmul hx hb dX4_fallOf_19 ?_
  refine lv_aload_n hx hb dX4_fallOf_20 rfl (lv_at hl 1 rfl) ?_
  refine va_get (D := (dC, dI)) (ci := 4) (v := .ref (aR 5)) (C := RX4) (T := TX4) (N := 22) hx hb hT in_X4 hown hK hP 0 rfl rfl 7 (by decide) (hT _ mw_468) (fun _ h9 => h9) rfl dX4_fallOf_21 ?_
  refine lv_iload_n hx hb dX4_fallOf_24 rfl (lv_at hl 3 rfl) ?_
  refine dk_iald (q0 := 5) (t0 := 0) (i := j) hx hb hK hP rfl rfl rfl (by omega) (by decide) dX4_fallOf_25 ?_
  refine lv_aload_n hx hb dX4_fallOf_26 rfl (lv_at hl 1 rfl) ?_
  refine va_get (D := (dC, dI)) (ci := 4) (v := .ref (aR 5)) (C := RX4) (T := TX4) (N := 22) hx hb hT in_X4 hown hK hP 0 rfl rfl 7 (by decide) (hT _ mw_468) (fun _ h9 => h9) rfl dX4_fallOf_27 ?_
  refine lv_iload_n hx hb dX4_fallOf_30 rfl (lv_at hl 3 rfl) ?_
  refine dk_iald (q0 := 5) (t0 := 0) (i := j) hx hb hK hP rfl rfl rfl (by omega) (by decide) dX4_fallOf_31 ?_
  refine lv_imul hx hb dX4_fallOf_32 ?_
  refine lv_topi (fun y9 e9 => ?_)
  obtain rfl : y9 = nI (arN j * arN j) := by rw [e9]; exact (by rw [ha1, pk_mul])
  refine lv_i2l (v := ((nI (arN j * arN j))).toInt64) hx hb dX4_fallOf_33 rfl ?_
  refine lv_ldiv hx hb dX4_fallOf_34 (rk_l0 (Nat.mul_pos ha2 ha2) (by omega)) ?_
  refine lv_lmul hx hb dX4_fallOf_35 ?_
  refine lv_ldc2 (v := 100) hx hb hown (hT _ mw_540) dX4_fallOf_36 ?_
  refine lv_ldiv hx hb dX4_fallOf_39 (by decide) ?_
  refine dk_topl (fun y9 e9 => ?_)
  obtain rfl : y9 = lN (dk_raw (leN i) (rk_flow frN neN d i) (arN j)) := by rw [e9]; exact hr1
  refine lv_lstore (lv' := [(5, .long (lN (dk_raw (leN i) (rk_flow frN neN d i) (arN j)))), (3, .long (lN (rk_flow frN neN d i))), (0, .ref (aR 0)), (1, .int (nI i)), (2, .int (nI j))]) hx hb dX4_fallOf_40 hl (by decide) rfl (fun ls hl => ?_)
  refine lv_lload hx hb dX4_fallOf_42 (lv_at hl 0 rfl) ?_
  refine lv_ldc2 (v := 1000000) hx hb hown (hT _ mw_598) dX4_fallOf_44 ?_
  refine dk_lif_ge (tgt := 56) hx hb dX4_fallOf_47 dX4_fallOf_48 (by decide) (fun c_48 => ?_) (fun c_48 => ?_)
  · refine lv_ldc2 (v := 1000000) hx hb hown (hT _ mw_598) dX4_fallOf_56 ?_
    refine lv_aload_n hx hb dX4_fallOf_59 rfl (lv_at hl 2 rfl) ?_
    refine va_get (D := (dC, dI)) (ci := 4) (v := .ref (aR 3)) (C := RX4) (T := TX4) (N := 22) hx hb hT in_X4 hown hK hP 0 rfl rfl 4 (by decide) (hT _ mw_465) (fun _ h9 => h9) rfl dX4_fallOf_60 ?_
    refine lv_iload_n hx hb dX4_fallOf_63 rfl (lv_at hl 3 rfl) ?_
    refine dk_iald (q0 := 3) (t0 := 0) (i := i) hx hb hK hP rfl rfl rfl (by omega) (by decide) dX4_fallOf_64 ?_
    refine lv_i2l (v := ((fi i)).toInt64) hx hb dX4_fallOf_65 rfl ?_
    refine lv_ladd hx hb dX4_fallOf_66 ?_
    exact hret _ _ _ (rk_fall1 hr2 hf1 hf2 c_48) dX4_fallOf_67
  · refine lv_lload hx hb dX4_fallOf_51 (lv_at hl 0 rfl) ?_
    refine lv_goto (tgt := 59) hx hb dX4_fallOf_53 (by decide) ?_
    refine lv_aload_n hx hb dX4_fallOf_59 rfl (lv_at hl 2 rfl) ?_
    refine va_get (D := (dC, dI)) (ci := 4) (v := .ref (aR 3)) (C := RX4) (T := TX4) (N := 22) hx hb hT in_X4 hown hK hP 0 rfl rfl 4 (by decide) (hT _ mw_465) (fun _ h9 => h9) rfl dX4_fallOf_60 ?_
    refine lv_iload_n hx hb dX4_fallOf_63 rfl (lv_at hl 3 rfl) ?_
    refine dk_iald (q0 := 3) (t0 := 0) (i := i) hx hb hK hP rfl rfl rfl (by omega) (by decide) dX4_fallOf_64 ?_
    refine lv_i2l (v := ((fi i)).toInt64) hx hb dX4_fallOf_65 rfl ?_
    refine lv_ladd hx hb dX4_fallOf_66 ?_
    exact hret _ _ _ (rk_fall2 hr2 hf1 hf2 c_48) dX4_fallOf_67
