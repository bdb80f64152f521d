set_option maxHeartbeats 4000000 in
set_option maxRecDepth 100000 in
/-- DuctSizes$Network.speedOf -/
theorem c_X1_speedOf (l : Launch) (dC : Nat → ClassId) (dI : Nat → Nat → Nat) (cI cII : ClassId) (aN : Nat → Nat) (fr : Nat → Int32) (le : Nat → Int32) (fi : Nat → Int32) (ne : Nat → Int32) (fl : Nat → Int32) (du : Int32) (ar : Nat → Int32) (pr : Nat → Int32) (sz : Int32) (sp : Int32) (i : Nat) (j : Nat) (h1 : i < 7) (h2 : j < 4) (h3 : ¬ ar j = 0) : dk_Ri l yX1_speedOf wsX1_speedOf ({ frames := 0, cells := 0, slots := 0, locals := 0 }) (dC, dI) (dk_T cI cII) [.ref (aN 0), .int (nI i), .int (nI j)] (dk_N cI cII aN fr le fi ne fl du ar pr sz sp) (fun r => r = dk_speed fl ar i j) := by
  refine dk_ofRi (cc := cX1_speedOf) (maxL := 3) (by decide) rfl (Nat.le_of_ble_eq_true rfl) ?_
  intro p e s m args below meth c ls Q H ⟨hx, hb, hml, hts, hown, hnm⟩ hK hP hl hret
  have hT : ∀ w ∈ dk_tbl, w.before args s = true := fun w h => hts w (List.mem_cons_of_mem _ h)
  have hown : s.vm.findClass RX1 = some m.cls := hown
  have hl : lv_has ls 3 [(0, .ref (aN 0)), (1, .int (nI i)), (2, .int (nI j))] := hl
  refine lv_bipush (v := 100) hx hb dX1_speedOf_0 (by decide) ?_
  refine lv_aload_n hx hb dX1_speedOf_2 rfl (lv_at hl 0 rfl) ?_
  refine va_get (D := (dC, dI)) (ci := 1) (v := .ref (aN 5)) (C := RX1) (T := TX1) (N := 10) hx hb hT in_X1 hown hK hP 0 rfl rfl 4 (by decide) (hT _ mw_55) (fun _ h9 => h9) rfl dX1_speedOf_3 ?_
  refine lv_iload_n hx hb dX1_speedOf_6 rfl (lv_at hl 1 rfl) ?_
  refine dk_iald (q0 := 5) (t0 := 0) (i := i) hx hb hK hP rfl rfl rfl h1 (by decide) dX1_speedOf_7 ?_
  refine lv_imul hx hb dX1_speedOf_8 ?_
  refine lv_aload_n hx hb dX1_speedOf_9 rfl (lv_at hl 0 rfl) ?_
  refine va_get (D := (dC, dI)) (ci := 1) (v := .ref (aN 6)) (C := RX1) (T := TX1) (N := 10) hx hb hT in_X1 hown hK hP 0 rfl rfl 6 (by decide) (hT _ mw_60) (fun _ h9 => h9) rfl dX1_speedOf_10 ?_
  refine lv_iload_n hx hb dX1_speedOf_13 rfl (lv_at hl 2 rfl) ?_
  refine dk_iald (q0 := 6) (t0 := 0) (i := j) hx hb hK hP rfl rfl rfl h2 (by decide) dX1_speedOf_14 ?_
  refine lv_idiv hx hb dX1_speedOf_15 h3 ?_
  exact hret _ _ _ rfl dX1_speedOf_16
set_option maxHeartbeats 4000000 in
set_option maxRecDepth 100000 in
/-- DuctSizes$Network.fallOf -/
theorem c_X1_fallOf (l : Launch) (dC : Nat → ClassId) (dI : Nat → Nat → Nat) (cI cII : ClassId) (aN : Nat → Nat) (fr : Nat → Int32) (le : Nat → Int32) (fi : Nat → Int32) (ne : Nat → Int32) (fl : Nat → Int32) (du : Int32) (ar : Nat → Int32) (pr : Nat → Int32) (sz : Int32) (sp : Int32) (i : Nat) (j : Nat) (h1 : i < 7) (h2 : j < 4) (h3 : ¬ (ar j).toInt64 * (ar j).toInt64 = 0) : dk_Ri l yX1_fallOf wsX1_fallOf ({ frames := 1, cells := 0, slots := 0, locals := 15 }) (dC, dI) (dk_T cI cII) [.ref (aN 0), .int (nI i), .int (nI j)] (dk_N cI cII aN fr le fi ne fl du ar pr sz sp) (fun r => r = dk_fall le fi fl ar i j) := by
  refine dk_ofRi (cc := cX1_fallOf) (maxL := 11) (by decide) rfl (Nat.le_of_ble_eq_true rfl) ?_
  intro p e s m args below meth c ls Q H ⟨hx, hb, hml, hts, hown, hnm⟩ hK hP hl hret
  have hT : ∀ w ∈ dk_tbl, w.before args s = true := fun w h => hts w (List.mem_cons_of_mem _ h)
  have hown : s.vm.findClass RX1 = some m.cls := hown
  have hl : lv_has ls 11 [(0, .ref (aN 0)), (1, .int (nI i)), (2, .int (nI j))] := hl
  refine lv_aload_n hx hb dX1_fallOf_0 rfl (lv_at hl 0 rfl) ?_
  refine va_get (D := (dC, dI)) (ci := 1) (v := .ref (aN 5)) (C := RX1) (T := TX1) (N := 10) hx hb hT in_X1 hown hK hP 0 rfl rfl 4 (by decide) (hT _ mw_55) (fun _ h9 => h9) rfl dX1_fallOf_1 ?_
  refine lv_iload_n hx hb dX1_fallOf_4 rfl (lv_at hl 1 rfl) ?_
  refine dk_iald (q0 := 5) (t0 := 0) (i := i) hx hb hK hP rfl rfl rfl h1 (by decide) dX1_fallOf_5 ?_
  refine lv_i2l (v := ((fl i)).toInt64) hx hb dX1_fallOf_6 rfl ?_
  refine lv_lstore_n (lv' := [(3, .long (((fl i)).toInt64)), (0, .ref (aN 0)), (1, .int (nI i)), (2, .int (nI j))]) hx hb dX1_fallOf_7 rfl hl (by decide) rfl (fun ls hl => ?_)
  refine lv_aload_n hx hb dX1_fallOf_8 rfl (lv_at hl 1 rfl) ?_
  refine va_get (D := (dC, dI)) (ci := 1) (v := .ref (aN 6)) (C := RX1) (T := TX1) (N := 10) hx hb hT in_X1 hown hK hP 0 rfl rfl 6 (by decide) (hT _ mw_60) (fun _ h9 => h9) rfl dX1_fallOf_9 ?_
  refine lv_iload_n hx hb dX1_fallOf_12 rfl (lv_at hl 3 rfl) ?_
  refine dk_iald (q0 := 6) (t0 := 0) (i := j) hx hb hK hP rfl rfl rfl h2 (by decide) dX1_fallOf_13 ?_
  refine lv_i2l (v := ((ar j)).toInt64) hx hb dX1_fallOf_14 rfl ?_
  refine lv_lstore (lv' := [(5, .long (((ar j)).toInt64)), (3, .long (((fl i)).toInt64)), (0, .ref (aN 0)), (1, .int (nI i)), (2, .int (nI j))]) hx hb dX1_fallOf_15 hl (by decide) rfl (fun ls hl => ?_)
  refine lv_ldc2 (v := 1000) hx hb hown (hT _ mw_212) dX1_fallOf_17 ?_
  refine lv_lload_n hx hb dX1_fallOf_20 rfl (lv_at hl 1 rfl) ?_
  refine lv_lmul hx hb dX1_fallOf_21 ?_
  refine lv_lload_n hx hb dX1_fallOf_22 rfl (lv_at hl 1 rfl) ?_
  refine lv_lmul hx hb dX1_fallOf_23 ?_
  refine lv_lload hx hb dX1_fallOf_24 (lv_at hl 0 rfl) ?_
  refine lv_lload hx hb dX1_fallOf_26 (lv_at hl 0 rfl) ?_
  refine lv_lmul hx hb dX1_fallOf_28 ?_
  refine lv_ldiv hx hb dX1_fallOf_29 h3 ?_
  refine lv_lstore (lv' := [(7, .long (((1000 * ((fl i)).toInt64) * ((fl i)).toInt64) / (((ar j)).toInt64 * ((ar j)).toInt64))), (5, .long (((ar j)).toInt64)), (3, .long (((fl i)).toInt64)), (0, .ref (aN 0)), (1, .int (nI i)), (2, .int (nI j))]) hx hb dX1_fallOf_30 hl (by decide) rfl (fun ls hl => ?_)
  refine lv_aload_n hx hb dX1_fallOf_32 rfl (lv_at hl 3 rfl) ?_
  refine va_get (D := (dC, dI)) (ci := 1) (v := .ref (aN 2)) (C := RX1) (T := TX1) (N := 10) hx hb hT in_X1 hown hK hP 0 rfl rfl 1 (by decide) (hT _ mw_51) (fun _ h9 => h9) rfl dX1_fallOf_33 ?_
  refine lv_iload_n hx hb dX1_fallOf_36 rfl (lv_at hl 4 rfl) ?_
  refine dk_iald (q0 := 2) (t0 := 0) (i := i) hx hb hK hP rfl rfl rfl h1 (by decide) dX1_fallOf_37 ?_
  refine lv_i2l (v := ((le i)).toInt64) hx hb dX1_fallOf_38 rfl ?_
  refine lv_lload hx hb dX1_fallOf_39 (lv_at hl 0 rfl) ?_
  refine lv_lmul hx hb dX1_fallOf_41 ?_
  refine lv_ldc2 (v := 100) hx hb hown (hT _ mw_213) dX1_fallOf_42 ?_
  refine lv_ldiv hx hb dX1_fallOf_45 (by decide) ?_
  refine lv_ldc2 (v := 1000000) hx hb hown (hT _ mw_214) dX1_fallOf_46 ?_
  refine va_mmin_long hx hb (by rw [hml]; exact hl.1.symm) hown (hT _ mw_215) (hT _ mw_216) (hT _ mw_33) (hT _ mw_217) (Nat.le_of_ble_eq_true rfl) (Nat.le_of_ble_eq_true rfl) (Nat.le_of_ble_eq_true rfl) (Nat.le_of_ble_eq_true rfl) dX1_fallOf_49 ?_
  refine lv_lstore (lv' := [(9, .long (if 1000000 < ((((le i)).toInt64 * (((1000 * ((fl i)).toInt64) * ((fl i)).toInt64) / (((ar j)).toInt64 * ((ar j)).toInt64))) / 100) then 1000000 else ((((le i)).toInt64 * (((1000 * ((fl i)).toInt64) * ((fl i)).toInt64) / (((ar j)).toInt64 * ((ar j)).toInt64))) / 100))), (7, .long (((1000 * ((fl i)).toInt64) * ((fl i)).toInt64) / (((ar j)).toInt64 * ((ar j)).toInt64))), (5, .long (((ar j)).toInt64)), (3, .long (((fl i)).toInt64)), (0, .ref (aN 0)), (1, .int (nI i)), (2, .int (nI j))]) hx hb dX1_fallOf_52 hl (by decide) rfl (fun ls hl => ?_)
  refine lv_lload hx hb dX1_fallOf_54 (lv_at hl 0 rfl) ?_
  refine lv_l2i (v := ((if 1000000 < ((((le i)).toInt64 * (((1000 * ((fl i)).toInt64) * ((fl i)).toInt64) / (((ar j)).toInt64 * ((ar j)).toInt64))) / 100) then 1000000 else ((((le i)).toInt64 * (((1000 * ((fl i)).toInt64) * ((fl i)).toInt64) / (((ar j)).toInt64 * ((ar j)).toInt64))) / 100))).toInt32) hx hb dX1_fallOf_56 rfl ?_
  refine lv_aload_n hx hb dX1_fallOf_57 rfl (lv_at hl 4 rfl) ?_
  refine va_get (D := (dC, dI)) (ci := 1) (v := .ref (aN 3)) (C := RX1) (T := TX1) (N := 10) hx hb hT in_X1 hown hK hP 0 rfl rfl 2 (by decide) (hT _ mw_52) (fun _ h9 => h9) rfl dX1_fallOf_58 ?_
  refine lv_iload_n hx hb dX1_fallOf_61 rfl (lv_at hl 5 rfl) ?_
  refine dk_iald (q0 := 3) (t0 := 0) (i := i) hx hb hK hP rfl rfl rfl h1 (by decide) dX1_fallOf_62 ?_
  refine lv_iadd hx hb dX1_fallOf_63 ?_
  exact hret _ _ _ rfl dX1_fallOf_64
set_option maxHeartbeats 4000000 in
set_option maxRecDepth 100000 in
/-- DuctSizes$Network.allows -/
theorem c_X1_allows (l : Launch) (dC : Nat → ClassId) (dI : Nat → Nat → Nat) (cI cII : ClassId) (aN : Nat → Nat) (fr : Nat → Int32) (le : Nat → Int32) (fi : Nat → Int32) (ne : Nat → Int32) (fl : Nat → Int32) (du : Int32) (ar : Nat → Int32) (pr : Nat → Int32) (sz : Int32) (sp : Int32) (i : Nat) (j : Nat) (h1 : i < 7) (h2 : j < 4) (h3 : ¬ ar j = 0) : dk_Ri l yX1_allows wsX1_allows ({ frames := 1, cells := 0, slots := 0, locals := 22 }) (dC, dI) (dk_T cI cII) [.ref (aN 0), .int (nI i), .int (nI j)] (dk_N cI cII aN fr le fi ne fl du ar pr sz sp) (fun r => r = dk_allows fl ar sp i j) := by
  refine dk_ofRz (cc := cX1_allows) (maxL := 3) (by decide) rfl (Nat.le_of_ble_eq_true rfl) ?_
  intro p e s m args below meth c ls Q H ⟨hx, hb, hml, hts, hown, hnm⟩ hK hP hl hret
  have hT : ∀ w ∈ dk_tbl, w.before args s = true := fun w h => hts w (List.mem_cons_of_mem _ h)
  have hown : s.vm.findClass RX1 = some m.cls := hown
  have hl : lv_has ls 3 [(0, .ref (aN 0)), (1, .int (nI i)), (2, .int (nI j))] := hl
  refine lv_aload_n hx hb dX1_allows_0 rfl (lv_at hl 0 rfl) ?_
  refine lv_iload_n hx hb dX1_allows_1 rfl (lv_at hl 1 rfl) ?_
  refine lv_iload_n hx hb dX1_allows_2 rfl (lv_at hl 2 rfl) ?_
  refine dk_csi (va_runV (As := [.int (nI i), .int (nI j)]) (rest := []) ⟨hx, hb, hml, hown, hT⟩ (c_X1_speedOf l dC dI cI cII aN fr le fi ne fl du ar pr sz sp i j h1 h2 h3) (cwV 2 hT (dk_gV mw_204 mw_205 mw_206 mw_24 mw_207) rfl rfl rfl (by decide +kernel) ⟨(Nat.le_of_ble_eq_true rfl), (Nat.le_of_ble_eq_true rfl)⟩) (dk_preRV hK hP [0, 1, 2, 3, 4, 5, 6, 7] rfl (q0 := 0) (ci := 1) rfl rfl) rfl rfl hl.1 rfl (lv_room (Nat.le_of_ble_eq_true rfl)) dX1_allows_3 ⟨Nat.le_of_ble_eq_true rfl, Nat.le_of_ble_eq_true rfl⟩) (fun r9 h9 => ?_)
  subst h9
  refine lv_aload_n hx hb dX1_allows_6 rfl (lv_at hl 0 rfl) ?_
  refine va_get (D := (dC, dI)) (ci := 1) (v := .int sp) (C := RX1) (T := TX1) (N := 10) hx hb hT in_X1 hown hK hP 0 rfl rfl 9 (by decide) (hT _ mw_65) (fun _ h9 => h9) rfl dX1_allows_7 ?_
  refine lv_icmp_gt (tgt := 17) hx hb dX1_allows_10 (by decide) (fun c_10 => ?_) (fun c_10 => ?_)
  · refine lv_iconst (v := 0) hx hb dX1_allows_17 (by decide) ?_
    exact hret _ _ _ rfl (by unfold dk_allows; rw [if_pos c_10]) dX1_allows_18
  · refine lv_iconst (v := 1) hx hb dX1_allows_13 (by decide) ?_
    refine lv_goto (tgt := 18) hx hb dX1_allows_14 (by decide) ?_
    exact hret _ _ _ rfl (by unfold dk_allows; rw [if_neg c_10]) dX1_allows_18
set_option maxHeartbeats 4000000 in
set_option maxRecDepth 100000 in
/-- DuctSizes$Network.priceOf -/
theorem c_X1_priceOf (l : Launch) (dC : Nat → ClassId) (dI : Nat → Nat → Nat) (cI cII : ClassId) (aN : Nat → Nat) (fr : Nat → Int32) (le : Nat → Int32) (fi : Nat → Int32) (ne : Nat → Int32) (fl : Nat → Int32) (du : Int32) (ar : Nat → Int32) (pr : Nat → Int32) (sz : Int32) (sp : Int32) (i : Nat) (j : Nat) (h1 : i < 7) (h2 : j < 4) : dk_Ri l yX1_priceOf wsX1_priceOf ({ frames := 0, cells := 0, slots := 0, locals := 0 }) (dC, dI) (dk_T cI cII) [.ref (aN 0), .int (nI i), .int (nI j)] (dk_N cI cII aN fr le fi ne fl du ar pr sz sp) (fun r => r = dk_price le pr i j) := by
  refine dk_ofRi (cc := cX1_priceOf) (maxL := 3) (by decide) rfl (Nat.le_of_ble_eq_true rfl) ?_
  intro p e s m args below meth c ls Q H ⟨hx, hb, hml, hts, hown, hnm⟩ hK hP hl hret
  have hT : ∀ w ∈ dk_tbl, w.before args s = true := fun w h => hts w (List.mem_cons_of_mem _ h)
  have hown : s.vm.findClass RX1 = some m.cls := hown
  have hl : lv_has ls 3 [(0, .ref (aN 0)), (1, .int (nI i)), (2, .int (nI j))] := hl
  refine lv_aload_n hx hb dX1_priceOf_0 rfl (lv_at hl 0 rfl) ?_
  refine va_get (D := (dC, dI)) (ci := 1) (v := .ref (aN 2)) (C := RX1) (T := TX1) (N := 10) hx hb hT in_X1 hown hK hP 0 rfl rfl 1 (by decide) (hT _ mw_51) (fun _ h9 => h9) rfl dX1_priceOf_1 ?_
  refine lv_iload_n hx hb dX1_priceOf_4 rfl (lv_at hl 1 rfl) ?_
  refine dk_iald (q0 := 2) (t0 := 0) (i := i) hx hb hK hP rfl rfl rfl h1 (by decide) dX1_priceOf_5 ?_
  refine lv_aload_n hx hb dX1_priceOf_6 rfl (lv_at hl 0 rfl) ?_
  refine va_get (D := (dC, dI)) (ci := 1) (v := .ref (aN 7)) (C := RX1) (T := TX1) (N := 10) hx hb hT in_X1 hown hK hP 0 rfl rfl 7 (by decide) (hT _ mw_61) (fun _ h9 => h9) rfl dX1_priceOf_7 ?_
  refine lv_iload_n hx hb dX1_priceOf_10 rfl (lv_at hl 2 rfl) ?_
  refine dk_iald (q0 := 7) (t0 := 0) (i := j) hx hb hK hP rfl rfl rfl h2 (by decide) dX1_priceOf_11 ?_
  refine lv_imul hx hb dX1_priceOf_12 ?_
  exact hret _ _ _ rfl dX1_priceOf_13
set_option maxHeartbeats 4000000 in
set_option maxRecDepth 100000 in
/-- DuctSizes$Network.addDuct -/
theorem c_X1_addDuct (l : Launch) (dC : Nat → ClassId) (dI : Nat → Nat → Nat) (cI cII : ClassId) (aN : Nat → Nat) (fr : Nat → Int32) (le : Nat → Int32) (fi : Nat → Int32) (ne : Nat → Int32) (fl : Nat → Int32) (ar : Nat → Int32) (pr : Nat → Int32) (sz : Int32) (sp : Int32) (d : Nat) (x0 : Int32) (x1 : Int32) (x2 : Int32) (hz : Nat) (h1 : d < 6) : dk_Mi l yX1_addDuct wsX1_addDuct ({ frames := 0, cells := 0, slots := 0, locals := 0 }) (dC, dI) (dk_T cI cII) [.ref (aN 0), .int x0, .int x1, .int x2] (dk_N cI cII aN fr le fi ne fl (nI d) ar pr sz sp) hz (fun (r : Int32) (_ : Unit) => r = nI (d + 1)) (fun _ => dk_N cI cII aN (upd fr (d + 1) x0) (upd le (d + 1) x1) (upd fi (d + 1) x2) ne fl (nI (d + 1)) ar pr sz sp) 0 0 := by
  refine dk_ofMi (cc := cX1_addDuct) (maxL := 4) (by decide) rfl (Nat.le_of_ble_eq_true rfl) ?_
  intro p e s m args below meth c A ls Q ⟨hx, hb, hml, hts, hown, hnm⟩ hsz hK hP hD hA hS hl hret
  have hT : ∀ w ∈ dk_tbl, w.before args s = true := fun w h => hts w (List.mem_cons_of_mem _ h)
  have hown : s.vm.findClass RX1 = some m.cls := hown
  have hl : lv_has ls 4 [(0, .ref (aN 0)), (1, .int x0), (2, .int x1), (3, .int x2)] := hl
  refine lv_aload_n hx hb dX1_addDuct_0 rfl (lv_at hl 0 rfl) ?_
  refine lv_dup hx hb dX1_addDuct_1 rfl ?_
  refine va_get (D := (dC, dI)) (ci := 1) (v := .int (nI d)) (C := RX1) (T := TX1) (N := 10) hx hb hT in_X1 hown hK hP 0 rfl rfl 5 (by decide) (hT _ mw_57) (fun _ h9 => h9) rfl dX1_addDuct_2 ?_
  refine lv_iconst (v := 1) hx hb dX1_addDuct_5 (by decide) ?_
  refine lv_iadd hx hb dX1_addDuct_6 ?_
  refine lv_topi (fun y9 e9 => ?_)
  obtain rfl : y9 = nI (d + 1) := by rw [e9]; exact nI_1 d
  refine va_put (D := (dC, dI)) (ci := 1) (v := .int (nI (d + 1))) (ty := .int) (C := RX1) (T := TX1) (N := 10) hx hb hT in_X1 tyX1 tyX1_ok nmX1 hown hK hP hD hS 0 rfl rfl 5 (by decide) (hT _ mw_57) (fun _ h9 => h9) rfl (by decide +kernel) rfl rfl (Nat.le_of_ble_eq_true rfl) dX1_addDuct_7 (fun H locs hP hD hS => ?_)
  have hP : va_P (dC, dI) vwCl (dk_N cI cII aN fr le fi ne fl (nI (d + 1)) ar pr sz sp) H := hP
  have hD : va_D A (dk_N cI cII aN fr le fi ne fl (nI (d + 1)) ar pr sz sp) := hD
  refine lv_aload_n hx hb dX1_addDuct_10 rfl (lv_at hl 0 rfl) ?_
  refine va_get (D := (dC, dI)) (ci := 1) (v := .ref (aN 1)) (C := RX1) (T := TX1) (N := 10) hx hb hT in_X1 hown hK hP 0 rfl rfl 0 (by decide) (hT _ mw_49) (fun _ h9 => h9) rfl dX1_addDuct_11 ?_
  refine lv_aload_n hx hb dX1_addDuct_14 rfl (lv_at hl 0 rfl) ?_
  refine va_get (D := (dC, dI)) (ci := 1) (v := .int (nI (d + 1))) (C := RX1) (T := TX1) (N := 10) hx hb hT in_X1 hown hK hP 0 rfl rfl 5 (by decide) (hT _ mw_57) (fun _ h9 => h9) rfl dX1_addDuct_15 ?_
  refine lv_iload_n hx hb dX1_addDuct_18 rfl (lv_at hl 1 rfl) ?_
  refine dk_iast (q0 := 1) (t0 := 0) (i := d + 1) hx hb hK hP hD hS rfl rfl rfl (by omega) (by decide) dX1_addDuct_19 (fun H locs hP hD hS => ?_)
  have hP : va_P (dC, dI) vwCl (dk_N cI cII aN (upd fr (d + 1) x0) le fi ne fl (nI (d + 1)) ar pr sz sp) H := hP
  have hD : va_D A (dk_N cI cII aN (upd fr (d + 1) x0) le fi ne fl (nI (d + 1)) ar pr sz sp) := hD
  refine lv_aload_n hx hb dX1_addDuct_20 rfl (lv_at hl 0 rfl) ?_
  refine va_get (D := (dC, dI)) (ci := 1) (v := .ref (aN 2)) (C := RX1) (T := TX1) (N := 10) hx hb hT in_X1 hown hK hP 0 rfl rfl 1 (by decide) (hT _ mw_51) (fun _ h9 => h9) rfl dX1_addDuct_21 ?_
  refine lv_aload_n hx hb dX1_addDuct_24 rfl (lv_at hl 0 rfl) ?_
  refine va_get (D := (dC, dI)) (ci := 1) (v := .int (nI (d + 1))) (C := RX1) (T := TX1) (N := 10) hx hb hT in_X1 hown hK hP 0 rfl rfl 5 (by decide) (hT _ mw_57) (fun _ h9 => h9) rfl dX1_addDuct_25 ?_
  refine lv_iload_n hx hb dX1_addDuct_28 rfl (lv_at hl 2 rfl) ?_
  refine dk_iast (q0 := 2) (t0 := 0) (i := d + 1) hx hb hK hP hD hS rfl rfl rfl (by omega) (by decide) dX1_addDuct_29 (fun H locs hP hD hS => ?_)
  have hP : va_P (dC, dI) vwCl (dk_N cI cII aN (upd fr (d + 1) x0) (upd le (d + 1) x1) fi ne fl (nI (d + 1)) ar pr sz sp) H := hP
  have hD : va_D A (dk_N cI cII aN (upd fr (d + 1) x0) (upd le (d + 1) x1) fi ne fl (nI (d + 1)) ar pr sz sp) := hD
  refine lv_aload_n hx hb dX1_addDuct_30 rfl (lv_at hl 0 rfl) ?_
  refine va_get (D := (dC, dI)) (ci := 1) (v := .ref (aN 3)) (C := RX1) (T := TX1) (N := 10) hx hb hT in_X1 hown hK hP 0 rfl rfl 2 (by decide) (hT _ mw_52) (fun _ h9 => h9) rfl dX1_addDuct_31 ?_
  refine lv_aload_n hx hb dX1_addDuct_34 rfl (lv_at hl 0 rfl) ?_
  refine va_get (D := (dC, dI)) (ci := 1) (v := .int (nI (d + 1))) (C := RX1) (T := TX1) (N := 10) hx hb hT in_X1 hown hK hP 0 rfl rfl 5 (by decide) (hT _ mw_57) (fun _ h9 => h9) rfl dX1_addDuct_35 ?_
  refine lv_iload_n hx hb dX1_addDuct_38 rfl (lv_at hl 3 rfl) ?_
  refine dk_iast (q0 := 3) (t0 := 0) (i := d + 1) hx hb hK hP hD hS rfl rfl rfl (by omega) (by decide) dX1_addDuct_39 (fun H locs hP hD hS => ?_)
  have hP : va_P (dC, dI) vwCl (dk_N cI cII aN (upd fr (d + 1) x0) (upd le (d + 1) x1) (upd fi (d + 1) x2) ne fl (nI (d + 1)) ar pr sz sp) H := hP
  have hD : va_D A (dk_N cI cII aN (upd fr (d + 1) x0) (upd le (d + 1) x1) (upd fi (d + 1) x2) ne fl (nI (d + 1)) ar pr sz sp) := hD
  refine lv_aload_n hx hb dX1_addDuct_40 rfl (lv_at hl 0 rfl) ?_
  refine va_get (D := (dC, dI)) (ci := 1) (v := .int (nI (d + 1))) (C := RX1) (T := TX1) (N := 10) hx hb hT in_X1 hown hK hP 0 rfl rfl 5 (by decide) (hT _ mw_57) (fun _ h9 => h9) rfl dX1_addDuct_41 ?_
  exact hret _ () _ _ _ _ rfl hP hD hS dX1_addDuct_44
set_option maxHeartbeats 4000000 in
set_option maxRecDepth 100000 in
/-- DuctSizes$Network.addSize -/
theorem c_X1_addSize (l : Launch) (dC : Nat → ClassId) (dI : Nat → Nat → Nat) (cI cII : ClassId) (aN : Nat → Nat) (fr : Nat → Int32) (le : Nat → Int32) (fi : Nat → Int32) (ne : Nat → Int32) (fl : Nat → Int32) (du : Int32) (ar : Nat → Int32) (pr : Nat → Int32) (sp : Int32) (z : Nat) (x0 : Int32) (x1 : Int32) (hz : Nat) (h1 : z < 4) : dk_Mi l yX1_addSize wsX1_addSize ({ frames := 0, cells := 0, slots := 0, locals := 0 }) (dC, dI) (dk_T cI cII) [.ref (aN 0), .int x0, .int x1] (dk_N cI cII aN fr le fi ne fl du ar pr (nI z) sp) hz (fun (r : Int32) (_ : Unit) => r = nI z) (fun _ => dk_N cI cII aN fr le fi ne fl du (upd ar z x0) (upd pr z x1) (nI (z + 1)) sp) 0 0 := by
  refine dk_ofMi (cc := cX1_addSize) (maxL := 3) (by decide) rfl (Nat.le_of_ble_eq_true rfl) ?_
  intro p e s m args below meth c A ls Q ⟨hx, hb, hml, hts, hown, hnm⟩ hsz hK hP hD hA hS hl hret
  have hT : ∀ w ∈ dk_tbl, w.before args s = true := fun w h => hts w (List.mem_cons_of_mem _ h)
  have hown : s.vm.findClass RX1 = some m.cls := hown
  have hl : lv_has ls 3 [(0, .ref (aN 0)), (1, .int x0), (2, .int x1)] := hl
  refine lv_aload_n hx hb dX1_addSize_0 rfl (lv_at hl 0 rfl) ?_
  refine va_get (D := (dC, dI)) (ci := 1) (v := .ref (aN 6)) (C := RX1) (T := TX1) (N := 10) hx hb hT in_X1 hown hK hP 0 rfl rfl 6 (by decide) (hT _ mw_60) (fun _ h9 => h9) rfl dX1_addSize_1 ?_
  refine lv_aload_n hx hb dX1_addSize_4 rfl (lv_at hl 0 rfl) ?_
  refine va_get (D := (dC, dI)) (ci := 1) (v := .int (nI z)) (C := RX1) (T := TX1) (N := 10) hx hb hT in_X1 hown hK hP 0 rfl rfl 8 (by decide) (hT _ mw_62) (fun _ h9 => h9) rfl dX1_addSize_5 ?_
  refine lv_iload_n hx hb dX1_addSize_8 rfl (lv_at hl 1 rfl) ?_
  refine dk_iast (q0 := 6) (t0 := 0) (i := z) hx hb hK hP hD hS rfl rfl rfl h1 (by decide) dX1_addSize_9 (fun H locs hP hD hS => ?_)
  have hP : va_P (dC, dI) vwCl (dk_N cI cII aN fr le fi ne fl du (upd ar z x0) pr (nI z) sp) H := hP
  have hD : va_D A (dk_N cI cII aN fr le fi ne fl du (upd ar z x0) pr (nI z) sp) := hD
  refine lv_aload_n hx hb dX1_addSize_10 rfl (lv_at hl 0 rfl) ?_
  refine va_get (D := (dC, dI)) (ci := 1) (v := .ref (aN 7)) (C := RX1) (T := TX1) (N := 10) hx hb hT in_X1 hown hK hP 0 rfl rfl 7 (by decide) (hT _ mw_61) (fun _ h9 => h9) rfl dX1_addSize_11 ?_
  refine lv_aload_n hx hb dX1_addSize_14 rfl (lv_at hl 0 rfl) ?_
  refine va_get (D := (dC, dI)) (ci := 1) (v := .int (nI z)) (C := RX1) (T := TX1) (N := 10) hx hb hT in_X1 hown hK hP 0 rfl rfl 8 (by decide) (hT _ mw_62) (fun _ h9 => h9) rfl dX1_addSize_15 ?_
  refine lv_iload_n hx hb dX1_addSize_18 rfl (lv_at hl 2 rfl) ?_
  refine dk_iast (q0 := 7) (t0 := 0) (i := z) hx hb hK hP hD hS rfl rfl rfl h1 (by decide) dX1_addSize_19 (fun H locs hP hD hS => ?_)
  have hP : va_P (dC, dI) vwCl (dk_N cI cII aN fr le fi ne fl du (upd ar z x0) (upd pr z x1) (nI z) sp) H := hP
  have hD : va_D A (dk_N cI cII aN fr le fi ne fl du (upd ar z x0) (upd pr z x1) (nI z) sp) := hD
  refine lv_aload_n hx hb dX1_addSize_20 rfl (lv_at hl 0 rfl) ?_
  refine lv_dup hx hb dX1_addSize_21 rfl ?_
  refine va_get (D := (dC, dI)) (ci := 1) (v := .int (nI z)) (C := RX1) (T := TX1) (N := 10) hx hb hT in_X1 hown hK hP 0 rfl rfl 8 (by decide) (hT _ mw_62) (fun _ h9 => h9) rfl dX1_addSize_22 ?_
  refine lv_iconst (v := 1) hx hb dX1_addSize_25 (by decide) ?_
  refine lv_iadd hx hb dX1_addSize_26 ?_
  refine lv_topi (fun y9 e9 => ?_)
  obtain rfl : y9 = nI (z + 1) := by rw [e9]; exact nI_1 z
  refine va_put (D := (dC, dI)) (ci := 1) (v := .int (nI (z + 1))) (ty := .int) (C := RX1) (T := TX1) (N := 10) hx hb hT in_X1 tyX1 tyX1_ok nmX1 hown hK hP hD hS 0 rfl rfl 8 (by decide) (hT _ mw_62) (fun _ h9 => h9) rfl (by decide +kernel) rfl rfl (Nat.le_of_ble_eq_true rfl) dX1_addSize_27 (fun H locs hP hD hS => ?_)
  have hP : va_P (dC, dI) vwCl (dk_N cI cII aN fr le fi ne fl du (upd ar z x0) (upd pr z x1) (nI (z + 1)) sp) H := hP
  have hD : va_D A (dk_N cI cII aN fr le fi ne fl du (upd ar z x0) (upd pr z x1) (nI (z + 1)) sp) := hD
  refine lv_aload_n hx hb dX1_addSize_30 rfl (lv_at hl 0 rfl) ?_
  refine va_get (D := (dC, dI)) (ci := 1) (v := .int (nI (z + 1))) (C := RX1) (T := TX1) (N := 10) hx hb hT in_X1 hown hK hP 0 rfl rfl 8 (by decide) (hT _ mw_62) (fun _ h9 => h9) rfl dX1_addSize_31 ?_
  refine lv_iconst (v := 1) hx hb dX1_addSize_34 (by decide) ?_
  refine lv_isub hx hb dX1_addSize_35 ?_
  refine lv_topi (fun y9 e9 => ?_)
  obtain rfl : y9 = nI z := by rw [e9]; exact nI_pred z
  exact hret _ () _ _ _ _ rfl hP hD hS dX1_addSize_36
set_option maxHeartbeats 4000000 in
set_option maxRecDepth 100000 in
/-- DuctSizes$Network.sumFlows -/
theorem c_X1_sumFlows (l : Launch) (dC : Nat → ClassId) (dI : Nat → Nat → Nat) (cI cII : ClassId) (aN : Nat → Nat) (fr : Nat → Int32) (le : Nat → Int32) (fi : Nat → Int32) (ne : Nat → Int32) (fl : Nat → Int32) (ar : Nat → Int32) (pr : Nat → Int32) (sz : Int32) (sp : Int32) (d : Nat) (hz : Nat) (h1 : d < 7) (h2 : ∀ k, k < 7 → vp_in (fr k) 7) : dk_Mv l yX1_sumFlows wsX1_sumFlows ({ frames := 0, cells := 0, slots := 0, locals := 0 }) (dC, dI) (dk_T cI cII) [.ref (aN 0)] (dk_N cI cII aN fr le fi ne fl (nI d) ar pr sz sp) hz (fun (_ : Unit) => True) (fun _ => dk_N cI cII aN fr le fi ne (dk_up fr d (dk_cpL ne (d + 1) 0 fl)) (nI d) ar pr sz sp) 0 0 := by
  refine dk_ofMv (cc := cX1_sumFlows) (maxL := 2) (by decide) rfl (Nat.le_of_ble_eq_true rfl) ?_
  intro p e s m args below meth c A ls Q ⟨hx, hb, hml, hts, hown, hnm⟩ hsz hK hP hD hA hS hl hret
  have hT : ∀ w ∈ dk_tbl, w.before args s = true := fun w h => hts w (List.mem_cons_of_mem _ h)
  have hown : s.vm.findClass RX1 = some m.cls := hown
  have hl : lv_has ls 2 [(0, .ref (aN 0))] := hl
  refine lv_iconst (v := 0) hx hb dX1_sumFlows_0 (by decide) ?_
  refine lv_istore_n (lv' := [(1, .int 0), (0, .ref (aN 0))]) hx hb dX1_sumFlows_1 rfl hl (by decide) rfl (fun ls hl => ?_)
  have lp2 : ∀ (n i : Nat) (f : Nat → Int32) (H : Heap) (locs : List Loc) (ls : Array Slot), i + n = d + 1 → dk_cpL ne n i f = (dk_cpL ne (d + 1) 0 fl) → va_P (dC, dI) vwCl (dk_N cI cII aN fr le fi ne f (nI d) ar pr sz sp) H → va_D A (dk_N cI cII aN fr le fi ne f (nI d) ar pr sz sp) → va_S A s.heap H locs → lv_has ls 2 [(1, .int (nI i)), (0, .ref (aN 0))] → W p l e ({ frames := 0, cells := 0, slots := 0, locals := 0 }) s m args below meth c H locs 0 0 Q (F0 m 2 ls []) := by
    intro n
    induction n with
    | zero =>
      intro i f H locs ls hin2 hf2_0 hP hD hS hl
      have hf2_0 : f = (dk_cpL ne (d + 1) 0 fl) := hf2_0
      subst hf2_0
      refine lv_iload_n hx hb dX1_sumFlows_2 rfl (lv_at hl 0 rfl) ?_
      refine lv_aload_n hx hb dX1_sumFlows_3 rfl (lv_at hl 1 rfl) ?_
      refine va_get (D := (dC, dI)) (ci := 1) (v := .int (nI d)) (C := RX1) (T := TX1) (N := 10) hx hb hT in_X1 hown hK hP 0 rfl rfl 5 (by decide) (hT _ mw_57) (fun _ h9 => h9) rfl dX1_sumFlows_4 ?_
      refine lv_icmp_gt (tgt := 28) hx hb dX1_sumFlows_7 (by decide) (fun c_7 => ?_) (fun c_7 => ?_)
      · refine lv_aload_n hx hb dX1_sumFlows_28 rfl (lv_at hl 1 rfl) ?_
        refine va_get (D := (dC, dI)) (ci := 1) (v := .int (nI d)) (C := RX1) (T := TX1) (N := 10) hx hb hT in_X1 hown hK hP 0 rfl rfl 5 (by decide) (hT _ mw_57) (fun _ h9 => h9) rfl dX1_sumFlows_29 ?_
        refine lv_istore_n (lv' := [(1, .int (nI d)), (0, .ref (aN 0))]) hx hb dX1_sumFlows_32 rfl hl (by decide) rfl (fun ls hl => ?_)
        have lp33 : ∀ (n : Nat) (f2 : Nat → Int32) (H : Heap) (locs : List Loc) (ls : Array Slot), n < 7 → dk_up fr n f2 = (dk_up fr d (dk_cpL ne (d + 1) 0 fl)) → va_P (dC, dI) vwCl (dk_N cI cII aN fr le fi ne f2 (nI d) ar pr sz sp) H → va_D A (dk_N cI cII aN fr le fi ne f2 (nI d) ar pr sz sp) → va_S A s.heap H locs → lv_has ls 2 [(1, .int (nI n)), (0, .ref (aN 0))] → W p l e ({ frames := 0, cells := 0, slots := 0, locals := 0 }) s m args below meth c H locs 0 0 Q (F0 m 33 ls []) := by
          intro n
          induction n with
          | zero =>
            intro f2 H locs ls hin33 hf33_0 hP hD hS hl
            have hf33_0 : f2 = (dk_up fr d (dk_cpL ne (d + 1) 0 fl)) := hf33_0
            subst hf33_0
            refine lv_iload_n hx hb dX1_sumFlows_33 rfl (lv_at hl 0 rfl) ?_
            refine lv_iconst (v := 1) hx hb dX1_sumFlows_34 (by decide) ?_
            refine lv_icmp_lt (tgt := 64) hx hb dX1_sumFlows_35 (by decide) (fun c_35 => ?_) (fun c_35 => ?_)
            · exact hret () _ _ _ _ trivial hP hD hS dX1_sumFlows_64
            · exact absurd (by decide) c_35
          | succ n ih33 =>
            intro f2 H locs ls hin33 hf33_0 hP hD hS hl
            refine lv_iload_n hx hb dX1_sumFlows_33 rfl (lv_at hl 0 rfl) ?_
            refine lv_iconst (v := 1) hx hb dX1_sumFlows_34 (by decide) ?_
            refine lv_icmp_lt (tgt := 64) hx hb dX1_sumFlows_35 (by decide) (fun c_35 => ?_) (fun c_35 => ?_)
            · exact absurd (show nI (n + 1) < nI 1 from c_35) (nI_nlt (by omega) (by omega))
            · refine lv_aload_n hx hb dX1_sumFlows_38 rfl (lv_at hl 1 rfl) ?_
              refine va_get (D := (dC, dI)) (ci := 1) (v := .ref (aN 5)) (C := RX1) (T := TX1) (N := 10) hx hb hT in_X1 hown hK hP 0 rfl rfl 4 (by decide) (hT _ mw_55) (fun _ h9 => h9) rfl dX1_sumFlows_39 ?_
              refine lv_aload_n hx hb dX1_sumFlows_42 rfl (lv_at hl 1 rfl) ?_
              refine va_get (D := (dC, dI)) (ci := 1) (v := .ref (aN 1)) (C := RX1) (T := TX1) (N := 10) hx hb hT in_X1 hown hK hP 0 rfl rfl 0 (by decide) (hT _ mw_49) (fun _ h9 => h9) rfl dX1_sumFlows_43 ?_
              refine lv_iload_n hx hb dX1_sumFlows_46 rfl (lv_at hl 0 rfl) ?_
              refine dk_iald (q0 := 1) (t0 := 0) (i := n + 1) hx hb hK hP rfl rfl rfl (by omega) (by decide) dX1_sumFlows_47 ?_
              refine lv_dup2_11 hx hb dX1_sumFlows_48 rfl rfl ?_
              refine va_iald hx hb hK hP 5 0 rfl rfl (h2 (n + 1) (by omega)) dX1_sumFlows_49 ?_
              refine lv_aload_n hx hb dX1_sumFlows_50 rfl (lv_at hl 1 rfl) ?_
              refine va_get (D := (dC, dI)) (ci := 1) (v := .ref (aN 5)) (C := RX1) (T := TX1) (N := 10) hx hb hT in_X1 hown hK hP 0 rfl rfl 4 (by decide) (hT _ mw_55) (fun _ h9 => h9) rfl dX1_sumFlows_51 ?_
              refine lv_iload_n hx hb dX1_sumFlows_54 rfl (lv_at hl 0 rfl) ?_
              refine dk_iald (q0 := 5) (t0 := 0) (i := n + 1) hx hb hK hP rfl rfl rfl (by omega) (by decide) dX1_sumFlows_55 ?_
              refine lv_iadd hx hb dX1_sumFlows_56 ?_
              refine va_iast hx hb hK hP hD hS 5 0 rfl rfl (h2 (n + 1) (by omega)) dX1_sumFlows_57 (fun H locs hP hD hS => ?_)
              have hP : va_P (dC, dI) vwCl (dk_N cI cII aN fr le fi ne (upd f2 ((fr (n + 1))).toNatClampNeg ((f2 ((fr (n + 1))).toNatClampNeg) + (f2 (n + 1)))) (nI d) ar pr sz sp) H := hP
              have hD : va_D A (dk_N cI cII aN fr le fi ne (upd f2 ((fr (n + 1))).toNatClampNeg ((f2 ((fr (n + 1))).toNatClampNeg) + (f2 (n + 1)))) (nI d) ar pr sz sp) := hD
              refine lv_iinc (v := (nI n)) (lv' := [(1, .int (nI n)), (0, .ref (aN 0))]) hx hb dX1_sumFlows_58 hl (k := 0) rfl (pk_m1 n) (by decide) rfl (fun ls hl => ?_)
              refine lv_goto (tgt := 33) hx hb dX1_sumFlows_61 (by decide) ?_
              exact ih33 (upd f2 ((fr (n + 1))).toNatClampNeg ((f2 ((fr (n + 1))).toNatClampNeg) + (f2 (n + 1)))) _ _ _ (by omega) (by rw [← hf33_0]; rfl) hP hD hS (lv_sub hl [0, 1] rfl)
        exact lp33 d (dk_cpL ne (d + 1) 0 fl) _ _ _ (by omega) rfl hP hD hS (lv_sub hl [0, 1] rfl)
      · exact absurd (nI_lt (by omega) (by omega)) c_7
    | succ n ih2 =>
      intro i f H locs ls hin2 hf2_0 hP hD hS hl
      refine lv_iload_n hx hb dX1_sumFlows_2 rfl (lv_at hl 0 rfl) ?_
      refine lv_aload_n hx hb dX1_sumFlows_3 rfl (lv_at hl 1 rfl) ?_
      refine va_get (D := (dC, dI)) (ci := 1) (v := .int (nI d)) (C := RX1) (T := TX1) (N := 10) hx hb hT in_X1 hown hK hP 0 rfl rfl 5 (by decide) (hT _ mw_57) (fun _ h9 => h9) rfl dX1_sumFlows_4 ?_
      refine lv_icmp_gt (tgt := 28) hx hb dX1_sumFlows_7 (by decide) (fun c_7 => ?_) (fun c_7 => ?_)
      · exact absurd c_7 (nI_nlt (by omega) (by omega))
      · refine lv_aload_n hx hb dX1_sumFlows_10 rfl (lv_at hl 1 rfl) ?_
        refine va_get (D := (dC, dI)) (ci := 1) (v := .ref (aN 5)) (C := RX1) (T := TX1) (N := 10) hx hb hT in_X1 hown hK hP 0 rfl rfl 4 (by decide) (hT _ mw_55) (fun _ h9 => h9) rfl dX1_sumFlows_11 ?_
        refine lv_iload_n hx hb dX1_sumFlows_14 rfl (lv_at hl 0 rfl) ?_
        refine lv_aload_n hx hb dX1_sumFlows_15 rfl (lv_at hl 1 rfl) ?_
        refine va_get (D := (dC, dI)) (ci := 1) (v := .ref (aN 4)) (C := RX1) (T := TX1) (N := 10) hx hb hT in_X1 hown hK hP 0 rfl rfl 3 (by decide) (hT _ mw_53) (fun _ h9 => h9) rfl dX1_sumFlows_16 ?_
        refine lv_iload_n hx hb dX1_sumFlows_19 rfl (lv_at hl 0 rfl) ?_
        refine dk_iald (q0 := 4) (t0 := 0) (i := i) hx hb hK hP rfl rfl rfl (by omega) (by decide) dX1_sumFlows_20 ?_
        refine dk_iast (q0 := 5) (t0 := 0) (i := i) hx hb hK hP hD hS rfl rfl rfl (by omega) (by decide) dX1_sumFlows_21 (fun H locs hP hD hS => ?_)
        have hP : va_P (dC, dI) vwCl (dk_N cI cII aN fr le fi ne (upd f i (ne i)) (nI d) ar pr sz sp) H := hP
        have hD : va_D A (dk_N cI cII aN fr le fi ne (upd f i (ne i)) (nI d) ar pr sz sp) := hD
        refine lv_iinc (v := (nI (i + 1))) (lv' := [(1, .int (nI (i + 1))), (0, .ref (aN 0))]) hx hb dX1_sumFlows_22 hl (k := 0) rfl (nI_1 i) (by decide) rfl (fun ls hl => ?_)
        refine lv_goto (tgt := 2) hx hb dX1_sumFlows_25 (by decide) ?_
        exact ih2 (i + 1) (upd f i (ne i)) _ _ _ (by omega) (by rw [← hf2_0]; rfl) hP hD hS (lv_sub hl [0, 1] rfl)
  exact lp2 (d + 1) 0 fl _ _ _ (by omega) rfl hP hD hS (lv_sub hl [0, 1] rfl)
set_option maxHeartbeats 4000000 in
set_option maxRecDepth 100000 in
/-- DuctSizes$Network.changeNeed -/
theorem c_X1_changeNeed (l : Launch) (dC : Nat → ClassId) (dI : Nat → Nat → Nat) (cI cII : ClassId) (aN : Nat → Nat) (fr : Nat → Int32) (le : Nat → Int32) (fi : Nat → Int32) (ne : Nat → Int32) (fl : Nat → Int32) (ar : Nat → Int32) (pr : Nat → Int32) (sz : Int32) (sp : Int32) (d : Nat) (i : Nat) (x : Int32) (hz : Nat) (h1 : d < 7) (h2 : ∀ k, k < 7 → vp_in (fr k) 7) (h3 : i < 7) : dk_Mi l yX1_changeNeed wsX1_changeNeed ({ frames := 1, cells := 0, slots := 0, locals := 21 }) (dC, dI) (dk_T cI cII) [.ref (aN 0), .int (nI i), .int x] (dk_N cI cII aN fr le fi ne fl (nI d) ar pr sz sp) hz (fun (r : Int32) (_ : Unit) => r = ne i) (fun _ => dk_N cI cII aN fr le fi (upd ne i x) (dk_up fr d (dk_cpL (upd ne i x) (d + 1) 0 fl)) (nI d) ar pr sz sp) 0 0 := by
  refine dk_ofMi (cc := cX1_changeNeed) (maxL := 4) (by decide) rfl (Nat.le_of_ble_eq_true rfl) ?_
  intro p e s m args below meth c A ls Q ⟨hx, hb, hml, hts, hown, hnm⟩ hsz hK hP hD hA hS hl hret
  have hT : ∀ w ∈ dk_tbl, w.before args s = true := fun w h => hts w (List.mem_cons_of_mem _ h)
  have hown : s.vm.findClass RX1 = some m.cls := hown
  have hl : lv_has ls 4 [(0, .ref (aN 0)), (1, .int (nI i)), (2, .int x)] := hl
  refine lv_aload_n hx hb dX1_changeNeed_0 rfl (lv_at hl 0 rfl) ?_
  refine va_get (D := (dC, dI)) (ci := 1) (v := .ref (aN 4)) (C := RX1) (T := TX1) (N := 10) hx hb hT in_X1 hown hK hP 0 rfl rfl 3 (by decide) (hT _ mw_53) (fun _ h9 => h9) rfl dX1_changeNeed_1 ?_
  refine lv_iload_n hx hb dX1_changeNeed_4 rfl (lv_at hl 1 rfl) ?_
  refine dk_iald (q0 := 4) (t0 := 0) (i := i) hx hb hK hP rfl rfl rfl h3 (by decide) dX1_changeNeed_5 ?_
  refine lv_istore_n (lv' := [(3, .int (ne i)), (0, .ref (aN 0)), (1, .int (nI i)), (2, .int x)]) hx hb dX1_changeNeed_6 rfl hl (by decide) rfl (fun ls hl => ?_)
  refine lv_aload_n hx hb dX1_changeNeed_7 rfl (lv_at hl 1 rfl) ?_
  refine va_get (D := (dC, dI)) (ci := 1) (v := .ref (aN 4)) (C := RX1) (T := TX1) (N := 10) hx hb hT in_X1 hown hK hP 0 rfl rfl 3 (by decide) (hT _ mw_53) (fun _ h9 => h9) rfl dX1_changeNeed_8 ?_
  refine lv_iload_n hx hb dX1_changeNeed_11 rfl (lv_at hl 2 rfl) ?_
  refine lv_iload_n hx hb dX1_changeNeed_12 rfl (lv_at hl 3 rfl) ?_
  refine dk_iast (q0 := 4) (t0 := 0) (i := i) hx hb hK hP hD hS rfl rfl rfl h3 (by decide) dX1_changeNeed_13 (fun H locs hP hD hS => ?_)
  have hP : va_P (dC, dI) vwCl (dk_N cI cII aN fr le fi (upd ne i x) fl (nI d) ar pr sz sp) H := hP
  have hD : va_D A (dk_N cI cII aN fr le fi (upd ne i x) fl (nI d) ar pr sz sp) := hD
  refine lv_aload_n hx hb dX1_changeNeed_14 rfl (lv_at hl 1 rfl) ?_
  refine dk_callv (wr := []) (va_runV (As := []) (rest := []) ⟨hx, hb, hml, hown, hT⟩ (c_X1_sumFlows l dC dI cI cII aN fr le fi (upd ne i x) fl ar pr sz sp d _ h1 h2) (cwV 0 hT (dk_gV mw_355 mw_357 mw_8 mw_24 mw_358) rfl rfl rfl (by decide +kernel) ⟨(Nat.le_of_ble_eq_true rfl), (Nat.le_of_ble_eq_true rfl)⟩) (dk_preV hK hP hD [0, 1, 2, 3, 4, 5, 6, 7] rfl rfl (q0 := 0) (ci := 1) rfl rfl) rfl rfl hl.1 rfl (lv_room (Nat.le_of_ble_eq_true rfl)) dX1_changeNeed_15 ⟨Nat.le_of_ble_eq_true rfl, Nat.le_of_ble_eq_true rfl⟩) hP hD hS hA [0, 1, 2, 3, 4, 5, 6, 7] [] rfl rfl rfl (by decide) (fun _ H locs h9 hP hD hS => ?_)
  have hP : va_P (dC, dI) vwCl (dk_N cI cII aN fr le fi (upd ne i x) (dk_up fr d (dk_cpL (upd ne i x) (d + 1) 0 fl)) (nI d) ar pr sz sp) H := hP
  have hD : va_D A (dk_N cI cII aN fr le fi (upd ne i x) (dk_up fr d (dk_cpL (upd ne i x) (d + 1) 0 fl)) (nI d) ar pr sz sp) := hD
  refine lv_iload_n hx hb dX1_changeNeed_18 rfl (lv_at hl 0 rfl) ?_
  exact hret _ () _ _ _ _ rfl hP hD hS dX1_changeNeed_19
