set_option maxHeartbeats 4000000 in
set_option maxRecDepth 100000 in
/-- DuctSizes$Curve.takes -/
theorem c_X0_takes (l : Launch) (dC : Nat → ClassId) (dI : Nat → Nat → Nat) (cI cII : ClassId) (aC : Nat → Nat) (cf : Nat → Int32) (cp : Nat → Int32) (k : Nat) (x0 : Int32) (x1 : Int32) (h1 : k ≤ 5) : dk_Ri l yX0_takes wsX0_takes ({ frames := 0, cells := 0, slots := 0, locals := 0 }) (dC, dI) (dk_T cI cII) [.ref (aC 0), .int x0, .int x1] (dk_C cI cII aC cf cp (nI k)) (fun r => r = dk_takes cf cp k x0 x1) := by
  refine dk_ofRz (cc := cX0_takes) (maxL := 3) (by decide) rfl (Nat.le_of_ble_eq_true rfl) ?_
  intro p e s m args below meth c ls Q H ⟨hx, hb, hml, hts, hown, hnm⟩ hK hP hl hret
  have hT : ∀ w ∈ dk_tbl, w.before args s = true := fun w h => hts w (List.mem_cons_of_mem _ h)
  have hown : s.vm.findClass RX0 = some m.cls := hown
  have hl : lv_has ls 3 [(0, .ref (aC 0)), (1, .int x0), (2, .int x1)] := hl
  refine lv_aload_n hx hb dX0_takes_0 rfl (lv_at hl 0 rfl) ?_
  refine va_get (D := (dC, dI)) (ci := 0) (v := .int (nI k)) (C := RX0) (T := TX0) (N := 3) hx hb hT in_X0 hown hK hP 0 rfl rfl 2 (by decide) (hT _ mw_97) (fun _ h9 => h9) rfl dX0_takes_1 ?_
  refine lv_iconst (v := 5) hx hb dX0_takes_4 (by decide) ?_
  refine lv_icmp_lt (tgt := 10) hx hb dX0_takes_5 (by decide) (fun c_5 => ?_) (fun c_5 => ?_)
  · refine lv_aload_n hx hb dX0_takes_10 rfl (lv_at hl 0 rfl) ?_
    refine va_get (D := (dC, dI)) (ci := 0) (v := .int (nI k)) (C := RX0) (T := TX0) (N := 3) hx hb hT in_X0 hown hK hP 0 rfl rfl 2 (by decide) (hT _ mw_97) (fun _ h9 => h9) rfl dX0_takes_11 ?_
    refine lv_if_eq (tgt := 47) hx hb dX0_takes_14 (by decide) (fun c_14 => ?_) (fun c_14 => ?_)
    · refine lv_iconst (v := 1) hx hb dX0_takes_47 (by decide) ?_
      refine lv_goto (tgt := 52) hx hb dX0_takes_48 (by decide) ?_
      exact hret _ _ _ rfl (by unfold dk_takes; rw [if_pos c_5, if_pos c_14]) dX0_takes_52
    · refine lv_iload_n hx hb dX0_takes_17 rfl (lv_at hl 1 rfl) ?_
      refine lv_aload_n hx hb dX0_takes_18 rfl (lv_at hl 0 rfl) ?_
      refine va_get (D := (dC, dI)) (ci := 0) (v := .ref (aC 1)) (C := RX0) (T := TX0) (N := 3) hx hb hT in_X0 hown hK hP 0 rfl rfl 0 (by decide) (hT _ mw_95) (fun _ h9 => h9) rfl dX0_takes_19 ?_
      refine lv_aload_n hx hb dX0_takes_22 rfl (lv_at hl 0 rfl) ?_
      refine va_get (D := (dC, dI)) (ci := 0) (v := .int (nI k)) (C := RX0) (T := TX0) (N := 3) hx hb hT in_X0 hown hK hP 0 rfl rfl 2 (by decide) (hT _ mw_97) (fun _ h9 => h9) rfl dX0_takes_23 ?_
      refine lv_iconst (v := 1) hx hb dX0_takes_26 (by decide) ?_
      refine lv_isub hx hb dX0_takes_27 ?_
      refine lv_topi (fun y9 e9 => ?_)
      obtain rfl : y9 = nI (k - 1) := by rw [e9]; exact dk_m1 (Nat.pos_of_ne_zero (fun h => c_14 (by rw [h]; rfl)))
      refine dk_iald (q0 := 1) (t0 := 0) (i := k - 1) hx hb hK hP rfl rfl rfl (by omega) (by decide) dX0_takes_28 ?_
      refine lv_icmp_le (tgt := 51) hx hb dX0_takes_29 (by decide) (fun c_29 => ?_) (fun c_29 => ?_)
      · refine lv_iconst (v := 0) hx hb dX0_takes_51 (by decide) ?_
        exact hret _ _ _ rfl (by unfold dk_takes; rw [if_pos c_5, if_neg c_14, if_pos c_29]) dX0_takes_52
      · refine lv_iload_n hx hb dX0_takes_32 rfl (lv_at hl 2 rfl) ?_
        refine lv_aload_n hx hb dX0_takes_33 rfl (lv_at hl 0 rfl) ?_
        refine va_get (D := (dC, dI)) (ci := 0) (v := .ref (aC 2)) (C := RX0) (T := TX0) (N := 3) hx hb hT in_X0 hown hK hP 0 rfl rfl 1 (by decide) (hT _ mw_96) (fun _ h9 => h9) rfl dX0_takes_34 ?_
        refine lv_aload_n hx hb dX0_takes_37 rfl (lv_at hl 0 rfl) ?_
        refine va_get (D := (dC, dI)) (ci := 0) (v := .int (nI k)) (C := RX0) (T := TX0) (N := 3) hx hb hT in_X0 hown hK hP 0 rfl rfl 2 (by decide) (hT _ mw_97) (fun _ h9 => h9) rfl dX0_takes_38 ?_
        refine lv_iconst (v := 1) hx hb dX0_takes_41 (by decide) ?_
        refine lv_isub hx hb dX0_takes_42 ?_
        refine lv_topi (fun y9 e9 => ?_)
        obtain rfl : y9 = nI (k - 1) := by rw [e9]; exact dk_m1 (Nat.pos_of_ne_zero (fun h => c_14 (by rw [h]; rfl)))
        refine dk_iald (q0 := 2) (t0 := 0) (i := k - 1) hx hb hK hP rfl rfl rfl (by omega) (by decide) dX0_takes_43 ?_
        refine lv_icmp_gt (tgt := 51) hx hb dX0_takes_44 (by decide) (fun c_44 => ?_) (fun c_44 => ?_)
        · refine lv_iconst (v := 0) hx hb dX0_takes_51 (by decide) ?_
          exact hret _ _ _ rfl (by unfold dk_takes; rw [if_pos c_5, if_neg c_14, if_neg c_29, if_pos c_44]) dX0_takes_52
        · refine lv_iconst (v := 1) hx hb dX0_takes_47 (by decide) ?_
          refine lv_goto (tgt := 52) hx hb dX0_takes_48 (by decide) ?_
          exact hret _ _ _ rfl (by unfold dk_takes; rw [if_pos c_5, if_neg c_14, if_neg c_29, if_neg c_44]) dX0_takes_52
  · refine lv_iconst (v := 0) hx hb dX0_takes_8 (by decide) ?_
    exact hret _ _ _ rfl (by unfold dk_takes; rw [if_neg c_5]) dX0_takes_9
set_option maxHeartbeats 4000000 in
set_option maxRecDepth 100000 in
/-- DuctSizes$Curve.addPoint -/
theorem c_X0_addPoint (l : Launch) (dC : Nat → ClassId) (dI : Nat → Nat → Nat) (cI cII : ClassId) (aC : Nat → Nat) (cf : Nat → Int32) (cp : Nat → Int32) (k : Nat) (x0 : Int32) (x1 : Int32) (hz : Nat) (h1 : k < 5) : dk_Mi l yX0_addPoint wsX0_addPoint ({ frames := 0, cells := 0, slots := 0, locals := 0 }) (dC, dI) (dk_T cI cII) [.ref (aC 0), .int x0, .int x1] (dk_C cI cII aC cf cp (nI k)) hz (fun (r : Int32) (_ : Unit) => r = nI (k + 1)) (fun _ => dk_C cI cII aC (upd cf k x0) (upd cp k x1) (nI (k + 1))) 0 0 := by
  refine dk_ofMi (cc := cX0_addPoint) (maxL := 3) (by decide) rfl (Nat.le_of_ble_eq_true rfl) ?_
  intro p e s m args below meth c A ls Q ⟨hx, hb, hml, hts, hown, hnm⟩ hsz hK hP hD hA hS hl hret
  have hT : ∀ w ∈ dk_tbl, w.before args s = true := fun w h => hts w (List.mem_cons_of_mem _ h)
  have hown : s.vm.findClass RX0 = some m.cls := hown
  have hl : lv_has ls 3 [(0, .ref (aC 0)), (1, .int x0), (2, .int x1)] := hl
  refine lv_aload_n hx hb dX0_addPoint_0 rfl (lv_at hl 0 rfl) ?_
  refine va_get (D := (dC, dI)) (ci := 0) (v := .ref (aC 1)) (C := RX0) (T := TX0) (N := 3) hx hb hT in_X0 hown hK hP 0 rfl rfl 0 (by decide) (hT _ mw_95) (fun _ h9 => h9) rfl dX0_addPoint_1 ?_
  refine lv_aload_n hx hb dX0_addPoint_4 rfl (lv_at hl 0 rfl) ?_
  refine va_get (D := (dC, dI)) (ci := 0) (v := .int (nI k)) (C := RX0) (T := TX0) (N := 3) hx hb hT in_X0 hown hK hP 0 rfl rfl 2 (by decide) (hT _ mw_97) (fun _ h9 => h9) rfl dX0_addPoint_5 ?_
  refine lv_iload_n hx hb dX0_addPoint_8 rfl (lv_at hl 1 rfl) ?_
  refine dk_iast (q0 := 1) (t0 := 0) (i := k) hx hb hK hP hD hS rfl rfl rfl h1 (by decide) dX0_addPoint_9 (fun H locs hP hD hS => ?_)
  have hP : va_P (dC, dI) vwCl (dk_C cI cII aC (upd cf k x0) cp (nI k)) H := hP
  have hD : va_D A (dk_C cI cII aC (upd cf k x0) cp (nI k)) := hD
  refine lv_aload_n hx hb dX0_addPoint_10 rfl (lv_at hl 0 rfl) ?_
  refine va_get (D := (dC, dI)) (ci := 0) (v := .ref (aC 2)) (C := RX0) (T := TX0) (N := 3) hx hb hT in_X0 hown hK hP 0 rfl rfl 1 (by decide) (hT _ mw_96) (fun _ h9 => h9) rfl dX0_addPoint_11 ?_
  refine lv_aload_n hx hb dX0_addPoint_14 rfl (lv_at hl 0 rfl) ?_
  refine va_get (D := (dC, dI)) (ci := 0) (v := .int (nI k)) (C := RX0) (T := TX0) (N := 3) hx hb hT in_X0 hown hK hP 0 rfl rfl 2 (by decide) (hT _ mw_97) (fun _ h9 => h9) rfl dX0_addPoint_15 ?_
  refine lv_iload_n hx hb dX0_addPoint_18 rfl (lv_at hl 2 rfl) ?_
  refine dk_iast (q0 := 2) (t0 := 0) (i := k) hx hb hK hP hD hS rfl rfl rfl h1 (by decide) dX0_addPoint_19 (fun H locs hP hD hS => ?_)
  have hP : va_P (dC, dI) vwCl (dk_C cI cII aC (upd cf k x0) (upd cp k x1) (nI k)) H := hP
  have hD : va_D A (dk_C cI cII aC (upd cf k x0) (upd cp k x1) (nI k)) := hD
  refine lv_aload_n hx hb dX0_addPoint_20 rfl (lv_at hl 0 rfl) ?_
  refine lv_dup hx hb dX0_addPoint_21 rfl ?_
  refine va_get (D := (dC, dI)) (ci := 0) (v := .int (nI k)) (C := RX0) (T := TX0) (N := 3) hx hb hT in_X0 hown hK hP 0 rfl rfl 2 (by decide) (hT _ mw_97) (fun _ h9 => h9) rfl dX0_addPoint_22 ?_
  refine lv_iconst (v := 1) hx hb dX0_addPoint_25 (by decide) ?_
  refine lv_iadd hx hb dX0_addPoint_26 ?_
  refine lv_topi (fun y9 e9 => ?_)
  obtain rfl : y9 = nI (k + 1) := by rw [e9]; exact nI_1 k
  refine va_put (D := (dC, dI)) (ci := 0) (v := .int (nI (k + 1))) (ty := .int) (C := RX0) (T := TX0) (N := 3) hx hb hT in_X0 tyX0 tyX0_ok nmX0 hown hK hP hD hS 0 rfl rfl 2 (by decide) (hT _ mw_97) (fun _ h9 => h9) rfl (by decide +kernel) rfl rfl (Nat.le_of_ble_eq_true rfl) dX0_addPoint_27 (fun H locs hP hD hS => ?_)
  have hP : va_P (dC, dI) vwCl (dk_C cI cII aC (upd cf k x0) (upd cp k x1) (nI (k + 1))) H := hP
  have hD : va_D A (dk_C cI cII aC (upd cf k x0) (upd cp k x1) (nI (k + 1))) := hD
  refine lv_aload_n hx hb dX0_addPoint_30 rfl (lv_at hl 0 rfl) ?_
  refine va_get (D := (dC, dI)) (ci := 0) (v := .int (nI (k + 1))) (C := RX0) (T := TX0) (N := 3) hx hb hT in_X0 hown hK hP 0 rfl rfl 2 (by decide) (hT _ mw_97) (fun _ h9 => h9) rfl dX0_addPoint_31 ?_
  exact hret _ () _ _ _ _ rfl hP hD hS dX0_addPoint_34
set_option maxHeartbeats 4000000 in
set_option maxRecDepth 100000 in
/-- DuctSizes$Curve.pressureBefore -/
theorem c_X0_pressureBefore (l : Launch) (dC : Nat → ClassId) (dI : Nat → Nat → Nat) (cI cII : ClassId) (aC : Nat → Nat) (cf : Nat → Int32) (cp : Nat → Int32) (pt : Int32) (i : Nat) (x : Int32) (h1 : i < 5) (h2 : 0 < i) (h3 : ¬ (cf i) - (cf (i - 1)) = 0) : dk_Ri l yX0_pressureBefore wsX0_pressureBefore ({ frames := 0, cells := 0, slots := 0, locals := 0 }) (dC, dI) (dk_T cI cII) [.ref (aC 0), .int (nI i), .int x] (dk_C cI cII aC cf cp pt) (fun r => r = dk_pb cf cp i x) := by
  refine dk_ofRi (cc := cX0_pressureBefore) (maxL := 6) (by decide) rfl (Nat.le_of_ble_eq_true rfl) ?_
  intro p e s m args below meth c ls Q H ⟨hx, hb, hml, hts, hown, hnm⟩ hK hP hl hret
  have hT : ∀ w ∈ dk_tbl, w.before args s = true := fun w h => hts w (List.mem_cons_of_mem _ h)
  have hown : s.vm.findClass RX0 = some m.cls := hown
  have hl : lv_has ls 6 [(0, .ref (aC 0)), (1, .int (nI i)), (2, .int x)] := hl
  refine lv_iload_n hx hb dX0_pressureBefore_0 rfl (lv_at hl 1 rfl) ?_
  refine lv_iconst (v := 1) hx hb dX0_pressureBefore_1 (by decide) ?_
  refine lv_isub hx hb dX0_pressureBefore_2 ?_
  refine lv_topi (fun y9 e9 => ?_)
  obtain rfl : y9 = nI (i - 1) := by rw [e9]; exact dk_m1 h2
  refine lv_istore_n (lv' := [(3, .int (nI (i - 1))), (0, .ref (aC 0)), (1, .int (nI i)), (2, .int x)]) hx hb dX0_pressureBefore_3 rfl hl (by decide) rfl (fun ls hl => ?_)
  refine lv_aload_n hx hb dX0_pressureBefore_4 rfl (lv_at hl 1 rfl) ?_
  refine va_get (D := (dC, dI)) (ci := 0) (v := .ref (aC 1)) (C := RX0) (T := TX0) (N := 3) hx hb hT in_X0 hown hK hP 0 rfl rfl 0 (by decide) (hT _ mw_95) (fun _ h9 => h9) rfl dX0_pressureBefore_5 ?_
  refine lv_iload_n hx hb dX0_pressureBefore_8 rfl (lv_at hl 2 rfl) ?_
  refine dk_iald (q0 := 1) (t0 := 0) (i := i) hx hb hK hP rfl rfl rfl h1 (by decide) dX0_pressureBefore_9 ?_
  refine lv_aload_n hx hb dX0_pressureBefore_10 rfl (lv_at hl 1 rfl) ?_
  refine va_get (D := (dC, dI)) (ci := 0) (v := .ref (aC 1)) (C := RX0) (T := TX0) (N := 3) hx hb hT in_X0 hown hK hP 0 rfl rfl 0 (by decide) (hT _ mw_95) (fun _ h9 => h9) rfl dX0_pressureBefore_11 ?_
  refine lv_iload_n hx hb dX0_pressureBefore_14 rfl (lv_at hl 0 rfl) ?_
  refine dk_iald (q0 := 1) (t0 := 0) (i := i - 1) hx hb hK hP rfl rfl rfl (by omega) (by decide) dX0_pressureBefore_15 ?_
  refine lv_isub hx hb dX0_pressureBefore_16 ?_
  refine lv_istore (lv' := [(4, .int ((cf i) - (cf (i - 1)))), (3, .int (nI (i - 1))), (0, .ref (aC 0)), (1, .int (nI i)), (2, .int x)]) hx hb dX0_pressureBefore_17 hl (by decide) rfl (fun ls hl => ?_)
  refine lv_aload_n hx hb dX0_pressureBefore_19 rfl (lv_at hl 2 rfl) ?_
  refine va_get (D := (dC, dI)) (ci := 0) (v := .ref (aC 2)) (C := RX0) (T := TX0) (N := 3) hx hb hT in_X0 hown hK hP 0 rfl rfl 1 (by decide) (hT _ mw_96) (fun _ h9 => h9) rfl dX0_pressureBefore_20 ?_
  refine lv_iload_n hx hb dX0_pressureBefore_23 rfl (lv_at hl 1 rfl) ?_
  refine dk_iald (q0 := 2) (t0 := 0) (i := i - 1) hx hb hK hP rfl rfl rfl (by omega) (by decide) dX0_pressureBefore_24 ?_
  refine lv_aload_n hx hb dX0_pressureBefore_25 rfl (lv_at hl 2 rfl) ?_
  refine va_get (D := (dC, dI)) (ci := 0) (v := .ref (aC 2)) (C := RX0) (T := TX0) (N := 3) hx hb hT in_X0 hown hK hP 0 rfl rfl 1 (by decide) (hT _ mw_96) (fun _ h9 => h9) rfl dX0_pressureBefore_26 ?_
  refine lv_iload_n hx hb dX0_pressureBefore_29 rfl (lv_at hl 3 rfl) ?_
  refine dk_iald (q0 := 2) (t0 := 0) (i := i) hx hb hK hP rfl rfl rfl h1 (by decide) dX0_pressureBefore_30 ?_
  refine lv_isub hx hb dX0_pressureBefore_31 ?_
  refine lv_iload_n hx hb dX0_pressureBefore_32 rfl (lv_at hl 4 rfl) ?_
  refine lv_aload_n hx hb dX0_pressureBefore_33 rfl (lv_at hl 2 rfl) ?_
  refine va_get (D := (dC, dI)) (ci := 0) (v := .ref (aC 1)) (C := RX0) (T := TX0) (N := 3) hx hb hT in_X0 hown hK hP 0 rfl rfl 0 (by decide) (hT _ mw_95) (fun _ h9 => h9) rfl dX0_pressureBefore_34 ?_
  refine lv_iload_n hx hb dX0_pressureBefore_37 rfl (lv_at hl 1 rfl) ?_
  refine dk_iald (q0 := 1) (t0 := 0) (i := i - 1) hx hb hK hP rfl rfl rfl (by omega) (by decide) dX0_pressureBefore_38 ?_
  refine lv_isub hx hb dX0_pressureBefore_39 ?_
  refine lv_imul hx hb dX0_pressureBefore_40 ?_
  refine lv_istore (lv' := [(5, .int (((cp (i - 1)) - (cp i)) * (x - (cf (i - 1))))), (4, .int ((cf i) - (cf (i - 1)))), (3, .int (nI (i - 1))), (0, .ref (aC 0)), (1, .int (nI i)), (2, .int x)]) hx hb dX0_pressureBefore_41 hl (by decide) rfl (fun ls hl => ?_)
  refine lv_aload_n hx hb dX0_pressureBefore_43 rfl (lv_at hl 3 rfl) ?_
  refine va_get (D := (dC, dI)) (ci := 0) (v := .ref (aC 2)) (C := RX0) (T := TX0) (N := 3) hx hb hT in_X0 hown hK hP 0 rfl rfl 1 (by decide) (hT _ mw_96) (fun _ h9 => h9) rfl dX0_pressureBefore_44 ?_
  refine lv_iload_n hx hb dX0_pressureBefore_47 rfl (lv_at hl 2 rfl) ?_
  refine dk_iald (q0 := 2) (t0 := 0) (i := i - 1) hx hb hK hP rfl rfl rfl (by omega) (by decide) dX0_pressureBefore_48 ?_
  refine lv_iload hx hb dX0_pressureBefore_49 (lv_at hl 0 rfl) ?_
  refine lv_iload hx hb dX0_pressureBefore_51 (lv_at hl 1 rfl) ?_
  refine lv_iadd hx hb dX0_pressureBefore_53 ?_
  refine lv_iconst (v := 1) hx hb dX0_pressureBefore_54 (by decide) ?_
  refine lv_isub hx hb dX0_pressureBefore_55 ?_
  refine lv_iload hx hb dX0_pressureBefore_56 (lv_at hl 1 rfl) ?_
  refine lv_idiv hx hb dX0_pressureBefore_58 h3 ?_
  refine lv_isub hx hb dX0_pressureBefore_59 ?_
  exact hret _ _ _ rfl dX0_pressureBefore_60
set_option maxHeartbeats 4000000 in
set_option maxRecDepth 100000 in
/-- DuctSizes$Curve.pressureAt -/
theorem c_X0_pressureAt (l : Launch) (dC : Nat → ClassId) (dI : Nat → Nat → Nat) (cI cII : ClassId) (aC : Nat → Nat) (cf : Nat → Int32) (cp : Nat → Int32) (k : Nat) (x : Int32) (h1 : k ≤ 5) (h2 : ∀ i, 0 < i → i < k → ¬ cf i - cf (i - 1) = 0) : dk_Ri l yX0_pressureAt wsX0_pressureAt ({ frames := 1, cells := 0, slots := 0, locals := 25 }) (dC, dI) (dk_T cI cII) [.ref (aC 0), .int x] (dk_C cI cII aC cf cp (nI k)) (fun r => r = dk_gives cf cp k x) := by
  refine dk_ofRi (cc := cX0_pressureAt) (maxL := 3) (by decide) rfl (Nat.le_of_ble_eq_true rfl) ?_
  intro p e s m args below meth c ls Q H ⟨hx, hb, hml, hts, hown, hnm⟩ hK hP hl hret
  have hT : ∀ w ∈ dk_tbl, w.before args s = true := fun w h => hts w (List.mem_cons_of_mem _ h)
  have hown : s.vm.findClass RX0 = some m.cls := hown
  have hl : lv_has ls 3 [(0, .ref (aC 0)), (1, .int x)] := hl
  refine lv_aload_n hx hb dX0_pressureAt_0 rfl (lv_at hl 0 rfl) ?_
  refine va_get (D := (dC, dI)) (ci := 0) (v := .int (nI k)) (C := RX0) (T := TX0) (N := 3) hx hb hT in_X0 hown hK hP 0 rfl rfl 2 (by decide) (hT _ mw_97) (fun _ h9 => h9) rfl dX0_pressureAt_1 ?_
  refine lv_if_ne (tgt := 11) hx hb dX0_pressureAt_4 (by decide) (fun c_4 => ?_) (fun c_4 => ?_)
  · refine lv_iload_n hx hb dX0_pressureAt_11 rfl (lv_at hl 1 rfl) ?_
    refine lv_aload_n hx hb dX0_pressureAt_12 rfl (lv_at hl 0 rfl) ?_
    refine va_get (D := (dC, dI)) (ci := 0) (v := .ref (aC 1)) (C := RX0) (T := TX0) (N := 3) hx hb hT in_X0 hown hK hP 0 rfl rfl 0 (by decide) (hT _ mw_95) (fun _ h9 => h9) rfl dX0_pressureAt_13 ?_
    refine lv_iconst (v := 0) hx hb dX0_pressureAt_16 (by decide) ?_
    refine dk_iald (q0 := 1) (t0 := 0) (i := 0) hx hb hK hP rfl rfl (by decide) (by omega) (by decide) dX0_pressureAt_17 ?_
    refine lv_icmp_gt (tgt := 28) hx hb dX0_pressureAt_18 (by decide) (fun c_18 => ?_) (fun c_18 => ?_)
    · refine lv_iconst (v := 1) hx hb dX0_pressureAt_28 (by decide) ?_
      refine lv_istore_n (lv' := [(2, .int 1), (0, .ref (aC 0)), (1, .int x)]) hx hb dX0_pressureAt_29 rfl hl (by decide) rfl (fun ls hl => ?_)
      have lp30 : ∀ (n i : Nat) (ls : Array Slot), i + n = k ∧ 0 < i → dk_at cf cp x n i = (dk_at cf cp x (k - 1) 1) → lv_has ls 3 [(2, .int (nI i)), (0, .ref (aC 0)), (1, .int x)] → W p l e ({ frames := 1, cells := 0, slots := 0, locals := 25 }) s m args below meth c H [] 0 0 Q (F0 m 30 ls []) := by
        intro n
        induction n with
        | zero =>
          intro i ls hin30 hf30_0 hl
          refine lv_iload_n hx hb dX0_pressureAt_30 rfl (lv_at hl 0 rfl) ?_
          refine lv_aload_n hx hb dX0_pressureAt_31 rfl (lv_at hl 1 rfl) ?_
          refine va_get (D := (dC, dI)) (ci := 0) (v := .int (nI k)) (C := RX0) (T := TX0) (N := 3) hx hb hT in_X0 hown hK hP 0 rfl rfl 2 (by decide) (hT _ mw_97) (fun _ h9 => h9) rfl dX0_pressureAt_32 ?_
          refine lv_icmp_ge (tgt := 61) hx hb dX0_pressureAt_35 (by decide) (fun c_35 => ?_) (fun c_35 => ?_)
          · refine lv_iconst (v := 0) hx hb dX0_pressureAt_61 (by decide) ?_
            exact hret _ _ _ (by unfold dk_gives; rw [if_neg (show ¬ nI k = 0 from c_4)]; rw [if_pos c_18]; exact hf30_0) dX0_pressureAt_62
          · exact absurd (nI_le (by omega) (by omega)) c_35
        | succ n ih30 =>
          intro i ls hin30 hf30_0 hl
          refine lv_iload_n hx hb dX0_pressureAt_30 rfl (lv_at hl 0 rfl) ?_
          refine lv_aload_n hx hb dX0_pressureAt_31 rfl (lv_at hl 1 rfl) ?_
          refine va_get (D := (dC, dI)) (ci := 0) (v := .int (nI k)) (C := RX0) (T := TX0) (N := 3) hx hb hT in_X0 hown hK hP 0 rfl rfl 2 (by decide) (hT _ mw_97) (fun _ h9 => h9) rfl dX0_pressureAt_32 ?_
          refine lv_icmp_ge (tgt := 61) hx hb dX0_pressureAt_35 (by decide) (fun c_35 => ?_) (fun c_35 => ?_)
          · exact absurd c_35 (nI_ge (by omega) (by omega))
          · refine lv_iload_n hx hb dX0_pressureAt_38 rfl (lv_at hl 2 rfl) ?_
            refine lv_aload_n hx hb dX0_pressureAt_39 rfl (lv_at hl 1 rfl) ?_
            refine va_get (D := (dC, dI)) (ci := 0) (v := .ref (aC 1)) (C := RX0) (T := TX0) (N := 3) hx hb hT in_X0 hown hK hP 0 rfl rfl 0 (by decide) (hT _ mw_95) (fun _ h9 => h9) rfl dX0_pressureAt_40 ?_
            refine lv_iload_n hx hb dX0_pressureAt_43 rfl (lv_at hl 0 rfl) ?_
            refine dk_iald (q0 := 1) (t0 := 0) (i := i) hx hb hK hP rfl rfl rfl (by omega) (by decide) dX0_pressureAt_44 ?_
            refine lv_icmp_gt (tgt := 55) hx hb dX0_pressureAt_45 (by decide) (fun c_45 => ?_) (fun c_45 => ?_)
            · refine lv_iinc (v := (nI (i + 1))) (lv' := [(2, .int (nI (i + 1))), (0, .ref (aC 0)), (1, .int x)]) hx hb dX0_pressureAt_55 hl (k := 0) rfl (nI_1 i) (by decide) rfl (fun ls hl => ?_)
              refine lv_goto (tgt := 30) hx hb dX0_pressureAt_58 (by decide) ?_
              exact ih30 (i + 1) _ (by omega) (by rw [← hf30_0]; show _ = (if cf i < x then dk_at cf cp x n (i + 1) else dk_pb cf cp i x); rw [if_pos c_45])  (lv_sub hl [0, 1, 2] rfl)
            · refine lv_aload_n hx hb dX0_pressureAt_48 rfl (lv_at hl 1 rfl) ?_
              refine lv_iload_n hx hb dX0_pressureAt_49 rfl (lv_at hl 0 rfl) ?_
              refine lv_iload_n hx hb dX0_pressureAt_50 rfl (lv_at hl 2 rfl) ?_
              refine dk_csi (va_runV (As := [.int (nI i), .int x]) (rest := []) ⟨hx, hb, hml, hown, hT⟩ (c_X0_pressureBefore l dC dI cI cII aC cf cp (nI k) i x (by omega) (by omega) (h2 i (by omega) (by omega))) (cwV 2 hT (dk_gV mw_179 mw_181 mw_0 mw_25 mw_182) rfl rfl rfl (by decide +kernel) ⟨(Nat.le_of_ble_eq_true rfl), (Nat.le_of_ble_eq_true rfl)⟩) (dk_preRV hK hP [0, 1, 2] rfl (q0 := 0) (ci := 0) rfl rfl) rfl rfl hl.1 rfl (lv_room (Nat.le_of_ble_eq_true rfl)) dX0_pressureAt_51 ⟨Nat.le_of_ble_eq_true rfl, Nat.le_of_ble_eq_true rfl⟩) (fun r9 h9 => ?_)
              subst h9
              exact hret _ _ _ (by unfold dk_gives; rw [if_neg (show ¬ nI k = 0 from c_4)]; rw [if_pos c_18, ← hf30_0]; unfold dk_at; rw [if_neg c_45]) dX0_pressureAt_54
      have hk0 : 0 < k := Nat.pos_of_ne_zero (fun h => c_4 (by rw [h]; rfl))
      exact lp30 (k - 1) 1 _ (by omega) rfl (lv_sub hl [0, 1, 2] rfl)
    · refine lv_aload_n hx hb dX0_pressureAt_21 rfl (lv_at hl 0 rfl) ?_
      refine va_get (D := (dC, dI)) (ci := 0) (v := .ref (aC 2)) (C := RX0) (T := TX0) (N := 3) hx hb hT in_X0 hown hK hP 0 rfl rfl 1 (by decide) (hT _ mw_96) (fun _ h9 => h9) rfl dX0_pressureAt_22 ?_
      refine lv_iconst (v := 0) hx hb dX0_pressureAt_25 (by decide) ?_
      refine dk_iald (q0 := 2) (t0 := 0) (i := 0) hx hb hK hP rfl rfl (by decide) (by omega) (by decide) dX0_pressureAt_26 ?_
      exact hret _ _ _ (by unfold dk_gives; rw [if_neg (show ¬ nI k = 0 from c_4)]; rw [if_neg c_18]) dX0_pressureAt_27
  · refine lv_sipush (v := 300) hx hb dX0_pressureAt_7 (by decide) ?_
    exact hret _ _ _ (by unfold dk_gives; rw [if_pos (show nI k = 0 from c_4)]) dX0_pressureAt_10
