set_option maxHeartbeats 4000000 in
set_option maxRecDepth 100000 in
/-- DuctSizesModel.flow -/
theorem c_X4_flow (l : Launch) (dC : Nat → ClassId) (dI : Nat → Nat → Nat) (cI cII : ClassId) (aR : Nat → Nat) (cd : Int32) (fr : Nat → Int32) (le : Nat → Int32) (fi : Nat → Int32) (ne : Nat → Int32) (ar : Nat → Int32) (pr : Nat → Int32) (sp : Int32) (ep : Int32) (pt : Int32) (cf : Nat → Int32) (cp : Nat → Int32) (ch : Nat → Int32) (la : Nat → Int64) (fd : Int32) (bc : Int64) (bp : Int64) (bh : Nat → Int32) (ba : Nat → Int64) (fs : Nat → Int64) (d : Nat) (z : Nat) (frN : Nat → Nat) (leN : Nat → Nat) (fiN : Nat → Nat) (neN : Nat → Nat) (arN : Nat → Nat) (prN : Nat → Nat) (x0 : Int32) (hz : Nat) (hd1 : d ≤ 6) (hz1 : z ≤ 4) (hO : rk_Ok d z fr le fi ne ar pr frN leN fiN neN arN prN) : dk_Mi l yX4_flow wsX4_flow ({ frames := 2, cells := 0, slots := 0, locals := 47 }) (dC, dI) (dk_TR cI cII) [.ref (aR 0), .int x0] (dk_R cI cII aR cd (nI d) fr le fi ne (nI z) ar pr sp ep pt cf cp ch la fd bc bp bh ba fs) hz (fun (r : Int32) (_ : Unit) => r = if rk_kIn 1 d x0 = 0 then (lN (rk_flow frN neN d x0.toNatClampNeg)).toInt32 else 0) (fun _ => dk_R cI cII aR (rk_kIn 1 d x0) (nI d) fr le fi ne (nI z) ar pr sp ep pt cf cp ch la fd bc bp bh ba fs) 0 0 := by
  refine dk_ofMi (cc := cX4_flow) (maxL := 2) (by decide) rfl (Nat.le_of_ble_eq_true rfl) ?_
  intro p e s m args below meth c A ls Q ⟨hx, hb, hml, hts, hown, hnm⟩ hsz hK hP hD hA hS hl hret
  have hT : ∀ w ∈ dk_tbl, w.before args s = true := fun w h => hts w (List.mem_cons_of_mem _ h)
  have hown : s.vm.findClass RX4 = some m.cls := hown
  have hl : lv_has ls 2 [(0, .ref (aR 0)), (1, .int x0)] := hl
  refine lv_aload_n hx hb dX4_flow_0 rfl (lv_at hl 0 rfl) ?_
  refine lv_aload_n hx hb dX4_flow_1 rfl (lv_at hl 0 rfl) ?_
  refine lv_iload_n hx hb dX4_flow_2 rfl (lv_at hl 1 rfl) ?_
  refine dk_csi (va_runV (As := [.int x0]) (rest := [.ref (aR 0)]) ⟨hx, hb, hml, hown, hT⟩ (c_X4_isDuct l dC dI cI cII aR cd fr le fi ne (nI z) ar pr sp ep pt cf cp ch la fd bc bp bh ba fs d x0) (cwV 1 hT (dk_gV mw_546 mw_548 mw_11 mw_27 mw_549) rfl rfl rfl (by decide +kernel) ⟨(Nat.le_of_ble_eq_true rfl), (Nat.le_of_ble_eq_true rfl)⟩) (dk_preRV hK hP [0, 1, 2, 3, 4, 5, 6, 7, 8, 9, 10, 11, 12, 13] rfl (q0 := 0) (ci := 4) rfl rfl) rfl rfl hl.1 rfl (lv_room (Nat.le_of_ble_eq_true rfl)) dX4_flow_3 ⟨Nat.le_of_ble_eq_true rfl, Nat.le_of_ble_eq_true rfl⟩) (fun r9 h9 => ?_)
  subst h9
  refine lv_if_eq (tgt := 13) hx hb dX4_flow_6 (by decide) (fun c_6 => ?_) (fun c_6 => ?_)
  · refine lv_iconst (v := 1) hx hb dX4_flow_13 (by decide) ?_
    refine va_put (D := (dC, dI)) (ci := 4) (v := .int 1) (ty := .int) (C := RX4) (T := TX4) (N := 22) hx hb hT in_X4 tyX4 tyX4_ok nmX4 hown hK hP hD hS 0 rfl rfl 0 (by decide) (hT _ mw_461) (fun _ h9 => h9) rfl (by decide +kernel) rfl rfl (Nat.le_of_ble_eq_true rfl) dX4_flow_14 (fun H locs hP hD hS => ?_)
    have hP : va_P (dC, dI) vwCl (dk_R cI cII aR 1 (nI d) fr le fi ne (nI z) ar pr sp ep pt cf cp ch la fd bc bp bh ba fs) H := hP
    have hD : va_D A (dk_R cI cII aR 1 (nI d) fr le fi ne (nI z) ar pr sp ep pt cf cp ch la fd bc bp bh ba fs) := hD
    refine lv_aload_n hx hb dX4_flow_17 rfl (lv_at hl 0 rfl) ?_
    refine va_get (D := (dC, dI)) (ci := 4) (v := .int 1) (C := RX4) (T := TX4) (N := 22) hx hb hT in_X4 hown hK hP 0 rfl rfl 0 (by decide) (hT _ mw_461) (fun _ h9 => h9) rfl dX4_flow_18 ?_
    refine lv_if_le (tgt := 28) hx hb dX4_flow_21 (by decide) (fun c_21 => ?_) (fun c_21 => ?_)
    · exact absurd c_21 (by decide)
    · refine lv_iconst (v := 0) hx hb dX4_flow_24 (by decide) ?_
      refine lv_goto (tgt := 34) hx hb dX4_flow_25 (by decide) ?_
      have hk : rk_kIn 1 d x0 = 1 := by unfold rk_kIn; rw [if_pos c_6] <;> rfl
      have hk0 : ¬ rk_kIn 1 d x0 = 0 := by rw [hk]; decide
      simp only [if_neg hk0] at hret
      rw [hk] at hret
      exact hret _ () _ _ _ _ rfl hP hD hS dX4_flow_34
  · refine lv_iconst (v := 0) hx hb dX4_flow_9 (by decide) ?_
    refine lv_goto (tgt := 14) hx hb dX4_flow_10 (by decide) ?_
    refine va_put (D := (dC, dI)) (ci := 4) (v := .int 0) (ty := .int) (C := RX4) (T := TX4) (N := 22) hx hb hT in_X4 tyX4 tyX4_ok nmX4 hown hK hP hD hS 0 rfl rfl 0 (by decide) (hT _ mw_461) (fun _ h9 => h9) rfl (by decide +kernel) rfl rfl (Nat.le_of_ble_eq_true rfl) dX4_flow_14 (fun H locs hP hD hS => ?_)
    have hP : va_P (dC, dI) vwCl (dk_R cI cII aR 0 (nI d) fr le fi ne (nI z) ar pr sp ep pt cf cp ch la fd bc bp bh ba fs) H := hP
    have hD : va_D A (dk_R cI cII aR 0 (nI d) fr le fi ne (nI z) ar pr sp ep pt cf cp ch la fd bc bp bh ba fs) := hD
    refine lv_aload_n hx hb dX4_flow_17 rfl (lv_at hl 0 rfl) ?_
    refine va_get (D := (dC, dI)) (ci := 4) (v := .int 0) (C := RX4) (T := TX4) (N := 22) hx hb hT in_X4 hown hK hP 0 rfl rfl 0 (by decide) (hT _ mw_461) (fun _ h9 => h9) rfl dX4_flow_18 ?_
    refine lv_if_le (tgt := 28) hx hb dX4_flow_21 (by decide) (fun c_21 => ?_) (fun c_21 => ?_)
    · obtain ⟨j, hj1, hj2, rfl⟩ := rk_isIn_nat (l := 1) c_6 rfl (by decide) (by omega)
      simp only [nI_clamp (show j < 2 ^ 31 by omega)] at hret
      refine lv_aload_n hx hb dX4_flow_28 rfl (lv_at hl 0 rfl) ?_
      refine lv_iload_n hx hb dX4_flow_29 rfl (lv_at hl 1 rfl) ?_
      refine dk_csl (va_runV (As := [.int (nI j)]) (rest := []) ⟨hx, hb, hml, hown, hT⟩ (c_X4_flowOf l dC dI cI cII aR 0 fr le fi ne ar pr sp ep pt cf cp ch la fd bc bp bh ba fs d z frN leN fiN neN arN prN j hd1 hz1 hO (by omega)) (cwV 1 hT (dk_gV mw_578 mw_580 mw_13 mw_27 mw_581) rfl rfl rfl (by decide +kernel) ⟨(Nat.le_of_ble_eq_true rfl), (Nat.le_of_ble_eq_true rfl)⟩) (dk_preRV hK hP [0, 1, 2, 3, 4, 5, 6, 7, 8, 9, 10, 11, 12, 13] rfl (q0 := 0) (ci := 4) rfl rfl) rfl rfl hl.1 rfl (lv_room (Nat.le_of_ble_eq_true rfl)) dX4_flow_30 ⟨Nat.le_of_ble_eq_true rfl, Nat.le_of_ble_eq_true rfl⟩) (fun r9 h9 => ?_)
      subst h9
      refine lv_l2i (v := ((lN (rk_flow frN neN d j))).toInt32) hx hb dX4_flow_33 rfl ?_
      have hk : rk_kIn 1 d (nI j) = 0 := by unfold rk_kIn; rw [if_neg c_6] <;> rfl
      simp only [if_pos hk] at hret
      rw [hk] at hret
      exact hret _ () _ _ _ _ rfl hP hD hS dX4_flow_34
    · exact absurd (by decide) c_21
