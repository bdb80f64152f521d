set_option maxHeartbeats 4000000 in
set_option maxRecDepth 100000 in
/-- DuctSizesModel.need -/
theorem c_X4_need (l : Launch) (dC : Nat → ClassId) (dI : Nat → Nat → Nat) (cI cII : ClassId) (aR : Nat → Nat) (cd : Int32) (fr : Nat → Int32) (le : Nat → Int32) (fi : Nat → Int32) (ne : Nat → Int32) (sz : Int32) (ar : Nat → Int32) (pr : Nat → Int32) (sp : Int32) (ep : Int32) (pt : Int32) (cf : Nat → Int32) (cp : Nat → Int32) (ch : Nat → Int32) (la : Nat → Int64) (fd : Int32) (bc : Int64) (bp : Int64) (bh : Nat → Int32) (ba : Nat → Int64) (fs : Nat → Int64) (d : Nat) (x0 : Int32) (x1 : Int32) (hz : Nat) (hd1 : d ≤ 6) : dk_Mi l yX4_need wsX4_need ({ frames := 2, cells := 0, slots := 0, locals := 46 }) (dC, dI) (dk_TR cI cII) [.ref (aR 0), .int x0, .int x1] (dk_R cI cII aR cd (nI d) fr le fi ne sz ar pr sp ep pt cf cp ch la fd bc bp bh ba fs) hz (fun (r : Int32) (_ : Unit) => r = if rk_kNeed d x0 x1 = 0 then ne x0.toNatClampNeg else 0) (fun _ => dk_R cI cII aR (rk_kNeed d x0 x1) (nI d) fr le fi (if rk_kNeed d x0 x1 = 0 then (upd ne x0.toNatClampNeg x1) else ne) sz ar pr sp ep pt cf cp ch la fd bc bp bh ba fs) 0 0 := by
  refine dk_ofMi (cc := cX4_need) (maxL := 4) (by decide) rfl (Nat.le_of_ble_eq_true rfl) ?_
  intro p e s m args below meth c A ls Q ⟨hx, hb, hml, hts, hown, hnm⟩ hsz hK hP hD hA hS hl hret
  have hT : ∀ w ∈ dk_tbl, w.before args s = true := fun w h => hts w (List.mem_cons_of_mem _ h)
  have hown : s.vm.findClass RX4 = some m.cls := hown
  have hl : lv_has ls 4 [(0, .ref (aR 0)), (1, .int x0), (2, .int x1)] := hl
  refine lv_aload_n hx hb dX4_need_0 rfl (lv_at hl 0 rfl) ?_
  refine lv_aload_n hx hb dX4_need_1 rfl (lv_at hl 0 rfl) ?_
  refine lv_iload_n hx hb dX4_need_2 rfl (lv_at hl 1 rfl) ?_
  refine dk_csi (va_runV (As := [.int x0]) (rest := [.ref (aR 0)]) ⟨hx, hb, hml, hown, hT⟩ (c_X4_isDuct l dC dI cI cII aR cd fr le fi ne sz ar pr sp ep pt cf cp ch la fd bc bp bh ba fs d x0) (cwV 1 hT (dk_gV mw_546 mw_548 mw_11 mw_27 mw_549) rfl rfl rfl (by decide +kernel) ⟨(Nat.le_of_ble_eq_true rfl), (Nat.le_of_ble_eq_true rfl)⟩) (dk_preRV hK hP [0, 1, 2, 3, 4, 5, 6, 7, 8, 9, 10, 11, 12, 13] rfl (q0 := 0) (ci := 4) rfl rfl) rfl rfl hl.1 rfl (lv_room (Nat.le_of_ble_eq_true rfl)) dX4_need_3 ⟨Nat.le_of_ble_eq_true rfl, Nat.le_of_ble_eq_true rfl⟩) (fun r9 h9 => ?_)
  subst h9
  refine lv_if_eq (tgt := 25) hx hb dX4_need_6 (by decide) (fun c_6 => ?_) (fun c_6 => ?_)
  · refine lv_iconst (v := 1) hx hb dX4_need_25 (by decide) ?_
    refine va_put (D := (dC, dI)) (ci := 4) (v := .int 1) (ty := .int) (C := RX4) (T := TX4) (N := 22) hx hb hT in_X4 tyX4 tyX4_ok nmX4 hown hK hP hD hS 0 rfl rfl 0 (by decide) (hT _ mw_461) (fun _ h9 => h9) rfl (by decide +kernel) rfl rfl (Nat.le_of_ble_eq_true rfl) dX4_need_26 (fun H locs hP hD hS => ?_)
    have hP : va_P (dC, dI) vwCl (dk_R cI cII aR 1 (nI d) fr le fi ne sz ar pr sp ep pt cf cp ch la fd bc bp bh ba fs) H := hP
    have hD : va_D A (dk_R cI cII aR 1 (nI d) fr le fi ne sz ar pr sp ep pt cf cp ch la fd bc bp bh ba fs) := hD
    refine lv_aload_n hx hb dX4_need_29 rfl (lv_at hl 0 rfl) ?_
    refine va_get (D := (dC, dI)) (ci := 4) (v := .int 1) (C := RX4) (T := TX4) (N := 22) hx hb hT in_X4 hown hK hP 0 rfl rfl 0 (by decide) (hT _ mw_461) (fun _ h9 => h9) rfl dX4_need_30 ?_
    refine lv_if_le (tgt := 38) hx hb dX4_need_33 (by decide) (fun c_33 => ?_) (fun c_33 => ?_)
    · exact absurd c_33 (by decide)
    · refine lv_iconst (v := 0) hx hb dX4_need_36 (by decide) ?_
      have hk : rk_kNeed d x0 x1 = 1 := by unfold rk_kNeed; rw [if_pos c_6] <;> rfl
      have hk0 : ¬ rk_kNeed d x0 x1 = 0 := by rw [hk]; decide
      simp only [if_neg hk0] at hret
      rw [hk] at hret
      exact hret _ () _ _ _ _ rfl hP hD hS dX4_need_37
  · refine lv_iload_n hx hb dX4_need_9 rfl (lv_at hl 2 rfl) ?_
    refine lv_i2l (v := (x1).toInt64) hx hb dX4_need_10 rfl ?_
    refine lv_lconst (v := 0) hx hb dX4_need_11 (by decide) ?_
    refine lv_ldc2 (v := 1000) hx hb hown (hT _ mw_550) dX4_need_12 ?_
    refine dk_csi (va_runS (As := [.long ((x1).toInt64), .long 0, .long 1000]) (rest := [.ref (aR 0)]) ⟨hx, hb, hml, hown, hT⟩ (c_X4_isIn l dC dI cI cII ((x1).toInt64) 0 1000) (va_cwS 3 hT (dk_gS mw_537 mw_538 mw_27 mw_539) rfl rfl rfl (by decide +kernel) ⟨(Nat.le_of_ble_eq_true rfl), (Nat.le_of_ble_eq_true rfl)⟩) (dk_preRS hK hP [] rfl) rfl rfl hl.1 rfl (lv_room (Nat.le_of_ble_eq_true rfl)) dX4_need_15 ⟨Nat.le_of_ble_eq_true rfl, Nat.le_of_ble_eq_true rfl⟩) (fun r9 h9 => ?_)
    subst h9
    refine lv_if_eq (tgt := 25) hx hb dX4_need_18 (by decide) (fun c_18 => ?_) (fun c_18 => ?_)
    · refine lv_iconst (v := 1) hx hb dX4_need_25 (by decide) ?_
      refine va_put (D := (dC, dI)) (ci := 4) (v := .int 1) (ty := .int) (C := RX4) (T := TX4) (N := 22) hx hb hT in_X4 tyX4 tyX4_ok nmX4 hown hK hP hD hS 0 rfl rfl 0 (by decide) (hT _ mw_461) (fun _ h9 => h9) rfl (by decide +kernel) rfl rfl (Nat.le_of_ble_eq_true rfl) dX4_need_26 (fun H locs hP hD hS => ?_)
      have hP : va_P (dC, dI) vwCl (dk_R cI cII aR 1 (nI d) fr le fi ne sz ar pr sp ep pt cf cp ch la fd bc bp bh ba fs) H := hP
      have hD : va_D A (dk_R cI cII aR 1 (nI d) fr le fi ne sz ar pr sp ep pt cf cp ch la fd bc bp bh ba fs) := hD
      refine lv_aload_n hx hb dX4_need_29 rfl (lv_at hl 0 rfl) ?_
      refine va_get (D := (dC, dI)) (ci := 4) (v := .int 1) (C := RX4) (T := TX4) (N := 22) hx hb hT in_X4 hown hK hP 0 rfl rfl 0 (by decide) (hT _ mw_461) (fun _ h9 => h9) rfl dX4_need_30 ?_
      refine lv_if_le (tgt := 38) hx hb dX4_need_33 (by decide) (fun c_33 => ?_) (fun c_33 => ?_)
      · exact absurd c_33 (by decide)
      · refine lv_iconst (v := 0) hx hb dX4_need_36 (by decide) ?_
        have hk : rk_kNeed d x0 x1 = 1 := by unfold rk_kNeed; rw [if_neg c_6, if_pos c_18] <;> rfl
        have hk0 : ¬ rk_kNeed d x0 x1 = 0 := by rw [hk]; decide
        simp only [if_neg hk0] at hret
        rw [hk] at hret
        exact hret _ () _ _ _ _ rfl hP hD hS dX4_need_37
    · refine lv_iconst (v := 0) hx hb dX4_need_21 (by decide) ?_
      refine lv_goto (tgt := 26) hx hb dX4_need_22 (by decide) ?_
      refine va_put (D := (dC, dI)) (ci := 4) (v := .int 0) (ty := .int) (C := RX4) (T := TX4) (N := 22) hx hb hT in_X4 tyX4 tyX4_ok nmX4 hown hK hP hD hS 0 rfl rfl 0 (by decide) (hT _ mw_461) (fun _ h9 => h9) rfl (by decide +kernel) rfl rfl (Nat.le_of_ble_eq_true rfl) dX4_need_26 (fun H locs hP hD hS => ?_)
      have hP : va_P (dC, dI) vwCl (dk_R cI cII aR 0 (nI d) fr le fi ne sz ar pr sp ep pt cf cp ch la fd bc bp bh ba fs) H := hP
      have hD : va_D A (dk_R cI cII aR 0 (nI d) fr le fi ne sz ar pr sp ep pt cf cp ch la fd bc bp bh ba fs) := hD
      refine lv_aload_n hx hb dX4_need_29 rfl (lv_at hl 0 rfl) ?_
      refine va_get (D := (dC, dI)) (ci := 4) (v := .int 0) (C := RX4) (T := TX4) (N := 22) hx hb hT in_X4 hown hK hP 0 rfl rfl 0 (by decide) (hT _ mw_461) (fun _ h9 => h9) rfl dX4_need_30 ?_
      refine lv_if_le (tgt := 38) hx hb dX4_need_33 (by decide) (fun c_33 => ?_) (fun c_33 => ?_)
      · obtain ⟨j, hj1, hj2, rfl⟩ := rk_isIn_nat (l := 1) c_6 rfl (by decide) (by omega)
        simp only [nI_clamp (show j < 2 ^ 31 by omega)] at hret
        refine lv_aload_n hx hb dX4_need_38 rfl (lv_at hl 0 rfl) ?_
        refine va_get (D := (dC, dI)) (ci := 4) (v := .ref (aR 4)) (C := RX4) (T := TX4) (N := 22) hx hb hT in_X4 hown hK hP 0 rfl rfl 5 (by decide) (hT _ mw_466) (fun _ h9 => h9) rfl dX4_need_39 ?_
        refine lv_iload_n hx hb dX4_need_42 rfl (lv_at hl 1 rfl) ?_
        refine dk_iald (q0 := 4) (t0 := 0) (i := j) hx hb hK hP rfl rfl rfl (by omega) (by decide) dX4_need_43 ?_
        refine lv_istore_n (lv' := [(3, .int (ne j)), (0, .ref (aR 0)), (1, .int (nI j)), (2, .int x1)]) hx hb dX4_need_44 rfl hl (by decide) rfl (fun ls hl => ?_)
        refine lv_aload_n hx hb dX4_need_45 rfl (lv_at hl 1 rfl) ?_
        refine va_get (D := (dC, dI)) (ci := 4) (v := .ref (aR 4)) (C := RX4) (T := TX4) (N := 22) hx hb hT in_X4 hown hK hP 0 rfl rfl 5 (by decide) (hT _ mw_466) (fun _ h9 => h9) rfl dX4_need_46 ?_
        refine lv_iload_n hx hb dX4_need_49 rfl (lv_at hl 2 rfl) ?_
        refine lv_iload_n hx hb dX4_need_50 rfl (lv_at hl 3 rfl) ?_
        refine dk_iast (q0 := 4) (t0 := 0) (i := j) hx hb hK hP hD hS rfl rfl rfl (by omega) (by decide) dX4_need_51 (fun H locs hP hD hS => ?_)
        have hP : va_P (dC, dI) vwCl (dk_R cI cII aR 0 (nI d) fr le fi (upd ne j x1) sz ar pr sp ep pt cf cp ch la fd bc bp bh ba fs) H := hP
        have hD : va_D A (dk_R cI cII aR 0 (nI d) fr le fi (upd ne j x1) sz ar pr sp ep pt cf cp ch la fd bc bp bh ba fs) := hD
        refine lv_iload_n hx hb dX4_need_52 rfl (lv_at hl 0 rfl) ?_
        have hk : rk_kNeed d (nI j) x1 = 0 := by unfold rk_kNeed; rw [if_neg c_6, if_neg c_18] <;> rfl
        simp only [if_pos hk] at hret
        rw [hk] at hret
        exact hret _ () _ _ _ _ rfl hP hD hS dX4_need_53
      · exact absurd (by decide) c_33
