set_option maxHeartbeats 4000000 in
set_option maxRecDepth 100000 in
/-- DuctSizesModel.told -/
theorem c_X4_told (l : Launch) (dC : Nat → ClassId) (dI : Nat → Nat → Nat) (cI cII : ClassId) (aR : Nat → Nat) (cd : Int32) (fr : Nat → Int32) (le : Nat → Int32) (fi : Nat → Int32) (ne : Nat → Int32) (ar : Nat → Int32) (pr : Nat → Int32) (sp : Int32) (ep : Int32) (pt : Int32) (cf : Nat → Int32) (cp : Nat → Int32) (ch : Nat → Int32) (la : Nat → Int64) (fd : Int32) (bc : Int64) (bp : Int64) (bh : Nat → Int32) (ba : Nat → Int64) (fs : Nat → Int64) (d : Nat) (z : Nat) (frN : Nat → Nat) (leN : Nat → Nat) (fiN : Nat → Nat) (neN : Nat → Nat) (arN : Nat → Nat) (prN : Nat → Nat) (x0 : Int32) (x1 : Int32) (x2 : Int32) (hz : Nat) (hd1 : d ≤ 6) (hz1 : z ≤ 4) (hO : rk_Ok d z fr le fi ne ar pr frN leN fiN neN arN prN) : dk_Mi l yX4_told wsX4_told ({ frames := 3, cells := 0, slots := 0, locals := 73 }) (dC, dI) (dk_TR cI cII) [.ref (aR 0), .int x0, .int x1, .int x2] (dk_R cI cII aR cd (nI d) fr le fi ne (nI z) ar pr sp ep pt cf cp ch la fd bc bp bh ba fs) hz (fun (r : Int32) (_ : Unit) => r = if rk_kTold d z x0 x1 x2 = 0 then (if x2 = 0 then lN (dk_spN (rk_flow frN neN d x0.toNatClampNeg) (arN x1.toNatClampNeg)) else lN (dk_faN (leN x0.toNatClampNeg) (fiN x0.toNatClampNeg) (rk_flow frN neN d x0.toNatClampNeg) (arN x1.toNatClampNeg))).toInt32 else 0) (fun _ => dk_R cI cII aR (rk_kTold d z x0 x1 x2) (nI d) fr le fi ne (nI z) ar pr sp ep pt cf cp ch la fd bc bp bh ba fs) 0 0 := by
  refine dk_ofMi (cc := cX4_told) (maxL := 4) (by decide) rfl (Nat.le_of_ble_eq_true rfl) ?_
  intro p e s m args below meth c A ls Q ⟨hx, hb, hml, hts, hown, hnm⟩ hsz hK hP hD hA hS hl hret
  have hT : ∀ w ∈ dk_tbl, w.before args s = true := fun w h => hts w (List.mem_cons_of_mem _ h)
  have hown : s.vm.findClass RX4 = some m.cls := hown
  have hl : lv_has ls 4 [(0, .ref (aR 0)), (1, .int x0), (2, .int x1), (3, .int x2)] := hl
  refine lv_aload_n hx hb dX4_told_0 rfl (lv_at hl 0 rfl) ?_
  refine lv_aload_n hx hb dX4_told_1 rfl (lv_at hl 0 rfl) ?_
  refine lv_iload_n hx hb dX4_told_2 rfl (lv_at hl 1 rfl) ?_
  refine dk_csi (va_runV (As := [.int x0]) (rest := [.ref (aR 0)]) ⟨hx, hb, hml, hown, hT⟩ (c_X4_isDuct l dC dI cI cII aR cd fr le fi ne (nI z) ar pr sp ep pt cf cp ch la fd bc bp bh ba fs d x0) (cwV 1 hT (dk_gV mw_546 mw_548 mw_11 mw_27 mw_549) rfl rfl rfl (by decide +kernel) ⟨(Nat.le_of_ble_eq_true rfl), (Nat.le_of_ble_eq_true rfl)⟩) (dk_preRV hK hP [0, 1, 2, 3, 4, 5, 6, 7, 8, 9, 10, 11, 12, 13] rfl (q0 := 0) (ci := 4) rfl rfl) rfl rfl hl.1 rfl (lv_room (Nat.le_of_ble_eq_true rfl)) dX4_told_3 ⟨Nat.le_of_ble_eq_true rfl, Nat.le_of_ble_eq_true rfl⟩) (fun r9 h9 => ?_)
  subst h9
  refine lv_if_eq (tgt := 39) hx hb dX4_told_6 (by decide) (fun c_6 => ?_) (fun c_6 => ?_)
  · refine lv_iconst (v := 1) hx hb dX4_told_39 (by decide) ?_
    refine va_put (D := (dC, dI)) (ci := 4) (v := .int 1) (ty := .int) (C := RX4) (T := TX4) (N := 22) hx hb hT in_X4 tyX4 tyX4_ok nmX4 hown hK hP hD hS 0 rfl rfl 0 (by decide) (hT _ mw_461) (fun _ h9 => h9) rfl (by decide +kernel) rfl rfl (Nat.le_of_ble_eq_true rfl) dX4_told_40 (fun H locs hP hD hS => ?_)
    have hP : va_P (dC, dI) vwCl (dk_R cI cII aR 1 (nI d) fr le fi ne (nI z) ar pr sp ep pt cf cp ch la fd bc bp bh ba fs) H := hP
    have hD : va_D A (dk_R cI cII aR 1 (nI d) fr le fi ne (nI z) ar pr sp ep pt cf cp ch la fd bc bp bh ba fs) := hD
    refine lv_aload_n hx hb dX4_told_43 rfl (lv_at hl 0 rfl) ?_
    refine va_get (D := (dC, dI)) (ci := 4) (v := .int 1) (C := RX4) (T := TX4) (N := 22) hx hb hT in_X4 hown hK hP 0 rfl rfl 0 (by decide) (hT _ mw_461) (fun _ h9 => h9) rfl dX4_told_44 ?_
    refine lv_if_le (tgt := 54) hx hb dX4_told_47 (by decide) (fun c_47 => ?_) (fun c_47 => ?_)
    · exact absurd c_47 (by decide)
    · refine lv_iconst (v := 0) hx hb dX4_told_50 (by decide) ?_
      refine lv_goto (tgt := 74) hx hb dX4_told_51 (by decide) ?_
      have hk : rk_kTold d z x0 x1 x2 = 1 := by unfold rk_kTold; rw [if_pos c_6] <;> rfl
      have hk0 : ¬ rk_kTold d z x0 x1 x2 = 0 := by rw [hk]; decide
      simp only [if_neg hk0] at hret
      rw [hk] at hret
      exact hret _ () _ _ _ _ rfl hP hD hS dX4_told_74
  · refine lv_iload_n hx hb dX4_told_9 rfl (lv_at hl 2 rfl) ?_
    refine lv_i2l (v := (x1).toInt64) hx hb dX4_told_10 rfl ?_
    refine lv_lconst (v := 0) hx hb dX4_told_11 (by decide) ?_
    refine lv_aload_n hx hb dX4_told_12 rfl (lv_at hl 0 rfl) ?_
    refine va_get (D := (dC, dI)) (ci := 4) (v := .int (nI z)) (C := RX4) (T := TX4) (N := 22) hx hb hT in_X4 hown hK hP 0 rfl rfl 6 (by decide) (hT _ mw_467) (fun _ h9 => h9) rfl dX4_told_13 ?_
    refine lv_iconst (v := 1) hx hb dX4_told_16 (by decide) ?_
    refine lv_isub hx hb dX4_told_17 ?_
    refine lv_i2l (v := (((nI z) - 1)).toInt64) hx hb dX4_told_18 rfl ?_
    refine dk_csi (va_runS (As := [.long ((x1).toInt64), .long 0, .long ((((nI z) - 1)).toInt64)]) (rest := [.ref (aR 0)]) ⟨hx, hb, hml, hown, hT⟩ (c_X4_isIn l dC dI cI cII ((x1).toInt64) 0 ((((nI z) - 1)).toInt64)) (va_cwS 3 hT (dk_gS mw_537 mw_538 mw_27 mw_539) rfl rfl rfl (by decide +kernel) ⟨(Nat.le_of_ble_eq_true rfl), (Nat.le_of_ble_eq_true rfl)⟩) (dk_preRS hK hP [] rfl) rfl rfl hl.1 rfl (lv_room (Nat.le_of_ble_eq_true rfl)) dX4_told_19 ⟨Nat.le_of_ble_eq_true rfl, Nat.le_of_ble_eq_true rfl⟩) (fun r9 h9 => ?_)
    subst h9
    refine lv_if_eq (tgt := 39) hx hb dX4_told_22 (by decide) (fun c_22 => ?_) (fun c_22 => ?_)
    · refine lv_iconst (v := 1) hx hb dX4_told_39 (by decide) ?_
      refine va_put (D := (dC, dI)) (ci := 4) (v := .int 1) (ty := .int) (C := RX4) (T := TX4) (N := 22) hx hb hT in_X4 tyX4 tyX4_ok nmX4 hown hK hP hD hS 0 rfl rfl 0 (by decide) (hT _ mw_461) (fun _ h9 => h9) rfl (by decide +kernel) rfl rfl (Nat.le_of_ble_eq_true rfl) dX4_told_40 (fun H locs hP hD hS => ?_)
      have hP : va_P (dC, dI) vwCl (dk_R cI cII aR 1 (nI d) fr le fi ne (nI z) ar pr sp ep pt cf cp ch la fd bc bp bh ba fs) H := hP
      have hD : va_D A (dk_R cI cII aR 1 (nI d) fr le fi ne (nI z) ar pr sp ep pt cf cp ch la fd bc bp bh ba fs) := hD
      refine lv_aload_n hx hb dX4_told_43 rfl (lv_at hl 0 rfl) ?_
      refine va_get (D := (dC, dI)) (ci := 4) (v := .int 1) (C := RX4) (T := TX4) (N := 22) hx hb hT in_X4 hown hK hP 0 rfl rfl 0 (by decide) (hT _ mw_461) (fun _ h9 => h9) rfl dX4_told_44 ?_
      refine lv_if_le (tgt := 54) hx hb dX4_told_47 (by decide) (fun c_47 => ?_) (fun c_47 => ?_)
      · exact absurd c_47 (by decide)
      · refine lv_iconst (v := 0) hx hb dX4_told_50 (by decide) ?_
        refine lv_goto (tgt := 74) hx hb dX4_told_51 (by decide) ?_
        have hk : rk_kTold d z x0 x1 x2 = 1 := by unfold rk_kTold; rw [if_neg c_6, if_pos c_22] <;> rfl
        have hk0 : ¬ rk_kTold d z x0 x1 x2 = 0 := by rw [hk]; decide
        simp only [if_neg hk0] at hret
        rw [hk] at hret
        exact hret _ () _ _ _ _ rfl hP hD hS dX4_told_74
    · refine lv_iload_n hx hb dX4_told_25 rfl (lv_at hl 3 rfl) ?_
      refine lv_i2l (v := (x2).toInt64) hx hb dX4_told_26 rfl ?_
      refine lv_lconst (v := 0) hx hb dX4_told_27 (by decide) ?_
      refine lv_lconst (v := 1) hx hb dX4_told_28 (by decide) ?_
      refine dk_csi (va_runS (As := [.long ((x2).toInt64), .long 0, .long 1]) (rest := [.ref (aR 0)]) ⟨hx, hb, hml, hown, hT⟩ (c_X4_isIn l dC dI cI cII ((x2).toInt64) 0 1) (va_cwS 3 hT (dk_gS mw_537 mw_538 mw_27 mw_539) rfl rfl rfl (by decide +kernel) ⟨(Nat.le_of_ble_eq_true rfl), (Nat.le_of_ble_eq_true rfl)⟩) (dk_preRS hK hP [] rfl) rfl rfl hl.1 rfl (lv_room (Nat.le_of_ble_eq_true rfl)) dX4_told_29 ⟨Nat.le_of_ble_eq_true rfl, Nat.le_of_ble_eq_true rfl⟩) (fun r9 h9 => ?_)
      subst h9
      refine lv_if_eq (tgt := 39) hx hb dX4_told_32 (by decide) (fun c_32 => ?_) (fun c_32 => ?_)
      · refine lv_iconst (v := 1) hx hb dX4_told_39 (by decide) ?_
        refine va_put (D := (dC, dI)) (ci := 4) (v := .int 1) (ty := .int) (C := RX4) (T := TX4) (N := 22) hx hb hT in_X4 tyX4 tyX4_ok nmX4 hown hK hP hD hS 0 rfl rfl 0 (by decide) (hT _ mw_461) (fun _ h9 => h9) rfl (by decide +kernel) rfl rfl (Nat.le_of_ble_eq_true rfl) dX4_told_40 (fun H locs hP hD hS => ?_)
        have hP : va_P (dC, dI) vwCl (dk_R cI cII aR 1 (nI d) fr le fi ne (nI z) ar pr sp ep pt cf cp ch la fd bc bp bh ba fs) H := hP
        have hD : va_D A (dk_R cI cII aR 1 (nI d) fr le fi ne (nI z) ar pr sp ep pt cf cp ch la fd bc bp bh ba fs) := hD
        refine lv_aload_n hx hb dX4_told_43 rfl (lv_at hl 0 rfl) ?_
        refine va_get (D := (dC, dI)) (ci := 4) (v := .int 1) (C := RX4) (T := TX4) (N := 22) hx hb hT in_X4 hown hK hP 0 rfl rfl 0 (by decide) (hT _ mw_461) (fun _ h9 => h9) rfl dX4_told_44 ?_
        refine lv_if_le (tgt := 54) hx hb dX4_told_47 (by decide) (fun c_47 => ?_) (fun c_47 => ?_)
        · exact absurd c_47 (by decide)
        · refine lv_iconst (v := 0) hx hb dX4_told_50 (by decide) ?_
          refine lv_goto (tgt := 74) hx hb dX4_told_51 (by decide) ?_
          have hk : rk_kTold d z x0 x1 x2 = 1 := by unfold rk_kTold; rw [if_neg c_6, if_neg c_22, if_pos c_32] <;> rfl
          have hk0 : ¬ rk_kTold d z x0 x1 x2 = 0 := by rw [hk]; decide
          simp only [if_neg hk0] at hret
          rw [hk] at hret
          exact hret _ () _ _ _ _ rfl hP hD hS dX4_told_74
      · refine lv_iconst (v := 0) hx hb dX4_told_35 (by decide) ?_
        refine lv_goto (tgt := 40) hx hb dX4_told_36 (by decide) ?_
        refine va_put (D := (dC, dI)) (ci := 4) (v := .int 0) (ty := .int) (C := RX4) (T := TX4) (N := 22) hx hb hT in_X4 tyX4 tyX4_ok nmX4 hown hK hP hD hS 0 rfl rfl 0 (by decide) (hT _ mw_461) (fun _ h9 => h9) rfl (by decide +kernel) rfl rfl (Nat.le_of_ble_eq_true rfl) dX4_told_40 (fun H locs hP hD hS => ?_)
        have hP : va_P (dC, dI) vwCl (dk_R cI cII aR 0 (nI d) fr le fi ne (nI z) ar pr sp ep pt cf cp ch la fd bc bp bh ba fs) H := hP
        have hD : va_D A (dk_R cI cII aR 0 (nI d) fr le fi ne (nI z) ar pr sp ep pt cf cp ch la fd bc bp bh ba fs) := hD
        refine lv_aload_n hx hb dX4_told_43 rfl (lv_at hl 0 rfl) ?_
        refine va_get (D := (dC, dI)) (ci := 4) (v := .int 0) (C := RX4) (T := TX4) (N := 22) hx hb hT in_X4 hown hK hP 0 rfl rfl 0 (by decide) (hT _ mw_461) (fun _ h9 => h9) rfl dX4_told_44 ?_
        refine lv_if_le (tgt := 54) hx hb dX4_told_47 (by decide) (fun c_47 => ?_) (fun c_47 => ?_)
        · obtain ⟨j, hj1, hj2, rfl⟩ := rk_isIn_nat (l := 1) c_6 rfl (by decide) (by omega)
          simp only [nI_clamp (show j < 2 ^ 31 by omega)] at hret
          obtain ⟨i, hi1, rfl⟩ := rk_isIn_nat1 c_22 hz1
          simp only [nI_clamp (show i < 2 ^ 31 by omega)] at hret
          refine lv_iload_n hx hb dX4_told_54 rfl (lv_at hl 3 rfl) ?_
          refine lv_if_ne (tgt := 67) hx hb dX4_told_55 (by decide) (fun c_55 => ?_) (fun c_55 => ?_)
          · refine lv_aload_n hx hb dX4_told_67 rfl (lv_at hl 0 rfl) ?_
            refine lv_iload_n hx hb dX4_told_68 rfl (lv_at hl 1 rfl) ?_
            refine lv_iload_n hx hb dX4_told_69 rfl (lv_at hl 2 rfl) ?_
            refine dk_csl (va_runV (As := [.int (nI j), .int (nI i)]) (rest := []) ⟨hx, hb, hml, hown, hT⟩ (c_X4_fallOf l dC dI cI cII aR 0 fr le fi ne ar pr sp ep pt cf cp ch la fd bc bp bh ba fs d z frN leN fiN neN arN prN j i hd1 hz1 hO (by omega) (by omega) (by omega)) (cwV 2 hT (dk_gV mw_594 mw_596 mw_16 mw_27 mw_597) rfl rfl rfl (by decide +kernel) ⟨(Nat.le_of_ble_eq_true rfl), (Nat.le_of_ble_eq_true rfl)⟩) (dk_preRV hK hP [0, 1, 2, 3, 4, 5, 6, 7, 8, 9, 10, 11, 12, 13] rfl (q0 := 0) (ci := 4) rfl rfl) rfl rfl hl.1 rfl (lv_room (Nat.le_of_ble_eq_true rfl)) dX4_told_70 ⟨Nat.le_of_ble_eq_true rfl, Nat.le_of_ble_eq_true rfl⟩) (fun r9 h9 => ?_)
            subst h9
            refine lv_l2i (v := ((lN (dk_faN (leN j) (fiN j) (rk_flow frN neN d j) (arN i)))).toInt32) hx hb dX4_told_73 rfl ?_
            have hk : rk_kTold d z (nI j) (nI i) x2 = 0 := by unfold rk_kTold; rw [if_neg c_6, if_neg c_22, if_neg c_32] <;> rfl
            simp only [if_pos hk] at hret
            rw [hk] at hret
            exact hret _ () _ _ _ _ (by rw [if_neg c_55]) hP hD hS dX4_told_74
          · refine lv_aload_n hx hb dX4_told_58 rfl (lv_at hl 0 rfl) ?_
            refine lv_iload_n hx hb dX4_told_59 rfl (lv_at hl 1 rfl) ?_
            refine lv_iload_n hx hb dX4_told_60 rfl (lv_at hl 2 rfl) ?_
            refine dk_csl (va_runV (As := [.int (nI j), .int (nI i)]) (rest := []) ⟨hx, hb, hml, hown, hT⟩ (c_X4_speedOf l dC dI cI cII aR 0 fr le fi ne ar pr sp ep pt cf cp ch la fd bc bp bh ba fs d z frN leN fiN neN arN prN j i hd1 hz1 hO (by omega) (by omega) (by omega)) (cwV 2 hT (dk_gV mw_590 mw_592 mw_15 mw_27 mw_593) rfl rfl rfl (by decide +kernel) ⟨(Nat.le_of_ble_eq_true rfl), (Nat.le_of_ble_eq_true rfl)⟩) (dk_preRV hK hP [0, 1, 2, 3, 4, 5, 6, 7, 8, 9, 10, 11, 12, 13] rfl (q0 := 0) (ci := 4) rfl rfl) rfl rfl hl.1 rfl (lv_room (Nat.le_of_ble_eq_true rfl)) dX4_told_61 ⟨Nat.le_of_ble_eq_true rfl, Nat.le_of_ble_eq_true rfl⟩) (fun r9 h9 => ?_)
            subst h9
            refine lv_goto (tgt := 73) hx hb dX4_told_64 (by decide) ?_
            refine lv_l2i (v := ((lN (dk_spN (rk_flow frN neN d j) (arN i)))).toInt32) hx hb dX4_told_73 rfl ?_
            have hk : rk_kTold d z (nI j) (nI i) x2 = 0 := by unfold rk_kTold; rw [if_neg c_6, if_neg c_22, if_neg c_32] <;> rfl
            simp only [if_pos hk] at hret
            rw [hk] at hret
            exact hret _ () _ _ _ _ (by rw [if_pos c_55]) hP hD hS dX4_told_74
        · exact absurd (by decide) c_47
