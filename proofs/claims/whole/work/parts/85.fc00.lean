set_option maxHeartbeats 4000000 in
set_option maxRecDepth 100000 in
/-- DuctSizesModel.duct -/
theorem c_X4_duct (l : Launch) (dC : Nat → ClassId) (dI : Nat → Nat → Nat) (cI cII : ClassId) (aR : Nat → Nat) (cd : Int32) (fr : Nat → Int32) (le : Nat → Int32) (fi : Nat → Int32) (ne : Nat → Int32) (sz : Int32) (ar : Nat → Int32) (pr : Nat → Int32) (sp : Int32) (ep : Int32) (pt : Int32) (cf : Nat → Int32) (cp : Nat → Int32) (ch : Nat → Int32) (la : Nat → Int64) (fd : Int32) (bc : Int64) (bp : Int64) (bh : Nat → Int32) (ba : Nat → Int64) (fs : Nat → Int64) (d : Nat) (x0 : Int32) (x1 : Int32) (x2 : Int32) (hz : Nat) (hd1 : d ≤ 6) : dk_Mi l yX4_duct wsX4_duct ({ frames := 1, cells := 0, slots := 0, locals := 25 }) (dC, dI) (dk_TR cI cII) [.ref (aR 0), .int x0, .int x1, .int x2] (dk_R cI cII aR cd (nI d) fr le fi ne sz ar pr sp ep pt cf cp ch la fd bc bp bh ba fs) hz (fun (r : Int32) (_ : Unit) => r = if rk_kDuct d x0 x1 x2 = 0 then nI (d + 1) else 0) (fun _ => dk_R cI cII aR (rk_kDuct d x0 x1 x2) (if rk_kDuct d x0 x1 x2 = 0 then (nI (d + 1)) else (nI d)) (if rk_kDuct d x0 x1 x2 = 0 then (upd fr (d + 1) x0) else fr) (if rk_kDuct d x0 x1 x2 = 0 then (upd le (d + 1) x1) else le) (if rk_kDuct d x0 x1 x2 = 0 then (upd fi (d + 1) x2) else fi) (if rk_kDuct d x0 x1 x2 = 0 then (upd ne (d + 1) 0) else ne) sz ar pr sp ep pt cf cp ch la fd bc bp bh ba fs) 0 0 := by
  refine dk_ofMi (cc := cX4_duct) (maxL := 4) (by decide) rfl (Nat.le_of_ble_eq_true rfl) ?_
  intro p e s m args below meth c A ls Q ⟨hx, hb, hml, hts, hown, hnm⟩ hsz hK hP hD hA hS hl hret
  have hT : ∀ w ∈ dk_tbl, w.before args s = true := fun w h => hts w (List.mem_cons_of_mem _ h)
  have hown : s.vm.findClass RX4 = some m.cls := hown
  have hl : lv_has ls 4 [(0, .ref (aR 0)), (1, .int x0), (2, .int x1), (3, .int x2)] := hl
  refine lv_aload_n hx hb dX4_duct_0 rfl (lv_at hl 0 rfl) ?_
  refine lv_iload_n hx hb dX4_duct_1 rfl (lv_at hl 1 rfl) ?_
  refine lv_i2l (v := (x0).toInt64) hx hb dX4_duct_2 rfl ?_
  refine lv_lconst (v := 0) hx hb dX4_duct_3 (by decide) ?_
  refine lv_aload_n hx hb dX4_duct_4 rfl (lv_at hl 0 rfl) ?_
  refine va_get (D := (dC, dI)) (ci := 4) (v := .int (nI d)) (C := RX4) (T := TX4) (N := 22) hx hb hT in_X4 hown hK hP 0 rfl rfl 1 (by decide) (hT _ mw_462) (fun _ h9 => h9) rfl dX4_duct_5 ?_
  refine lv_i2l (v := ((nI d)).toInt64) hx hb dX4_duct_8 rfl ?_
  refine dk_csi (va_runS (As := [.long ((x0).toInt64), .long 0, .long (((nI d)).toInt64)]) (rest := [.ref (aR 0)]) ⟨hx, hb, hml, hown, hT⟩ (c_X4_isIn l dC dI cI cII ((x0).toInt64) 0 (((nI d)).toInt64)) (va_cwS 3 hT (dk_gS mw_537 mw_538 mw_27 mw_539) rfl rfl rfl (by decide +kernel) ⟨(Nat.le_of_ble_eq_true rfl), (Nat.le_of_ble_eq_true rfl)⟩) (dk_preRS hK hP [] rfl) rfl rfl hl.1 rfl (lv_room (Nat.le_of_ble_eq_true rfl)) dX4_duct_9 ⟨Nat.le_of_ble_eq_true rfl, Nat.le_of_ble_eq_true rfl⟩) (fun r9 h9 => ?_)
  subst h9
  refine lv_if_eq (tgt := 39) hx hb dX4_duct_12 (by decide) (fun c_12 => ?_) (fun c_12 => ?_)
  · refine lv_iconst (v := 1) hx hb dX4_duct_39 (by decide) ?_
    refine lv_goto (tgt := 57) hx hb dX4_duct_40 (by decide) ?_
    refine va_put (D := (dC, dI)) (ci := 4) (v := .int 1) (ty := .int) (C := RX4) (T := TX4) (N := 22) hx hb hT in_X4 tyX4 tyX4_ok nmX4 hown hK hP hD hS 0 rfl rfl 0 (by decide) (hT _ mw_461) (fun _ h9 => h9) rfl (by decide +kernel) rfl rfl (Nat.le_of_ble_eq_true rfl) dX4_duct_57 (fun H locs hP hD hS => ?_)
    have hP : va_P (dC, dI) vwCl (dk_R cI cII aR 1 (nI d) fr le fi ne sz ar pr sp ep pt cf cp ch la fd bc bp bh ba fs) H := hP
    have hD : va_D A (dk_R cI cII aR 1 (nI d) fr le fi ne sz ar pr sp ep pt cf cp ch la fd bc bp bh ba fs) := hD
    refine lv_aload_n hx hb dX4_duct_60 rfl (lv_at hl 0 rfl) ?_
    refine va_get (D := (dC, dI)) (ci := 4) (v := .int 1) (C := RX4) (T := TX4) (N := 22) hx hb hT in_X4 hown hK hP 0 rfl rfl 0 (by decide) (hT _ mw_461) (fun _ h9 => h9) rfl dX4_duct_61 ?_
    refine lv_if_le (tgt := 69) hx hb dX4_duct_64 (by decide) (fun c_64 => ?_) (fun c_64 => ?_)
    · exact absurd c_64 (by decide)
    · refine lv_iconst (v := 0) hx hb dX4_duct_67 (by decide) ?_
      have hk : rk_kDuct d x0 x1 x2 = 1 := by unfold rk_kDuct; rw [if_pos c_12] <;> rfl
      have hk0 : ¬ rk_kDuct d x0 x1 x2 = 0 := by rw [hk]; decide
      simp only [if_neg hk0] at hret
      rw [hk] at hret
      exact hret _ () _ _ _ _ rfl hP hD hS dX4_duct_68
  · refine lv_iload_n hx hb dX4_duct_15 rfl (lv_at hl 2 rfl) ?_
    refine lv_i2l (v := (x1).toInt64) hx hb dX4_duct_16 rfl ?_
    refine lv_lconst (v := 1) hx hb dX4_duct_17 (by decide) ?_
    refine lv_ldc2 (v := 100) hx hb hown (hT _ mw_540) dX4_duct_18 ?_
    refine dk_csi (va_runS (As := [.long ((x1).toInt64), .long 1, .long 100]) (rest := [.ref (aR 0)]) ⟨hx, hb, hml, hown, hT⟩ (c_X4_isIn l dC dI cI cII ((x1).toInt64) 1 100) (va_cwS 3 hT (dk_gS mw_537 mw_538 mw_27 mw_539) rfl rfl rfl (by decide +kernel) ⟨(Nat.le_of_ble_eq_true rfl), (Nat.le_of_ble_eq_true rfl)⟩) (dk_preRS hK hP [] rfl) rfl rfl hl.1 rfl (lv_room (Nat.le_of_ble_eq_true rfl)) dX4_duct_21 ⟨Nat.le_of_ble_eq_true rfl, Nat.le_of_ble_eq_true rfl⟩) (fun r9 h9 => ?_)
    subst h9
    refine lv_if_eq (tgt := 39) hx hb dX4_duct_24 (by decide) (fun c_24 => ?_) (fun c_24 => ?_)
    · refine lv_iconst (v := 1) hx hb dX4_duct_39 (by decide) ?_
      refine lv_goto (tgt := 57) hx hb dX4_duct_40 (by decide) ?_
      refine va_put (D := (dC, dI)) (ci := 4) (v := .int 1) (ty := .int) (C := RX4) (T := TX4) (N := 22) hx hb hT in_X4 tyX4 tyX4_ok nmX4 hown hK hP hD hS 0 rfl rfl 0 (by decide) (hT _ mw_461) (fun _ h9 => h9) rfl (by decide +kernel) rfl rfl (Nat.le_of_ble_eq_true rfl) dX4_duct_57 (fun H locs hP hD hS => ?_)
      have hP : va_P (dC, dI) vwCl (dk_R cI cII aR 1 (nI d) fr le fi ne sz ar pr sp ep pt cf cp ch la fd bc bp bh ba fs) H := hP
      have hD : va_D A (dk_R cI cII aR 1 (nI d) fr le fi ne sz ar pr sp ep pt cf cp ch la fd bc bp bh ba fs) := hD
      refine lv_aload_n hx hb dX4_duct_60 rfl (lv_at hl 0 rfl) ?_
      refine va_get (D := (dC, dI)) (ci := 4) (v := .int 1) (C := RX4) (T := TX4) (N := 22) hx hb hT in_X4 hown hK hP 0 rfl rfl 0 (by decide) (hT _ mw_461) (fun _ h9 => h9) rfl dX4_duct_61 ?_
      refine lv_if_le (tgt := 69) hx hb dX4_duct_64 (by decide) (fun c_64 => ?_) (fun c_64 => ?_)
      · exact absurd c_64 (by decide)
      · refine lv_iconst (v := 0) hx hb dX4_duct_67 (by decide) ?_
        have hk : rk_kDuct d x0 x1 x2 = 1 := by unfold rk_kDuct; rw [if_neg c_12, if_pos c_24] <;> rfl
        have hk0 : ¬ rk_kDuct d x0 x1 x2 = 0 := by rw [hk]; decide
        simp only [if_neg hk0] at hret
        rw [hk] at hret
        exact hret _ () _ _ _ _ rfl hP hD hS dX4_duct_68
    · refine lv_iload_n hx hb dX4_duct_27 rfl (lv_at hl 3 rfl) ?_
      refine lv_i2l (v := (x2).toInt64) hx hb dX4_duct_28 rfl ?_
      refine lv_lconst (v := 0) hx hb dX4_duct_29 (by decide) ?_
      refine lv_ldc2 (v := 50) hx hb hown (hT _ mw_541) dX4_duct_30 ?_
      refine dk_csi (va_runS (As := [.long ((x2).toInt64), .long 0, .long 50]) (rest := [.ref (aR 0)]) ⟨hx, hb, hml, hown, hT⟩ (c_X4_isIn l dC dI cI cII ((x2).toInt64) 0 50) (va_cwS 3 hT (dk_gS mw_537 mw_538 mw_27 mw_539) rfl rfl rfl (by decide +kernel) ⟨(Nat.le_of_ble_eq_true rfl), (Nat.le_of_ble_eq_true rfl)⟩) (dk_preRS hK hP [] rfl) rfl rfl hl.1 rfl (lv_room (Nat.le_of_ble_eq_true rfl)) dX4_duct_33 ⟨Nat.le_of_ble_eq_true rfl, Nat.le_of_ble_eq_true rfl⟩) (fun r9 h9 => ?_)
      subst h9
      refine lv_if_ne (tgt := 43) hx hb dX4_duct_36 (by decide) (fun c_36 => ?_) (fun c_36 => ?_)
      · refine lv_aload_n hx hb dX4_duct_43 rfl (lv_at hl 0 rfl) ?_
        refine va_get (D := (dC, dI)) (ci := 4) (v := .int (nI d)) (C := RX4) (T := TX4) (N := 22) hx hb hT in_X4 hown hK hP 0 rfl rfl 1 (by decide) (hT _ mw_462) (fun _ h9 => h9) rfl dX4_duct_44 ?_
        refine lv_bipush (v := 6) hx hb dX4_duct_47 (by decide) ?_
        refine lv_icmp_ne (tgt := 56) hx hb dX4_duct_49 (by decide) (fun c_49 => ?_) (fun c_49 => ?_)
        · refine lv_iconst (v := 0) hx hb dX4_duct_56 (by decide) ?_
          refine va_put (D := (dC, dI)) (ci := 4) (v := .int 0) (ty := .int) (C := RX4) (T := TX4) (N := 22) hx hb hT in_X4 tyX4 tyX4_ok nmX4 hown hK hP hD hS 0 rfl rfl 0 (by decide) (hT _ mw_461) (fun _ h9 => h9) rfl (by decide +kernel) rfl rfl (Nat.le_of_ble_eq_true rfl) dX4_duct_57 (fun H locs hP hD hS => ?_)
          have hP : va_P (dC, dI) vwCl (dk_R cI cII aR 0 (nI d) fr le fi ne sz ar pr sp ep pt cf cp ch la fd bc bp bh ba fs) H := hP
          have hD : va_D A (dk_R cI cII aR 0 (nI d) fr le fi ne sz ar pr sp ep pt cf cp ch la fd bc bp bh ba fs) := hD
          refine lv_aload_n hx hb dX4_duct_60 rfl (lv_at hl 0 rfl) ?_
          refine va_get (D := (dC, dI)) (ci := 4) (v := .int 0) (C := RX4) (T := TX4) (N := 22) hx hb hT in_X4 hown hK hP 0 rfl rfl 0 (by decide) (hT _ mw_461) (fun _ h9 => h9) rfl dX4_duct_61 ?_
          refine lv_if_le (tgt := 69) hx hb dX4_duct_64 (by decide) (fun c_64 => ?_) (fun c_64 => ?_)
          · have hd6 : d < 6 := (Nat.lt_or_ge d 6).elim id (fun q => absurd (by rw [show d = 6 by omega]; rfl) c_49)
            refine lv_aload_n hx hb dX4_duct_69 rfl (lv_at hl 0 rfl) ?_
            refine lv_dup hx hb dX4_duct_70 rfl ?_
            refine va_get (D := (dC, dI)) (ci := 4) (v := .int (nI d)) (C := RX4) (T := TX4) (N := 22) hx hb hT in_X4 hown hK hP 0 rfl rfl 1 (by decide) (hT _ mw_462) (fun _ h9 => h9) rfl dX4_duct_71 ?_
            refine lv_iconst (v := 1) hx hb dX4_duct_74 (by decide) ?_
            refine lv_iadd hx hb dX4_duct_75 ?_
            refine lv_topi (fun y9 e9 => ?_)
            obtain rfl : y9 = nI (d + 1) := by rw [e9]; exact (nI_1 d)
            refine va_put (D := (dC, dI)) (ci := 4) (v := .int (nI (d + 1))) (ty := .int) (C := RX4) (T := TX4) (N := 22) hx hb hT in_X4 tyX4 tyX4_ok nmX4 hown hK hP hD hS 0 rfl rfl 1 (by decide) (hT _ mw_462) (fun _ h9 => h9) rfl (by decide +kernel) rfl rfl (Nat.le_of_ble_eq_true rfl) dX4_duct_76 (fun H locs hP hD hS => ?_)
            have hP : va_P (dC, dI) vwCl (dk_R cI cII aR 0 (nI (d + 1)) fr le fi ne sz ar pr sp ep pt cf cp ch la fd bc bp bh ba fs) H := hP
            have hD : va_D A (dk_R cI cII aR 0 (nI (d + 1)) fr le fi ne sz ar pr sp ep pt cf cp ch la fd bc bp bh ba fs) := hD
            refine lv_aload_n hx hb dX4_duct_79 rfl (lv_at hl 0 rfl) ?_
            refine va_get (D := (dC, dI)) (ci := 4) (v := .ref (aR 1)) (C := RX4) (T := TX4) (N := 22) hx hb hT in_X4 hown hK hP 0 rfl rfl 2 (by decide) (hT _ mw_463) (fun _ h9 => h9) rfl dX4_duct_80 ?_
            refine lv_aload_n hx hb dX4_duct_83 rfl (lv_at hl 0 rfl) ?_
            refine va_get (D := (dC, dI)) (ci := 4) (v := .int (nI (d + 1))) (C := RX4) (T := TX4) (N := 22) hx hb hT in_X4 hown hK hP 0 rfl rfl 1 (by decide) (hT _ mw_462) (fun _ h9 => h9) rfl dX4_duct_84 ?_
            refine lv_iload_n hx hb dX4_duct_87 rfl (lv_at hl 1 rfl) ?_
            refine dk_iast (q0 := 1) (t0 := 0) (i := d + 1) hx hb hK hP hD hS rfl rfl rfl (by omega) (by decide) dX4_duct_88 (fun H locs hP hD hS => ?_)
            have hP : va_P (dC, dI) vwCl (dk_R cI cII aR 0 (nI (d + 1)) (upd fr (d + 1) x0) le fi ne sz ar pr sp ep pt cf cp ch la fd bc bp bh ba fs) H := hP
            have hD : va_D A (dk_R cI cII aR 0 (nI (d + 1)) (upd fr (d + 1) x0) le fi ne sz ar pr sp ep pt cf cp ch la fd bc bp bh ba fs) := hD
            refine lv_aload_n hx hb dX4_duct_89 rfl (lv_at hl 0 rfl) ?_
            refine va_get (D := (dC, dI)) (ci := 4) (v := .ref (aR 2)) (C := RX4) (T := TX4) (N := 22) hx hb hT in_X4 hown hK hP 0 rfl rfl 3 (by decide) (hT _ mw_464) (fun _ h9 => h9) rfl dX4_duct_90 ?_
            refine lv_aload_n hx hb dX4_duct_93 rfl (lv_at hl 0 rfl) ?_
            refine va_get (D := (dC, dI)) (ci := 4) (v := .int (nI (d + 1))) (C := RX4) (T := TX4) (N := 22) hx hb hT in_X4 hown hK hP 0 rfl rfl 1 (by decide) (hT _ mw_462) (fun _ h9 => h9) rfl dX4_duct_94 ?_
            refine lv_iload_n hx hb dX4_duct_97 rfl (lv_at hl 2 rfl) ?_
            refine dk_iast (q0 := 2) (t0 := 0) (i := d + 1) hx hb hK hP hD hS rfl rfl rfl (by omega) (by decide) dX4_duct_98 (fun H locs hP hD hS => ?_)
            have hP : va_P (dC, dI) vwCl (dk_R cI cII aR 0 (nI (d + 1)) (upd fr (d + 1) x0) (upd le (d + 1) x1) fi ne sz ar pr sp ep pt cf cp ch la fd bc bp bh ba fs) H := hP
            have hD : va_D A (dk_R cI cII aR 0 (nI (d + 1)) (upd fr (d + 1) x0) (upd le (d + 1) x1) fi ne sz ar pr sp ep pt cf cp ch la fd bc bp bh ba fs) := hD
            refine lv_aload_n hx hb dX4_duct_99 rfl (lv_at hl 0 rfl) ?_
            refine va_get (D := (dC, dI)) (ci := 4) (v := .ref (aR 3)) (C := RX4) (T := TX4) (N := 22) hx hb hT in_X4 hown hK hP 0 rfl rfl 4 (by decide) (hT _ mw_465) (fun _ h9 => h9) rfl dX4_duct_100 ?_
            refine lv_aload_n hx hb dX4_duct_103 rfl (lv_at hl 0 rfl) ?_
            refine va_get (D := (dC, dI)) (ci := 4) (v := .int (nI (d + 1))) (C := RX4) (T := TX4) (N := 22) hx hb hT in_X4 hown hK hP 0 rfl rfl 1 (by decide) (hT _ mw_462) (fun _ h9 => h9) rfl dX4_duct_104 ?_
            refine lv_iload_n hx hb dX4_duct_107 rfl (lv_at hl 3 rfl) ?_
            refine dk_iast (q0 := 3) (t0 := 0) (i := d + 1) hx hb hK hP hD hS rfl rfl rfl (by omega) (by decide) dX4_duct_108 (fun H locs hP hD hS => ?_)
            have hP : va_P (dC, dI) vwCl (dk_R cI cII aR 0 (nI (d + 1)) (upd fr (d + 1) x0) (upd le (d + 1) x1) (upd fi (d + 1) x2) ne sz ar pr sp ep pt cf cp ch la fd bc bp bh ba fs) H := hP
            have hD : va_D A (dk_R cI cII aR 0 (nI (d + 1)) (upd fr (d + 1) x0) (upd le (d + 1) x1) (upd fi (d + 1) x2) ne sz ar pr sp ep pt cf cp ch la fd bc bp bh ba fs) := hD
            refine lv_aload_n hx hb dX4_duct_109 rfl (lv_at hl 0 rfl) ?_
            refine va_get (D := (dC, dI)) (ci := 4) (v := .ref (aR 4)) (C := RX4) (T := TX4) (N := 22) hx hb hT in_X4 hown hK hP 0 rfl rfl 5 (by decide) (hT _ mw_466) (fun _ h9 => h9) rfl dX4_duct_110 ?_
            refine lv_aload_n hx hb dX4_duct_113 rfl (lv_at hl 0 rfl) ?_
            refine va_get (D := (dC, dI)) (ci := 4) (v := .int (nI (d + 1))) (C := RX4) (T := TX4) (N := 22) hx hb hT in_X4 hown hK hP 0 rfl rfl 1 (by decide) (hT _ mw_462) (fun _ h9 => h9) rfl dX4_duct_114 ?_
            refine lv_iconst (v := 0) hx hb dX4_duct_117 (by decide) ?_
            refine dk_iast (q0 := 4) (t0 := 0) (i := d + 1) hx hb hK hP hD hS rfl rfl rfl (by omega) (by decide) dX4_duct_118 (fun H locs hP hD hS => ?_)
            have hP : va_P (dC, dI) vwCl (dk_R cI cII aR 0 (nI (d + 1)) (upd fr (d + 1) x0) (upd le (d + 1) x1) (upd fi (d + 1) x2) (upd ne (d + 1) 0) sz ar pr sp ep pt cf cp ch la fd bc bp bh ba fs) H := hP
            have hD : va_D A (dk_R cI cII aR 0 (nI (d + 1)) (upd fr (d + 1) x0) (upd le (d + 1) x1) (upd fi (d + 1) x2) (upd ne (d + 1) 0) sz ar pr sp ep pt cf cp ch la fd bc bp bh ba fs) := hD
            refine lv_aload_n hx hb dX4_duct_119 rfl (lv_at hl 0 rfl) ?_
            refine va_get (D := (dC, dI)) (ci := 4) (v := .int (nI (d + 1))) (C := RX4) (T := TX4) (N := 22) hx hb hT in_X4 hown hK hP 0 rfl rfl 1 (by decide) (hT _ mw_462) (fun _ h9 => h9) rfl dX4_duct_120 ?_
            have hk : rk_kDuct d x0 x1 x2 = 0 := by unfold rk_kDuct; rw [if_neg c_12, if_neg c_24, if_neg c_36, if_neg c_49] <;> rfl
            simp only [if_pos hk] at hret
            rw [hk] at hret
            exact hret _ () _ _ _ _ rfl hP hD hS dX4_duct_123
          · exact absurd (by decide) c_64
        · refine lv_iconst (v := 2) hx hb dX4_duct_52 (by decide) ?_
          refine lv_goto (tgt := 57) hx hb dX4_duct_53 (by decide) ?_
          refine va_put (D := (dC, dI)) (ci := 4) (v := .int 2) (ty := .int) (C := RX4) (T := TX4) (N := 22) hx hb hT in_X4 tyX4 tyX4_ok nmX4 hown hK hP hD hS 0 rfl rfl 0 (by decide) (hT _ mw_461) (fun _ h9 => h9) rfl (by decide +kernel) rfl rfl (Nat.le_of_ble_eq_true rfl) dX4_duct_57 (fun H locs hP hD hS => ?_)
          have hP : va_P (dC, dI) vwCl (dk_R cI cII aR 2 (nI d) fr le fi ne sz ar pr sp ep pt cf cp ch la fd bc bp bh ba fs) H := hP
          have hD : va_D A (dk_R cI cII aR 2 (nI d) fr le fi ne sz ar pr sp ep pt cf cp ch la fd bc bp bh ba fs) := hD
          refine lv_aload_n hx hb dX4_duct_60 rfl (lv_at hl 0 rfl) ?_
          refine va_get (D := (dC, dI)) (ci := 4) (v := .int 2) (C := RX4) (T := TX4) (N := 22) hx hb hT in_X4 hown hK hP 0 rfl rfl 0 (by decide) (hT _ mw_461) (fun _ h9 => h9) rfl dX4_duct_61 ?_
          refine lv_if_le (tgt := 69) hx hb dX4_duct_64 (by decide) (fun c_64 => ?_) (fun c_64 => ?_)
          · exact absurd c_64 (by decide)
          · refine lv_iconst (v := 0) hx hb dX4_duct_67 (by decide) ?_
            have hk : rk_kDuct d x0 x1 x2 = 2 := by unfold rk_kDuct; rw [if_neg c_12, if_neg c_24, if_neg c_36, if_pos c_49] <;> rfl
            have hk0 : ¬ rk_kDuct d x0 x1 x2 = 0 := by rw [hk]; decide
            simp only [if_neg hk0] at hret
            rw [hk] at hret
            exact hret _ () _ _ _ _ rfl hP hD hS dX4_duct_68
      · refine lv_iconst (v := 1) hx hb dX4_duct_39 (by decide) ?_
        refine lv_goto (tgt := 57) hx hb dX4_duct_40 (by decide) ?_
        refine va_put (D := (dC, dI)) (ci := 4) (v := .int 1) (ty := .int) (C := RX4) (T := TX4) (N := 22) hx hb hT in_X4 tyX4 tyX4_ok nmX4 hown hK hP hD hS 0 rfl rfl 0 (by decide) (hT _ mw_461) (fun _ h9 => h9) rfl (by decide +kernel) rfl rfl (Nat.le_of_ble_eq_true rfl) dX4_duct_57 (fun H locs hP hD hS => ?_)
        have hP : va_P (dC, dI) vwCl (dk_R cI cII aR 1 (nI d) fr le fi ne sz ar pr sp ep pt cf cp ch la fd bc bp bh ba fs) H := hP
        have hD : va_D A (dk_R cI cII aR 1 (nI d) fr le fi ne sz ar pr sp ep pt cf cp ch la fd bc bp bh ba fs) := hD
        refine lv_aload_n hx hb dX4_duct_60 rfl (lv_at hl 0 rfl) ?_
        refine va_get (D := (dC, dI)) (ci := 4) (v := .int 1) (C := RX4) (T := TX4) (N := 22) hx hb hT in_X4 hown hK hP 0 rfl rfl 0 (by decide) (hT _ mw_461) (fun _ h9 => h9) rfl dX4_duct_61 ?_
        refine lv_if_le (tgt := 69) hx hb dX4_duct_64 (by decide) (fun c_64 => ?_) (fun c_64 => ?_)
        · exact absurd c_64 (by decide)
        · refine lv_iconst (v := 0) hx hb dX4_duct_67 (by decide) ?_
          have hk : rk_kDuct d x0 x1 x2 = 1 := by unfold rk_kDuct; rw [if_neg c_12, if_neg c_24, if_pos c_36] <;> rfl
          have hk0 : ¬ rk_kDuct d x0 x1 x2 = 0 := by rw [hk]; decide
          simp only [if_neg hk0] at hret
          rw [hk] at hret
          exact hret _ () _ _ _ _ rfl hP hD hS dX4_duct_68
