set_option maxHeartbeats 4000000 in
set_option maxRecDepth 100000 in
/-- DuctSizesModel.size -/
theorem c_X4_size (l : Launch) (dC : Nat → ClassId) (dI : Nat → Nat → Nat) (cI cII : ClassId) (aR : Nat → Nat) (cd : Int32) (du : Int32) (fr : Nat → Int32) (le : Nat → Int32) (fi : Nat → Int32) (ne : Nat → Int32) (ar : Nat → Int32) (pr : Nat → Int32) (sp : Int32) (ep : Int32) (pt : Int32) (cf : Nat → Int32) (cp : Nat → Int32) (ch : Nat → Int32) (la : Nat → Int64) (fd : Int32) (bc : Int64) (bp : Int64) (bh : Nat → Int32) (ba : Nat → Int64) (fs : Nat → Int64) (z : Nat) (x0 : Int32) (x1 : Int32) (hz : Nat) (hz1 : z ≤ 4) : dk_Mi l yX4_size wsX4_size ({ frames := 1, cells := 0, slots := 0, locals := 25 }) (dC, dI) (dk_TR cI cII) [.ref (aR 0), .int x0, .int x1] (dk_R cI cII aR cd du fr le fi ne (nI z) ar pr sp ep pt cf cp ch la fd bc bp bh ba fs) hz (fun (r : Int32) (_ : Unit) => r = if rk_kSize z x0 x1 = 0 then nI z else 0) (fun _ => dk_R cI cII aR (rk_kSize z x0 x1) du fr le fi ne (if rk_kSize z x0 x1 = 0 then (nI (z + 1)) else (nI z)) (if rk_kSize z x0 x1 = 0 then (upd ar z x0) else ar) (if rk_kSize z x0 x1 = 0 then (upd pr z x1) else pr) sp ep pt cf cp ch la fd bc bp bh ba fs) 0 0 := by
  refine dk_ofMi (cc := cX4_size) (maxL := 3) (by decide) rfl (Nat.le_of_ble_eq_true rfl) ?_
  intro p e s m args below meth c A ls Q ⟨hx, hb, hml, hts, hown, hnm⟩ hsz hK hP hD hA hS hl hret
  have hT : ∀ w ∈ dk_tbl, w.before args s = true := fun w h => hts w (List.mem_cons_of_mem _ h)
  have hown : s.vm.findClass RX4 = some m.cls := hown
  have hl : lv_has ls 3 [(0, .ref (aR 0)), (1, .int x0), (2, .int x1)] := hl
  refine lv_aload_n hx hb dX4_size_0 rfl (lv_at hl 0 rfl) ?_
  refine lv_iload_n hx hb dX4_size_1 rfl (lv_at hl 1 rfl) ?_
  refine lv_i2l (v := (x0).toInt64) hx hb dX4_size_2 rfl ?_
  refine lv_lconst (v := 1) hx hb dX4_size_3 (by decide) ?_
  refine lv_ldc2 (v := 1000) hx hb hown (hT _ mw_550) dX4_size_4 ?_
  refine dk_csi (va_runS (As := [.long ((x0).toInt64), .long 1, .long 1000]) (rest := [.ref (aR 0)]) ⟨hx, hb, hml, hown, hT⟩ (c_X4_isIn l dC dI cI cII ((x0).toInt64) 1 1000) (va_cwS 3 hT (dk_gS mw_537 mw_538 mw_27 mw_539) rfl rfl rfl (by decide +kernel) ⟨(Nat.le_of_ble_eq_true rfl), (Nat.le_of_ble_eq_true rfl)⟩) (dk_preRS hK hP [] rfl) rfl rfl hl.1 rfl (lv_room (Nat.le_of_ble_eq_true rfl)) dX4_size_7 ⟨Nat.le_of_ble_eq_true rfl, Nat.le_of_ble_eq_true rfl⟩) (fun r9 h9 => ?_)
  subst h9
  refine lv_if_eq (tgt := 25) hx hb dX4_size_10 (by decide) (fun c_10 => ?_) (fun c_10 => ?_)
  · refine lv_iconst (v := 1) hx hb dX4_size_25 (by decide) ?_
    refine lv_goto (tgt := 42) hx hb dX4_size_26 (by decide) ?_
    refine va_put (D := (dC, dI)) (ci := 4) (v := .int 1) (ty := .int) (C := RX4) (T := TX4) (N := 22) hx hb hT in_X4 tyX4 tyX4_ok nmX4 hown hK hP hD hS 0 rfl rfl 0 (by decide) (hT _ mw_461) (fun _ h9 => h9) rfl (by decide +kernel) rfl rfl (Nat.le_of_ble_eq_true rfl) dX4_size_42 (fun H locs hP hD hS => ?_)
    have hP : va_P (dC, dI) vwCl (dk_R cI cII aR 1 du fr le fi ne (nI z) ar pr sp ep pt cf cp ch la fd bc bp bh ba fs) H := hP
    have hD : va_D A (dk_R cI cII aR 1 du fr le fi ne (nI z) ar pr sp ep pt cf cp ch la fd bc bp bh ba fs) := hD
    refine lv_aload_n hx hb dX4_size_45 rfl (lv_at hl 0 rfl) ?_
    refine va_get (D := (dC, dI)) (ci := 4) (v := .int 1) (C := RX4) (T := TX4) (N := 22) hx hb hT in_X4 hown hK hP 0 rfl rfl 0 (by decide) (hT _ mw_461) (fun _ h9 => h9) rfl dX4_size_46 ?_
    refine lv_if_le (tgt := 54) hx hb dX4_size_49 (by decide) (fun c_49 => ?_) (fun c_49 => ?_)
    · exact absurd c_49 (by decide)
    · refine lv_iconst (v := 0) hx hb dX4_size_52 (by decide) ?_
      have hk : rk_kSize z x0 x1 = 1 := by unfold rk_kSize; rw [if_pos c_10] <;> rfl
      have hk0 : ¬ rk_kSize z x0 x1 = 0 := by rw [hk]; decide
      simp only [if_neg hk0] at hret
      rw [hk] at hret
      exact hret _ () _ _ _ _ rfl hP hD hS dX4_size_53
  · refine lv_iload_n hx hb dX4_size_13 rfl (lv_at hl 2 rfl) ?_
    refine lv_i2l (v := (x1).toInt64) hx hb dX4_size_14 rfl ?_
    refine lv_lconst (v := 1) hx hb dX4_size_15 (by decide) ?_
    refine lv_ldc2 (v := 1000) hx hb hown (hT _ mw_550) dX4_size_16 ?_
    refine dk_csi (va_runS (As := [.long ((x1).toInt64), .long 1, .long 1000]) (rest := [.ref (aR 0)]) ⟨hx, hb, hml, hown, hT⟩ (c_X4_isIn l dC dI cI cII ((x1).toInt64) 1 1000) (va_cwS 3 hT (dk_gS mw_537 mw_538 mw_27 mw_539) rfl rfl rfl (by decide +kernel) ⟨(Nat.le_of_ble_eq_true rfl), (Nat.le_of_ble_eq_true rfl)⟩) (dk_preRS hK hP [] rfl) rfl rfl hl.1 rfl (lv_room (Nat.le_of_ble_eq_true rfl)) dX4_size_19 ⟨Nat.le_of_ble_eq_true rfl, Nat.le_of_ble_eq_true rfl⟩) (fun r9 h9 => ?_)
    subst h9
    refine lv_if_ne (tgt := 29) hx hb dX4_size_22 (by decide) (fun c_22 => ?_) (fun c_22 => ?_)
    · refine lv_aload_n hx hb dX4_size_29 rfl (lv_at hl 0 rfl) ?_
      refine va_get (D := (dC, dI)) (ci := 4) (v := .int (nI z)) (C := RX4) (T := TX4) (N := 22) hx hb hT in_X4 hown hK hP 0 rfl rfl 6 (by decide) (hT _ mw_467) (fun _ h9 => h9) rfl dX4_size_30 ?_
      refine lv_iconst (v := 4) hx hb dX4_size_33 (by decide) ?_
      refine lv_icmp_ne (tgt := 41) hx hb dX4_size_34 (by decide) (fun c_34 => ?_) (fun c_34 => ?_)
      · refine lv_iconst (v := 0) hx hb dX4_size_41 (by decide) ?_
        refine va_put (D := (dC, dI)) (ci := 4) (v := .int 0) (ty := .int) (C := RX4) (T := TX4) (N := 22) hx hb hT in_X4 tyX4 tyX4_ok nmX4 hown hK hP hD hS 0 rfl rfl 0 (by decide) (hT _ mw_461) (fun _ h9 => h9) rfl (by decide +kernel) rfl rfl (Nat.le_of_ble_eq_true rfl) dX4_size_42 (fun H locs hP hD hS => ?_)
        have hP : va_P (dC, dI) vwCl (dk_R cI cII aR 0 du fr le fi ne (nI z) ar pr sp ep pt cf cp ch la fd bc bp bh ba fs) H := hP
        have hD : va_D A (dk_R cI cII aR 0 du fr le fi ne (nI z) ar pr sp ep pt cf cp ch la fd bc bp bh ba fs) := hD
        refine lv_aload_n hx hb dX4_size_45 rfl (lv_at hl 0 rfl) ?_
        refine va_get (D := (dC, dI)) (ci := 4) (v := .int 0) (C := RX4) (T := TX4) (N := 22) hx hb hT in_X4 hown hK hP 0 rfl rfl 0 (by decide) (hT _ mw_461) (fun _ h9 => h9) rfl dX4_size_46 ?_
        refine lv_if_le (tgt := 54) hx hb dX4_size_49 (by decide) (fun c_49 => ?_) (fun c_49 => ?_)
        · have hz4 : z < 4 := (Nat.lt_or_ge z 4).elim id (fun q => absurd (by rw [show z = 4 by omega]; rfl) c_34)
          refine lv_aload_n hx hb dX4_size_54 rfl (lv_at hl 0 rfl) ?_
          refine va_get (D := (dC, dI)) (ci := 4) (v := .ref (aR 5)) (C := RX4) (T := TX4) (N := 22) hx hb hT in_X4 hown hK hP 0 rfl rfl 7 (by decide) (hT _ mw_468) (fun _ h9 => h9) rfl dX4_size_55 ?_
          refine lv_aload_n hx hb dX4_size_58 rfl (lv_at hl 0 rfl) ?_
          refine va_get (D := (dC, dI)) (ci := 4) (v := .int (nI z)) (C := RX4) (T := TX4) (N := 22) hx hb hT in_X4 hown hK hP 0 rfl rfl 6 (by decide) (hT _ mw_467) (fun _ h9 => h9) rfl dX4_size_59 ?_
          refine lv_iload_n hx hb dX4_size_62 rfl (lv_at hl 1 rfl) ?_
          refine dk_iast (q0 := 5) (t0 := 0) (i := z) hx hb hK hP hD hS rfl rfl rfl (by omega) (by decide) dX4_size_63 (fun H locs hP hD hS => ?_)
          have hP : va_P (dC, dI) vwCl (dk_R cI cII aR 0 du fr le fi ne (nI z) (upd ar z x0) pr sp ep pt cf cp ch la fd bc bp bh ba fs) H := hP
          have hD : va_D A (dk_R cI cII aR 0 du fr le fi ne (nI z) (upd ar z x0) pr sp ep pt cf cp ch la fd bc bp bh ba fs) := hD
          refine lv_aload_n hx hb dX4_size_64 rfl (lv_at hl 0 rfl) ?_
          refine va_get (D := (dC, dI)) (ci := 4) (v := .ref (aR 6)) (C := RX4) (T := TX4) (N := 22) hx hb hT in_X4 hown hK hP 0 rfl rfl 8 (by decide) (hT _ mw_469) (fun _ h9 => h9) rfl dX4_size_65 ?_
          refine lv_aload_n hx hb dX4_size_68 rfl (lv_at hl 0 rfl) ?_
          refine va_get (D := (dC, dI)) (ci := 4) (v := .int (nI z)) (C := RX4) (T := TX4) (N := 22) hx hb hT in_X4 hown hK hP 0 rfl rfl 6 (by decide) (hT _ mw_467) (fun _ h9 => h9) rfl dX4_size_69 ?_
          refine lv_iload_n hx hb dX4_size_72 rfl (lv_at hl 2 rfl) ?_
          refine dk_iast (q0 := 6) (t0 := 0) (i := z) hx hb hK hP hD hS rfl rfl rfl (by omega) (by decide) dX4_size_73 (fun H locs hP hD hS => ?_)
          have hP : va_P (dC, dI) vwCl (dk_R cI cII aR 0 du fr le fi ne (nI z) (upd ar z x0) (upd pr z x1) sp ep pt cf cp ch la fd bc bp bh ba fs) H := hP
          have hD : va_D A (dk_R cI cII aR 0 du fr le fi ne (nI z) (upd ar z x0) (upd pr z x1) sp ep pt cf cp ch la fd bc bp bh ba fs) := hD
          refine lv_aload_n hx hb dX4_size_74 rfl (lv_at hl 0 rfl) ?_
          refine lv_dup hx hb dX4_size_75 rfl ?_
          refine va_get (D := (dC, dI)) (ci := 4) (v := .int (nI z)) (C := RX4) (T := TX4) (N := 22) hx hb hT in_X4 hown hK hP 0 rfl rfl 6 (by decide) (hT _ mw_467) (fun _ h9 => h9) rfl dX4_size_76 ?_
          refine lv_iconst (v := 1) hx hb dX4_size_79 (by decide) ?_
          refine lv_iadd hx hb dX4_size_80 ?_
          refine lv_topi (fun y9 e9 => ?_)
          obtain rfl : y9 = nI (z + 1) := by rw [e9]; exact (nI_1 z)
          refine va_put (D := (dC, dI)) (ci := 4) (v := .int (nI (z + 1))) (ty := .int) (C := RX4) (T := TX4) (N := 22) hx hb hT in_X4 tyX4 tyX4_ok nmX4 hown hK hP hD hS 0 rfl rfl 6 (by decide) (hT _ mw_467) (fun _ h9 => h9) rfl (by decide +kernel) rfl rfl (Nat.le_of_ble_eq_true rfl) dX4_size_81 (fun H locs hP hD hS => ?_)
          have hP : va_P (dC, dI) vwCl (dk_R cI cII aR 0 du fr le fi ne (nI (z + 1)) (upd ar z x0) (upd pr z x1) sp ep pt cf cp ch la fd bc bp bh ba fs) H := hP
          have hD : va_D A (dk_R cI cII aR 0 du fr le fi ne (nI (z + 1)) (upd ar z x0) (upd pr z x1) sp ep pt cf cp ch la fd bc bp bh ba fs) := hD
          refine lv_aload_n hx hb dX4_size_84 rfl (lv_at hl 0 rfl) ?_
          refine va_get (D := (dC, dI)) (ci := 4) (v := .int (nI (z + 1))) (C := RX4) (T := TX4) (N := 22) hx hb hT in_X4 hown hK hP 0 rfl rfl 6 (by decide) (hT _ mw_467) (fun _ h9 => h9) rfl dX4_size_85 ?_
          refine lv_iconst (v := 1) hx hb dX4_size_88 (by decide) ?_
          refine lv_isub hx hb dX4_size_89 ?_
          refine lv_topi (fun y9 e9 => ?_)
          obtain rfl : y9 = nI z := by rw [e9]; exact (nI_pred z)
          have hk : rk_kSize z x0 x1 = 0 := by unfold rk_kSize; rw [if_neg c_10, if_neg c_22, if_neg c_34] <;> rfl
          simp only [if_pos hk] at hret
          rw [hk] at hret
          exact hret _ () _ _ _ _ rfl hP hD hS dX4_size_90
        · exact absurd (by decide) c_49
      · refine lv_iconst (v := 2) hx hb dX4_size_37 (by decide) ?_
        refine lv_goto (tgt := 42) hx hb dX4_size_38 (by decide) ?_
        refine va_put (D := (dC, dI)) (ci := 4) (v := .int 2) (ty := .int) (C := RX4) (T := TX4) (N := 22) hx hb hT in_X4 tyX4 tyX4_ok nmX4 hown hK hP hD hS 0 rfl rfl 0 (by decide) (hT _ mw_461) (fun _ h9 => h9) rfl (by decide +kernel) rfl rfl (Nat.le_of_ble_eq_true rfl) dX4_size_42 (fun H locs hP hD hS => ?_)
        have hP : va_P (dC, dI) vwCl (dk_R cI cII aR 2 du fr le fi ne (nI z) ar pr sp ep pt cf cp ch la fd bc bp bh ba fs) H := hP
        have hD : va_D A (dk_R cI cII aR 2 du fr le fi ne (nI z) ar pr sp ep pt cf cp ch la fd bc bp bh ba fs) := hD
        refine lv_aload_n hx hb dX4_size_45 rfl (lv_at hl 0 rfl) ?_
        refine va_get (D := (dC, dI)) (ci := 4) (v := .int 2) (C := RX4) (T := TX4) (N := 22) hx hb hT in_X4 hown hK hP 0 rfl rfl 0 (by decide) (hT _ mw_461) (fun _ h9 => h9) rfl dX4_size_46 ?_
        refine lv_if_le (tgt := 54) hx hb dX4_size_49 (by decide) (fun c_49 => ?_) (fun c_49 => ?_)
        · exact absurd c_49 (by decide)
        · refine lv_iconst (v := 0) hx hb dX4_size_52 (by decide) ?_
          have hk : rk_kSize z x0 x1 = 2 := by unfold rk_kSize; rw [if_neg c_10, if_neg c_22, if_pos c_34] <;> rfl
          have hk0 : ¬ rk_kSize z x0 x1 = 0 := by rw [hk]; decide
          simp only [if_neg hk0] at hret
          rw [hk] at hret
          exact hret _ () _ _ _ _ rfl hP hD hS dX4_size_53
    · refine lv_iconst (v := 1) hx hb dX4_size_25 (by decide) ?_
      refine lv_goto (tgt := 42) hx hb dX4_size_26 (by decide) ?_
      refine va_put (D := (dC, dI)) (ci := 4) (v := .int 1) (ty := .int) (C := RX4) (T := TX4) (N := 22) hx hb hT in_X4 tyX4 tyX4_ok nmX4 hown hK hP hD hS 0 rfl rfl 0 (by decide) (hT _ mw_461) (fun _ h9 => h9) rfl (by decide +kernel) rfl rfl (Nat.le_of_ble_eq_true rfl) dX4_size_42 (fun H locs hP hD hS => ?_)
      have hP : va_P (dC, dI) vwCl (dk_R cI cII aR 1 du fr le fi ne (nI z) ar pr sp ep pt cf cp ch la fd bc bp bh ba fs) H := hP
      have hD : va_D A (dk_R cI cII aR 1 du fr le fi ne (nI z) ar pr sp ep pt cf cp ch la fd bc bp bh ba fs) := hD
      refine lv_aload_n hx hb dX4_size_45 rfl (lv_at hl 0 rfl) ?_
      refine va_get (D := (dC, dI)) (ci := 4) (v := .int 1) (C := RX4) (T := TX4) (N := 22) hx hb hT in_X4 hown hK hP 0 rfl rfl 0 (by decide) (hT _ mw_461) (fun _ h9 => h9) rfl dX4_size_46 ?_
      refine lv_if_le (tgt := 54) hx hb dX4_size_49 (by decide) (fun c_49 => ?_) (fun c_49 => ?_)
      · exact absurd c_49 (by decide)
      · refine lv_iconst (v := 0) hx hb dX4_size_52 (by decide) ?_
        have hk : rk_kSize z x0 x1 = 1 := by unfold rk_kSize; rw [if_neg c_10, if_pos c_22] <;> rfl
        have hk0 : ¬ rk_kSize z x0 x1 = 0 := by rw [hk]; decide
        simp only [if_neg hk0] at hret
        rw [hk] at hret
        exact hret _ () _ _ _ _ rfl hP hD hS dX4_size_53
