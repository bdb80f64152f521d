set_option maxHeartbeats 4000000 in
set_option maxRecDepth 100000 in
/-- DuctSizesModel.fan -/
theorem c_X4_fan (l : Launch) (dC : Nat → ClassId) (dI : Nat → Nat → Nat) (cI cII : ClassId) (aR : Nat → Nat) (cd : Int32) (du : Int32) (fr : Nat → Int32) (le : Nat → Int32) (fi : Nat → Int32) (ne : Nat → Int32) (sz : Int32) (ar : Nat → Int32) (pr : Nat → Int32) (sp : Int32) (ep : Int32) (cf : Nat → Int32) (cp : Nat → Int32) (ch : Nat → Int32) (la : Nat → Int64) (fd : Int32) (bc : Int64) (bp : Int64) (bh : Nat → Int32) (ba : Nat → Int64) (fs : Nat → Int64) (k : Nat) (x0 : Int32) (x1 : Int32) (hz : Nat) (hk1 : k ≤ 5) : dk_Mi l yX4_fan wsX4_fan ({ frames := 1, cells := 0, slots := 0, locals := 25 }) (dC, dI) (dk_TR cI cII) [.ref (aR 0), .int x0, .int x1] (dk_R cI cII aR cd du fr le fi ne sz ar pr sp ep (nI k) cf cp ch la fd bc bp bh ba fs) hz (fun (r : Int32) (_ : Unit) => r = if rk_kFan cf cp k x0 x1 = 0 then nI (k + 1) else 0) (fun _ => dk_R cI cII aR (rk_kFan cf cp k x0 x1) du fr le fi ne sz ar pr sp ep (if rk_kFan cf cp k x0 x1 = 0 then (nI (k + 1)) else (nI k)) (if rk_kFan cf cp k x0 x1 = 0 then (upd cf k x0) else cf) (if rk_kFan cf cp k x0 x1 = 0 then (upd cp k x1) else cp) ch la fd bc bp bh ba fs) 0 0 := by
  refine dk_ofMi (cc := cX4_fan) (maxL := 4) (by decide) rfl (Nat.le_of_ble_eq_true rfl) ?_
  intro p e s m args below meth c A ls Q ⟨hx, hb, hml, hts, hown, hnm⟩ hsz hK hP hD hA hS hl hret
  have hT : ∀ w ∈ dk_tbl, w.before args s = true := fun w h => hts w (List.mem_cons_of_mem _ h)
  have hown : s.vm.findClass RX4 = some m.cls := hown
  have hl : lv_has ls 4 [(0, .ref (aR 0)), (1, .int x0), (2, .int x1)] := hl
  refine lv_aload_n hx hb dX4_fan_0 rfl (lv_at hl 0 rfl) ?_
  refine va_get (D := (dC, dI)) (ci := 4) (v := .int (nI k)) (C := RX4) (T := TX4) (N := 22) hx hb hT in_X4 hown hK hP 0 rfl rfl 11 (by decide) (hT _ mw_472) (fun _ h9 => h9) rfl dX4_fan_1 ?_
  refine lv_if_le (tgt := 41) hx hb dX4_fan_4 (by decide) (fun c_4 => ?_) (fun c_4 => ?_)
  · refine lv_iconst (v := 0) hx hb dX4_fan_41 (by decide) ?_
    refine lv_istore_n (lv' := [(3, .int 0), (0, .ref (aR 0)), (1, .int x0), (2, .int x1)]) hx hb dX4_fan_42 rfl hl (by decide) rfl (fun ls hl => ?_)
    refine lv_aload_n hx hb dX4_fan_43 rfl (lv_at hl 1 rfl) ?_
    refine lv_iload_n hx hb dX4_fan_44 rfl (lv_at hl 2 rfl) ?_
    refine lv_i2l (v := (x0).toInt64) hx hb dX4_fan_45 rfl ?_
    refine lv_lconst (v := 0) hx hb dX4_fan_46 (by decide) ?_
    refine lv_ldc2 (v := 10000) hx hb hown (hT _ mw_564) dX4_fan_47 ?_
    refine dk_csi (va_runS (As := [.long ((x0).toInt64), .long 0, .long 10000]) (rest := [.ref (aR 0)]) ⟨hx, hb, hml, hown, hT⟩ (c_X4_isIn l dC dI cI cII ((x0).toInt64) 0 10000) (va_cwS 3 hT (dk_gS mw_537 mw_538 mw_27 mw_539) rfl rfl rfl (by decide +kernel) ⟨(Nat.le_of_ble_eq_true rfl), (Nat.le_of_ble_eq_true rfl)⟩) (dk_preRS hK hP [] rfl) rfl rfl hl.1 rfl (lv_room (Nat.le_of_ble_eq_true rfl)) dX4_fan_50 ⟨Nat.le_of_ble_eq_true rfl, Nat.le_of_ble_eq_true rfl⟩) (fun r9 h9 => ?_)
    subst h9
    refine lv_if_eq (tgt := 68) hx hb dX4_fan_53 (by decide) (fun c_53 => ?_) (fun c_53 => ?_)
    · refine lv_iconst (v := 1) hx hb dX4_fan_68 (by decide) ?_
      refine lv_goto (tgt := 89) hx hb dX4_fan_69 (by decide) ?_
      refine va_put (D := (dC, dI)) (ci := 4) (v := .int 1) (ty := .int) (C := RX4) (T := TX4) (N := 22) hx hb hT in_X4 tyX4 tyX4_ok nmX4 hown hK hP hD hS 0 rfl rfl 0 (by decide) (hT _ mw_461) (fun _ h9 => h9) rfl (by decide +kernel) rfl rfl (Nat.le_of_ble_eq_true rfl) dX4_fan_89 (fun H locs hP hD hS => ?_)
      have hP : va_P (dC, dI) vwCl (dk_R cI cII aR 1 du fr le fi ne sz ar pr sp ep (nI k) cf cp ch la fd bc bp bh ba fs) H := hP
      have hD : va_D A (dk_R cI cII aR 1 du fr le fi ne sz ar pr sp ep (nI k) cf cp ch la fd bc bp bh ba fs) := hD
      refine lv_aload_n hx hb dX4_fan_92 rfl (lv_at hl 1 rfl) ?_
      refine va_get (D := (dC, dI)) (ci := 4) (v := .int 1) (C := RX4) (T := TX4) (N := 22) hx hb hT in_X4 hown hK hP 0 rfl rfl 0 (by decide) (hT _ mw_461) (fun _ h9 => h9) rfl dX4_fan_93 ?_
      refine lv_if_le (tgt := 101) hx hb dX4_fan_96 (by decide) (fun c_96 => ?_) (fun c_96 => ?_)
      · exact absurd c_96 (by decide)
      · refine lv_iconst (v := 0) hx hb dX4_fan_99 (by decide) ?_
        have hk : rk_kFan cf cp k x0 x1 = 1 := by unfold rk_kFan rk_late; rw [if_pos c_53] <;> rfl
        have hk0 : ¬ rk_kFan cf cp k x0 x1 = 0 := by rw [hk]; decide
        simp only [if_neg hk0] at hret
        rw [hk] at hret
        exact hret _ () _ _ _ _ rfl hP hD hS dX4_fan_100
    · refine lv_iload_n hx hb dX4_fan_56 rfl (lv_at hl 3 rfl) ?_
      refine lv_i2l (v := (x1).toInt64) hx hb dX4_fan_57 rfl ?_
      refine lv_lconst (v := 0) hx hb dX4_fan_58 (by decide) ?_
      refine lv_ldc2 (v := 300) hx hb hown (hT _ mw_565) dX4_fan_59 ?_
      refine dk_csi (va_runS (As := [.long ((x1).toInt64), .long 0, .long 300]) (rest := [.ref (aR 0)]) ⟨hx, hb, hml, hown, hT⟩ (c_X4_isIn l dC dI cI cII ((x1).toInt64) 0 300) (va_cwS 3 hT (dk_gS mw_537 mw_538 mw_27 mw_539) rfl rfl rfl (by decide +kernel) ⟨(Nat.le_of_ble_eq_true rfl), (Nat.le_of_ble_eq_true rfl)⟩) (dk_preRS hK hP [] rfl) rfl rfl hl.1 rfl (lv_room (Nat.le_of_ble_eq_true rfl)) dX4_fan_62 ⟨Nat.le_of_ble_eq_true rfl, Nat.le_of_ble_eq_true rfl⟩) (fun r9 h9 => ?_)
      subst h9
      refine lv_if_ne (tgt := 72) hx hb dX4_fan_65 (by decide) (fun c_65 => ?_) (fun c_65 => ?_)
      · refine lv_aload_n hx hb dX4_fan_72 rfl (lv_at hl 1 rfl) ?_
        refine va_get (D := (dC, dI)) (ci := 4) (v := .int (nI k)) (C := RX4) (T := TX4) (N := 22) hx hb hT in_X4 hown hK hP 0 rfl rfl 11 (by decide) (hT _ mw_472) (fun _ h9 => h9) rfl dX4_fan_73 ?_
        refine lv_iconst (v := 5) hx hb dX4_fan_76 (by decide) ?_
        refine lv_icmp_eq (tgt := 84) hx hb dX4_fan_77 (by decide) (fun c_77 => ?_) (fun c_77 => ?_)
        · refine lv_iconst (v := 2) hx hb dX4_fan_84 (by decide) ?_
          refine lv_goto (tgt := 89) hx hb dX4_fan_85 (by decide) ?_
          refine va_put (D := (dC, dI)) (ci := 4) (v := .int 2) (ty := .int) (C := RX4) (T := TX4) (N := 22) hx hb hT in_X4 tyX4 tyX4_ok nmX4 hown hK hP hD hS 0 rfl rfl 0 (by decide) (hT _ mw_461) (fun _ h9 => h9) rfl (by decide +kernel) rfl rfl (Nat.le_of_ble_eq_true rfl) dX4_fan_89 (fun H locs hP hD hS => ?_)
          have hP : va_P (dC, dI) vwCl (dk_R cI cII aR 2 du fr le fi ne sz ar pr sp ep (nI k) cf cp ch la fd bc bp bh ba fs) H := hP
          have hD : va_D A (dk_R cI cII aR 2 du fr le fi ne sz ar pr sp ep (nI k) cf cp ch la fd bc bp bh ba fs) := hD
          refine lv_aload_n hx hb dX4_fan_92 rfl (lv_at hl 1 rfl) ?_
          refine va_get (D := (dC, dI)) (ci := 4) (v := .int 2) (C := RX4) (T := TX4) (N := 22) hx hb hT in_X4 hown hK hP 0 rfl rfl 0 (by decide) (hT _ mw_461) (fun _ h9 => h9) rfl dX4_fan_93 ?_
          refine lv_if_le (tgt := 101) hx hb dX4_fan_96 (by decide) (fun c_96 => ?_) (fun c_96 => ?_)
          · exact absurd c_96 (by decide)
          · refine lv_iconst (v := 0) hx hb dX4_fan_99 (by decide) ?_
            have hk : rk_kFan cf cp k x0 x1 = 2 := by unfold rk_kFan rk_late; rw [if_neg c_53, if_neg c_65, if_pos c_77] <;> rfl
            have hk0 : ¬ rk_kFan cf cp k x0 x1 = 0 := by rw [hk]; decide
            simp only [if_neg hk0] at hret
            rw [hk] at hret
            exact hret _ () _ _ _ _ rfl hP hD hS dX4_fan_100
        · refine lv_iload_n hx hb dX4_fan_80 rfl (lv_at hl 0 rfl) ?_
          refine lv_if_eq (tgt := 88) hx hb dX4_fan_81 (by decide) (fun c_81 => ?_) (fun c_81 => ?_)
          · refine lv_iconst (v := 0) hx hb dX4_fan_88 (by decide) ?_
            refine va_put (D := (dC, dI)) (ci := 4) (v := .int 0) (ty := .int) (C := RX4) (T := TX4) (N := 22) hx hb hT in_X4 tyX4 tyX4_ok nmX4 hown hK hP hD hS 0 rfl rfl 0 (by decide) (hT _ mw_461) (fun _ h9 => h9) rfl (by decide +kernel) rfl rfl (Nat.le_of_ble_eq_true rfl) dX4_fan_89 (fun H locs hP hD hS => ?_)
            have hP : va_P (dC, dI) vwCl (dk_R cI cII aR 0 du fr le fi ne sz ar pr sp ep (nI k) cf cp ch la fd bc bp bh ba fs) H := hP
            have hD : va_D A (dk_R cI cII aR 0 du fr le fi ne sz ar pr sp ep (nI k) cf cp ch la fd bc bp bh ba fs) := hD
            refine lv_aload_n hx hb dX4_fan_92 rfl (lv_at hl 1 rfl) ?_
            refine va_get (D := (dC, dI)) (ci := 4) (v := .int 0) (C := RX4) (T := TX4) (N := 22) hx hb hT in_X4 hown hK hP 0 rfl rfl 0 (by decide) (hT _ mw_461) (fun _ h9 => h9) rfl dX4_fan_93 ?_
            refine lv_if_le (tgt := 101) hx hb dX4_fan_96 (by decide) (fun c_96 => ?_) (fun c_96 => ?_)
            · have hk5 : k < 5 := (Nat.lt_or_ge k 5).elim id (fun q => absurd (by rw [show k = 5 by omega]; rfl) c_77)
              refine lv_aload_n hx hb dX4_fan_101 rfl (lv_at hl 1 rfl) ?_
              refine va_get (D := (dC, dI)) (ci := 4) (v := .ref (aR 7)) (C := RX4) (T := TX4) (N := 22) hx hb hT in_X4 hown hK hP 0 rfl rfl 12 (by decide) (hT _ mw_473) (fun _ h9 => h9) rfl dX4_fan_102 ?_
              refine lv_aload_n hx hb dX4_fan_105 rfl (lv_at hl 1 rfl) ?_
              refine va_get (D := (dC, dI)) (ci := 4) (v := .int (nI k)) (C := RX4) (T := TX4) (N := 22) hx hb hT in_X4 hown hK hP 0 rfl rfl 11 (by decide) (hT _ mw_472) (fun _ h9 => h9) rfl dX4_fan_106 ?_
              refine lv_iload_n hx hb dX4_fan_109 rfl (lv_at hl 2 rfl) ?_
              refine dk_iast (q0 := 7) (t0 := 0) (i := k) hx hb hK hP hD hS rfl rfl rfl (by omega) (by decide) dX4_fan_110 (fun H locs hP hD hS => ?_)
              have hP : va_P (dC, dI) vwCl (dk_R cI cII aR 0 du fr le fi ne sz ar pr sp ep (nI k) (upd cf k x0) cp ch la fd bc bp bh ba fs) H := hP
              have hD : va_D A (dk_R cI cII aR 0 du fr le fi ne sz ar pr sp ep (nI k) (upd cf k x0) cp ch la fd bc bp bh ba fs) := hD
              refine lv_aload_n hx hb dX4_fan_111 rfl (lv_at hl 1 rfl) ?_
              refine va_get (D := (dC, dI)) (ci := 4) (v := .ref (aR 8)) (C := RX4) (T := TX4) (N := 22) hx hb hT in_X4 hown hK hP 0 rfl rfl 13 (by decide) (hT _ mw_474) (fun _ h9 => h9) rfl dX4_fan_112 ?_
              refine lv_aload_n hx hb dX4_fan_115 rfl (lv_at hl 1 rfl) ?_
              refine va_get (D := (dC, dI)) (ci := 4) (v := .int (nI k)) (C := RX4) (T := TX4) (N := 22) hx hb hT in_X4 hown hK hP 0 rfl rfl 11 (by decide) (hT _ mw_472) (fun _ h9 => h9) rfl dX4_fan_116 ?_
              refine lv_iload_n hx hb dX4_fan_119 rfl (lv_at hl 3 rfl) ?_
              refine dk_iast (q0 := 8) (t0 := 0) (i := k) hx hb hK hP hD hS rfl rfl rfl (by omega) (by decide) dX4_fan_120 (fun H locs hP hD hS => ?_)
              have hP : va_P (dC, dI) vwCl (dk_R cI cII aR 0 du fr le fi ne sz ar pr sp ep (nI k) (upd cf k x0) (upd cp k x1) ch la fd bc bp bh ba fs) H := hP
              have hD : va_D A (dk_R cI cII aR 0 du fr le fi ne sz ar pr sp ep (nI k) (upd cf k x0) (upd cp k x1) ch la fd bc bp bh ba fs) := hD
              refine lv_aload_n hx hb dX4_fan_121 rfl (lv_at hl 1 rfl) ?_
              refine lv_dup hx hb dX4_fan_122 rfl ?_
              refine va_get (D := (dC, dI)) (ci := 4) (v := .int (nI k)) (C := RX4) (T := TX4) (N := 22) hx hb hT in_X4 hown hK hP 0 rfl rfl 11 (by decide) (hT _ mw_472) (fun _ h9 => h9) rfl dX4_fan_123 ?_
              refine lv_iconst (v := 1) hx hb dX4_fan_126 (by decide) ?_
              refine lv_iadd hx hb dX4_fan_127 ?_
              refine lv_topi (fun y9 e9 => ?_)
              obtain rfl : y9 = nI (k + 1) := by rw [e9]; exact (nI_1 k)
              refine va_put (D := (dC, dI)) (ci := 4) (v := .int (nI (k + 1))) (ty := .int) (C := RX4) (T := TX4) (N := 22) hx hb hT in_X4 tyX4 tyX4_ok nmX4 hown hK hP hD hS 0 rfl rfl 11 (by decide) (hT _ mw_472) (fun _ h9 => h9) rfl (by decide +kernel) rfl rfl (Nat.le_of_ble_eq_true rfl) dX4_fan_128 (fun H locs hP hD hS => ?_)
              have hP : va_P (dC, dI) vwCl (dk_R cI cII aR 0 du fr le fi ne sz ar pr sp ep (nI (k + 1)) (upd cf k x0) (upd cp k x1) ch la fd bc bp bh ba fs) H := hP
              have hD : va_D A (dk_R cI cII aR 0 du fr le fi ne sz ar pr sp ep (nI (k + 1)) (upd cf k x0) (upd cp k x1) ch la fd bc bp bh ba fs) := hD
              refine lv_aload_n hx hb dX4_fan_131 rfl (lv_at hl 1 rfl) ?_
              refine va_get (D := (dC, dI)) (ci := 4) (v := .int (nI (k + 1))) (C := RX4) (T := TX4) (N := 22) hx hb hT in_X4 hown hK hP 0 rfl rfl 11 (by decide) (hT _ mw_472) (fun _ h9 => h9) rfl dX4_fan_132 ?_
              have hk : rk_kFan cf cp k x0 x1 = 0 := by unfold rk_kFan rk_late; rw [if_neg c_53, if_neg c_65, if_neg c_77, if_pos c_4] <;> rfl
              simp only [if_pos hk] at hret
              rw [hk] at hret
              exact hret _ () _ _ _ _ rfl hP hD hS dX4_fan_135
            · exact absurd (by decide) c_96
          · exact absurd (by decide) c_81
      · refine lv_iconst (v := 1) hx hb dX4_fan_68 (by decide) ?_
        refine lv_goto (tgt := 89) hx hb dX4_fan_69 (by decide) ?_
        refine va_put (D := (dC, dI)) (ci := 4) (v := .int 1) (ty := .int) (C := RX4) (T := TX4) (N := 22) hx hb hT in_X4 tyX4 tyX4_ok nmX4 hown hK hP hD hS 0 rfl rfl 0 (by decide) (hT _ mw_461) (fun _ h9 => h9) rfl (by decide +kernel) rfl rfl (Nat.le_of_ble_eq_true rfl) dX4_fan_89 (fun H locs hP hD hS => ?_)
        have hP : va_P (dC, dI) vwCl (dk_R cI cII aR 1 du fr le fi ne sz ar pr sp ep (nI k) cf cp ch la fd bc bp bh ba fs) H := hP
        have hD : va_D A (dk_R cI cII aR 1 du fr le fi ne sz ar pr sp ep (nI k) cf cp ch la fd bc bp bh ba fs) := hD
        refine lv_aload_n hx hb dX4_fan_92 rfl (lv_at hl 1 rfl) ?_
        refine va_get (D := (dC, dI)) (ci := 4) (v := .int 1) (C := RX4) (T := TX4) (N := 22) hx hb hT in_X4 hown hK hP 0 rfl rfl 0 (by decide) (hT _ mw_461) (fun _ h9 => h9) rfl dX4_fan_93 ?_
        refine lv_if_le (tgt := 101) hx hb dX4_fan_96 (by decide) (fun c_96 => ?_) (fun c_96 => ?_)
        · exact absurd c_96 (by decide)
        · refine lv_iconst (v := 0) hx hb dX4_fan_99 (by decide) ?_
          have hk : rk_kFan cf cp k x0 x1 = 1 := by unfold rk_kFan rk_late; rw [if_neg c_53, if_pos c_65] <;> rfl
          have hk0 : ¬ rk_kFan cf cp k x0 x1 = 0 := by rw [hk]; decide
          simp only [if_neg hk0] at hret
          rw [hk] at hret
          exact hret _ () _ _ _ _ rfl hP hD hS dX4_fan_100
  · have hk0 : 0 < k := Nat.pos_of_ne_zero (fun h => c_4 (by rw [h]; exact Int32.le_refl _))
    refine lv_iload_n hx hb dX4_fan_7 rfl (lv_at hl 1 rfl) ?_
    refine lv_aload_n hx hb dX4_fan_8 rfl (lv_at hl 0 rfl) ?_
    refine va_get (D := (dC, dI)) (ci := 4) (v := .ref (aR 7)) (C := RX4) (T := TX4) (N := 22) hx hb hT in_X4 hown hK hP 0 rfl rfl 12 (by decide) (hT _ mw_473) (fun _ h9 => h9) rfl dX4_fan_9 ?_
    refine lv_aload_n hx hb dX4_fan_12 rfl (lv_at hl 0 rfl) ?_
    refine va_get (D := (dC, dI)) (ci := 4) (v := .int (nI k)) (C := RX4) (T := TX4) (N := 22) hx hb hT in_X4 hown hK hP 0 rfl rfl 11 (by decide) (hT _ mw_472) (fun _ h9 => h9) rfl dX4_fan_13 ?_
    refine lv_iconst (v := 1) hx hb dX4_fan_16 (by decide) ?_
    refine lv_isub hx hb dX4_fan_17 ?_
    refine lv_topi (fun y9 e9 => ?_)
    obtain rfl : y9 = nI (k - 1) := by rw [e9]; exact (dk_m1 hk0)
    refine dk_iald (q0 := 7) (t0 := 0) (i := k - 1) hx hb hK hP rfl rfl rfl (by omega) (by decide) dX4_fan_18 ?_
    refine lv_icmp_le (tgt := 37) hx hb dX4_fan_19 (by decide) (fun c_19 => ?_) (fun c_19 => ?_)
    · refine lv_iconst (v := 1) hx hb dX4_fan_37 (by decide) ?_
      refine lv_goto (tgt := 42) hx hb dX4_fan_38 (by decide) ?_
      refine lv_istore_n (lv' := [(3, .int 1), (0, .ref (aR 0)), (1, .int x0), (2, .int x1)]) hx hb dX4_fan_42 rfl hl (by decide) rfl (fun ls hl => ?_)
      refine lv_aload_n hx hb dX4_fan_43 rfl (lv_at hl 1 rfl) ?_
      refine lv_iload_n hx hb dX4_fan_44 rfl (lv_at hl 2 rfl) ?_
      refine lv_i2l (v := (x0).toInt64) hx hb dX4_fan_45 rfl ?_
      refine lv_lconst (v := 0) hx hb dX4_fan_46 (by decide) ?_
      refine lv_ldc2 (v := 10000) hx hb hown (hT _ mw_564) dX4_fan_47 ?_
      refine dk_csi (va_runS (As := [.long ((x0).toInt64), .long 0, .long 10000]) (rest := [.ref (aR 0)]) ⟨hx, hb, hml, hown, hT⟩ (c_X4_isIn l dC dI cI cII ((x0).toInt64) 0 10000) (va_cwS 3 hT (dk_gS mw_537 mw_538 mw_27 mw_539) rfl rfl rfl (by decide +kernel) ⟨(Nat.le_of_ble_eq_true rfl), (Nat.le_of_ble_eq_true rfl)⟩) (dk_preRS hK hP [] rfl) rfl rfl hl.1 rfl (lv_room (Nat.le_of_ble_eq_true rfl)) dX4_fan_50 ⟨Nat.le_of_ble_eq_true rfl, Nat.le_of_ble_eq_true rfl⟩) (fun r9 h9 => ?_)
      subst h9
      refine lv_if_eq (tgt := 68) hx hb dX4_fan_53 (by decide) (fun c_53 => ?_) (fun c_53 => ?_)
      · refine lv_iconst (v := 1) hx hb dX4_fan_68 (by decide) ?_
        refine lv_goto (tgt := 89) hx hb dX4_fan_69 (by decide) ?_
        refine va_put (D := (dC, dI)) (ci := 4) (v := .int 1) (ty := .int) (C := RX4) (T := TX4) (N := 22) hx hb hT in_X4 tyX4 tyX4_ok nmX4 hown hK hP hD hS 0 rfl rfl 0 (by decide) (hT _ mw_461) (fun _ h9 => h9) rfl (by decide +kernel) rfl rfl (Nat.le_of_ble_eq_true rfl) dX4_fan_89 (fun H locs hP hD hS => ?_)
        have hP : va_P (dC, dI) vwCl (dk_R cI cII aR 1 du fr le fi ne sz ar pr sp ep (nI k) cf cp ch la fd bc bp bh ba fs) H := hP
        have hD : va_D A (dk_R cI cII aR 1 du fr le fi ne sz ar pr sp ep (nI k) cf cp ch la fd bc bp bh ba fs) := hD
        refine lv_aload_n hx hb dX4_fan_92 rfl (lv_at hl 1 rfl) ?_
        refine va_get (D := (dC, dI)) (ci := 4) (v := .int 1) (C := RX4) (T := TX4) (N := 22) hx hb hT in_X4 hown hK hP 0 rfl rfl 0 (by decide) (hT _ mw_461) (fun _ h9 => h9) rfl dX4_fan_93 ?_
        refine lv_if_le (tgt := 101) hx hb dX4_fan_96 (by decide) (fun c_96 => ?_) (fun c_96 => ?_)
        · exact absurd c_96 (by decide)
        · refine lv_iconst (v := 0) hx hb dX4_fan_99 (by decide) ?_
          have hk : rk_kFan cf cp k x0 x1 = 1 := by unfold rk_kFan rk_late; rw [if_pos c_53] <;> rfl
          have hk0 : ¬ rk_kFan cf cp k x0 x1 = 0 := by rw [hk]; decide
          simp only [if_neg hk0] at hret
          rw [hk] at hret
          exact hret _ () _ _ _ _ rfl hP hD hS dX4_fan_100
      · refine lv_iload_n hx hb dX4_fan_56 rfl (lv_at hl 3 rfl) ?_
        refine lv_i2l (v := (x1).toInt64) hx hb dX4_fan_57 rfl ?_
        refine lv_lconst (v := 0) hx hb dX4_fan_58 (by decide) ?_
        refine lv_ldc2 (v := 300) hx hb hown (hT _ mw_565) dX4_fan_59 ?_
        refine dk_csi (va_runS (As := [.long ((x1).toInt64), .long 0, .long 300]) (rest := [.ref (aR 0)]) ⟨hx, hb, hml, hown, hT⟩ (c_X4_isIn l dC dI cI cII ((x1).toInt64) 0 300) (va_cwS 3 hT (dk_gS mw_537 mw_538 mw_27 mw_539) rfl rfl rfl (by decide +kernel) ⟨(Nat.le_of_ble_eq_true rfl), (Nat.le_of_ble_eq_true rfl)⟩) (dk_preRS hK hP [] rfl) rfl rfl hl.1 rfl (lv_room (Nat.le_of_ble_eq_true rfl)) dX4_fan_62 ⟨Nat.le_of_ble_eq_true rfl, Nat.le_of_ble_eq_true rfl⟩) (fun r9 h9 => ?_)
        subst h9
        refine lv_if_ne (tgt := 72) hx hb dX4_fan_65 (by decide) (fun c_65 => ?_) (fun c_65 => ?_)
        · refine lv_aload_n hx hb dX4_fan_72 rfl (lv_at hl 1 rfl) ?_
          refine va_get (D := (dC, dI)) (ci := 4) (v := .int (nI k)) (C := RX4) (T := TX4) (N := 22) hx hb hT in_X4 hown hK hP 0 rfl rfl 11 (by decide) (hT _ mw_472) (fun _ h9 => h9) rfl dX4_fan_73 ?_
          refine lv_iconst (v := 5) hx hb dX4_fan_76 (by decide) ?_
          refine lv_icmp_eq (tgt := 84) hx hb dX4_fan_77 (by decide) (fun c_77 => ?_) (fun c_77 => ?_)
          · refine lv_iconst (v := 2) hx hb dX4_fan_84 (by decide) ?_
            refine lv_goto (tgt := 89) hx hb dX4_fan_85 (by decide) ?_
            refine va_put (D := (dC, dI)) (ci := 4) (v := .int 2) (ty := .int) (C := RX4) (T := TX4) (N := 22) hx hb hT in_X4 tyX4 tyX4_ok nmX4 hown hK hP hD hS 0 rfl rfl 0 (by decide) (hT _ mw_461) (fun _ h9 => h9) rfl (by decide +kernel) rfl rfl (Nat.le_of_ble_eq_true rfl) dX4_fan_89 (fun H locs hP hD hS => ?_)
            have hP : va_P (dC, dI) vwCl (dk_R cI cII aR 2 du fr le fi ne sz ar pr sp ep (nI k) cf cp ch la fd bc bp bh ba fs) H := hP
            have hD : va_D A (dk_R cI cII aR 2 du fr le fi ne sz ar pr sp ep (nI k) cf cp ch la fd bc bp bh ba fs) := hD
            refine lv_aload_n hx hb dX4_fan_92 rfl (lv_at hl 1 rfl) ?_
            refine va_get (D := (dC, dI)) (ci := 4) (v := .int 2) (C := RX4) (T := TX4) (N := 22) hx hb hT in_X4 hown hK hP 0 rfl rfl 0 (by decide) (hT _ mw_461) (fun _ h9 => h9) rfl dX4_fan_93 ?_
            refine lv_if_le (tgt := 101) hx hb dX4_fan_96 (by decide) (fun c_96 => ?_) (fun c_96 => ?_)
            · exact absurd c_96 (by decide)
            · refine lv_iconst (v := 0) hx hb dX4_fan_99 (by decide) ?_
              have hk : rk_kFan cf cp k x0 x1 = 2 := by unfold rk_kFan rk_late; rw [if_neg c_53, if_neg c_65, if_pos c_77] <;> rfl
              have hk0 : ¬ rk_kFan cf cp k x0 x1 = 0 := by rw [hk]; decide
              simp only [if_neg hk0] at hret
              rw [hk] at hret
              exact hret _ () _ _ _ _ rfl hP hD hS dX4_fan_100
          · refine lv_iload_n hx hb dX4_fan_80 rfl (lv_at hl 0 rfl) ?_
            refine lv_if_eq (tgt := 88) hx hb dX4_fan_81 (by decide) (fun c_81 => ?_) (fun c_81 => ?_)
            · exact absurd c_81 (by decide)
            · refine lv_iconst (v := 2) hx hb dX4_fan_84 (by decide) ?_
              refine lv_goto (tgt := 89) hx hb dX4_fan_85 (by decide) ?_
              refine va_put (D := (dC, dI)) (ci := 4) (v := .int 2) (ty := .int) (C := RX4) (T := TX4) (N := 22) hx hb hT in_X4 tyX4 tyX4_ok nmX4 hown hK hP hD hS 0 rfl rfl 0 (by decide) (hT _ mw_461) (fun _ h9 => h9) rfl (by decide +kernel) rfl rfl (Nat.le_of_ble_eq_true rfl) dX4_fan_89 (fun H locs hP hD hS => ?_)
              have hP : va_P (dC, dI) vwCl (dk_R cI cII aR 2 du fr le fi ne sz ar pr sp ep (nI k) cf cp ch la fd bc bp bh ba fs) H := hP
              have hD : va_D A (dk_R cI cII aR 2 du fr le fi ne sz ar pr sp ep (nI k) cf cp ch la fd bc bp bh ba fs) := hD
              refine lv_aload_n hx hb dX4_fan_92 rfl (lv_at hl 1 rfl) ?_
              refine va_get (D := (dC, dI)) (ci := 4) (v := .int 2) (C := RX4) (T := TX4) (N := 22) hx hb hT in_X4 hown hK hP 0 rfl rfl 0 (by decide) (hT _ mw_461) (fun _ h9 => h9) rfl dX4_fan_93 ?_
              refine lv_if_le (tgt := 101) hx hb dX4_fan_96 (by decide) (fun c_96 => ?_) (fun c_96 => ?_)
              · exact absurd c_96 (by decide)
              · refine lv_iconst (v := 0) hx hb dX4_fan_99 (by decide) ?_
                have hk : rk_kFan cf cp k x0 x1 = 2 := by unfold rk_kFan rk_late; rw [if_neg c_53, if_neg c_65, if_neg c_77, if_neg c_4, if_pos c_19] <;> rfl
                have hk0 : ¬ rk_kFan cf cp k x0 x1 = 0 := by rw [hk]; decide
                simp only [if_neg hk0] at hret
                rw [hk] at hret
                exact hret _ () _ _ _ _ rfl hP hD hS dX4_fan_100
        · refine lv_iconst (v := 1) hx hb dX4_fan_68 (by decide) ?_
          refine lv_goto (tgt := 89) hx hb dX4_fan_69 (by decide) ?_
          refine va_put (D := (dC, dI)) (ci := 4) (v := .int 1) (ty := .int) (C := RX4) (T := TX4) (N := 22) hx hb hT in_X4 tyX4 tyX4_ok nmX4 hown hK hP hD hS 0 rfl rfl 0 (by decide) (hT _ mw_461) (fun _ h9 => h9) rfl (by decide +kernel) rfl rfl (Nat.le_of_ble_eq_true rfl) dX4_fan_89 (fun H locs hP hD hS => ?_)
          have hP : va_P (dC, dI) vwCl (dk_R cI cII aR 1 du fr le fi ne sz ar pr sp ep (nI k) cf cp ch la fd bc bp bh ba fs) H := hP
          have hD : va_D A (dk_R cI cII aR 1 du fr le fi ne sz ar pr sp ep (nI k) cf cp ch la fd bc bp bh ba fs) := hD
          refine lv_aload_n hx hb dX4_fan_92 rfl (lv_at hl 1 rfl) ?_
          refine va_get (D := (dC, dI)) (ci := 4) (v := .int 1) (C := RX4) (T := TX4) (N := 22) hx hb hT in_X4 hown hK hP 0 rfl rfl 0 (by decide) (hT _ mw_461) (fun _ h9 => h9) rfl dX4_fan_93 ?_
          refine lv_if_le (tgt := 101) hx hb dX4_fan_96 (by decide) (fun c_96 => ?_) (fun c_96 => ?_)
          · exact absurd c_96 (by decide)
          · refine lv_iconst (v := 0) hx hb dX4_fan_99 (by decide) ?_
            have hk : rk_kFan cf cp k x0 x1 = 1 := by unfold rk_kFan rk_late; rw [if_neg c_53, if_pos c_65] <;> rfl
            have hk0 : ¬ rk_kFan cf cp k x0 x1 = 0 := by rw [hk]; decide
            simp only [if_neg hk0] at hret
            rw [hk] at hret
            exact hret _ () _ _ _ _ rfl hP hD hS dX4_fan_100
    · refine lv_iload_n hx hb dX4_fan_22 rfl (lv_at hl 2 rfl) ?_
      refine lv_aload_n hx hb dX4_fan_23 rfl (lv_at hl 0 rfl) ?_
      refine va_get (D := (dC, dI)) (ci := 4) (v := .ref (aR 8)) (C := RX4) (T := TX4) (N := 22) hx hb hT in_X4 hown hK hP 0 rfl rfl 13 (by decide) (hT _ mw_474) (fun _ h9 => h9) rfl dX4_fan_24 ?_
      refine lv_aload_n hx hb dX4_fan_27 rfl (lv_at hl 0 rfl) ?_
      refine va_get (D := (dC, dI)) (ci := 4) (v := .int (nI k)) (C := RX4) (T := TX4) (N := 22) hx hb hT in_X4 hown hK hP 0 rfl rfl 11 (by decide) (hT _ mw_472) (fun _ h9 => h9) rfl dX4_fan_28 ?_
      refine lv_iconst (v := 1) hx hb dX4_fan_31 (by decide) ?_
      refine lv_isub hx hb dX4_fan_32 ?_
      refine lv_topi (fun y9 e9 => ?_)
      obtain rfl : y9 = nI (k - 1) := by rw [e9]; exact (dk_m1 hk0)
      refine dk_iald (q0 := 8) (t0 := 0) (i := k - 1) hx hb hK hP rfl rfl rfl (by omega) (by decide) dX4_fan_33 ?_
      refine lv_icmp_le (tgt := 41) hx hb dX4_fan_34 (by decide) (fun c_34 => ?_) (fun c_34 => ?_)
      · refine lv_iconst (v := 0) hx hb dX4_fan_41 (by decide) ?_
        refine lv_istore_n (lv' := [(3, .int 0), (0, .ref (aR 0)), (1, .int x0), (2, .int x1)]) hx hb dX4_fan_42 rfl hl (by decide) rfl (fun ls hl => ?_)
        refine lv_aload_n hx hb dX4_fan_43 rfl (lv_at hl 1 rfl) ?_
        refine lv_iload_n hx hb dX4_fan_44 rfl (lv_at hl 2 rfl) ?_
        refine lv_i2l (v := (x0).toInt64) hx hb dX4_fan_45 rfl ?_
        refine lv_lconst (v := 0) hx hb dX4_fan_46 (by decide) ?_
        refine lv_ldc2 (v := 10000) hx hb hown (hT _ mw_564) dX4_fan_47 ?_
        refine dk_csi (va_runS (As := [.long ((x0).toInt64), .long 0, .long 10000]) (rest := [.ref (aR 0)]) ⟨hx, hb, hml, hown, hT⟩ (c_X4_isIn l dC dI cI cII ((x0).toInt64) 0 10000) (va_cwS 3 hT (dk_gS mw_537 mw_538 mw_27 mw_539) rfl rfl rfl (by decide +kernel) ⟨(Nat.le_of_ble_eq_true rfl), (Nat.le_of_ble_eq_true rfl)⟩) (dk_preRS hK hP [] rfl) rfl rfl hl.1 rfl (lv_room (Nat.le_of_ble_eq_true rfl)) dX4_fan_50 ⟨Nat.le_of_ble_eq_true rfl, Nat.le_of_ble_eq_true rfl⟩) (fun r9 h9 => ?_)
        subst h9
        refine lv_if_eq (tgt := 68) hx hb dX4_fan_53 (by decide) (fun c_53 => ?_) (fun c_53 => ?_)
        · refine lv_iconst (v := 1) hx hb dX4_fan_68 (by decide) ?_
          refine lv_goto (tgt := 89) hx hb dX4_fan_69 (by decide) ?_
          refine va_put (D := (dC, dI)) (ci := 4) (v := .int 1) (ty := .int) (C := RX4) (T := TX4) (N := 22) hx hb hT in_X4 tyX4 tyX4_ok nmX4 hown hK hP hD hS 0 rfl rfl 0 (by decide) (hT _ mw_461) (fun _ h9 => h9) rfl (by decide +kernel) rfl rfl (Nat.le_of_ble_eq_true rfl) dX4_fan_89 (fun H locs hP hD hS => ?_)
          have hP : va_P (dC, dI) vwCl (dk_R cI cII aR 1 du fr le fi ne sz ar pr sp ep (nI k) cf cp ch la fd bc bp bh ba fs) H := hP
          have hD : va_D A (dk_R cI cII aR 1 du fr le fi ne sz ar pr sp ep (nI k) cf cp ch la fd bc bp bh ba fs) := hD
          refine lv_aload_n hx hb dX4_fan_92 rfl (lv_at hl 1 rfl) ?_
          refine va_get (D := (dC, dI)) (ci := 4) (v := .int 1) (C := RX4) (T := TX4) (N := 22) hx hb hT in_X4 hown hK hP 0 rfl rfl 0 (by decide) (hT _ mw_461) (fun _ h9 => h9) rfl dX4_fan_93 ?_
          refine lv_if_le (tgt := 101) hx hb dX4_fan_96 (by decide) (fun c_96 => ?_) (fun c_96 => ?_)
          · exact absurd c_96 (by decide)
          · refine lv_iconst (v := 0) hx hb dX4_fan_99 (by decide) ?_
            have hk : rk_kFan cf cp k x0 x1 = 1 := by unfold rk_kFan rk_late; rw [if_pos c_53] <;> rfl
            have hk0 : ¬ rk_kFan cf cp k x0 x1 = 0 := by rw [hk]; decide
            simp only [if_neg hk0] at hret
            rw [hk] at hret
            exact hret _ () _ _ _ _ rfl hP hD hS dX4_fan_100
        · refine lv_iload_n hx hb dX4_fan_56 rfl (lv_at hl 3 rfl) ?_
          refine lv_i2l (v := (x1).toInt64) hx hb dX4_fan_57 rfl ?_
          refine lv_lconst (v := 0) hx hb dX4_fan_58 (by decide) ?_
          refine lv_ldc2 (v := 300) hx hb hown (hT _ mw_565) dX4_fan_59 ?_
          refine dk_csi (va_runS (As := [.long ((x1).toInt64), .long 0, .long 300]) (rest := [.ref (aR 0)]) ⟨hx, hb, hml, hown, hT⟩ (c_X4_isIn l dC dI cI cII ((x1).toInt64) 0 300) (va_cwS 3 hT (dk_gS mw_537 mw_538 mw_27 mw_539) rfl rfl rfl (by decide +kernel) ⟨(Nat.le_of_ble_eq_true rfl), (Nat.le_of_ble_eq_true rfl)⟩) (dk_preRS hK hP [] rfl) rfl rfl hl.1 rfl (lv_room (Nat.le_of_ble_eq_true rfl)) dX4_fan_62 ⟨Nat.le_of_ble_eq_true rfl, Nat.le_of_ble_eq_true rfl⟩) (fun r9 h9 => ?_)
          subst h9
          refine lv_if_ne (tgt := 72) hx hb dX4_fan_65 (by decide) (fun c_65 => ?_) (fun c_65 => ?_)
          · refine lv_aload_n hx hb dX4_fan_72 rfl (lv_at hl 1 rfl) ?_
            refine va_get (D := (dC, dI)) (ci := 4) (v := .int (nI k)) (C := RX4) (T := TX4) (N := 22) hx hb hT in_X4 hown hK hP 0 rfl rfl 11 (by decide) (hT _ mw_472) (fun _ h9 => h9) rfl dX4_fan_73 ?_
            refine lv_iconst (v := 5) hx hb dX4_fan_76 (by decide) ?_
            refine lv_icmp_eq (tgt := 84) hx hb dX4_fan_77 (by decide) (fun c_77 => ?_) (fun c_77 => ?_)
            · refine lv_iconst (v := 2) hx hb dX4_fan_84 (by decide) ?_
              refine lv_goto (tgt := 89) hx hb dX4_fan_85 (by decide) ?_
              refine va_put (D := (dC, dI)) (ci := 4) (v := .int 2) (ty := .int) (C := RX4) (T := TX4) (N := 22) hx hb hT in_X4 tyX4 tyX4_ok nmX4 hown hK hP hD hS 0 rfl rfl 0 (by decide) (hT _ mw_461) (fun _ h9 => h9) rfl (by decide +kernel) rfl rfl (Nat.le_of_ble_eq_true rfl) dX4_fan_89 (fun H locs hP hD hS => ?_)
              have hP : va_P (dC, dI) vwCl (dk_R cI cII aR 2 du fr le fi ne sz ar pr sp ep (nI k) cf cp ch la fd bc bp bh ba fs) H := hP
              have hD : va_D A (dk_R cI cII aR 2 du fr le fi ne sz ar pr sp ep (nI k) cf cp ch la fd bc bp bh ba fs) := hD
              refine lv_aload_n hx hb dX4_fan_92 rfl (lv_at hl 1 rfl) ?_
              refine va_get (D := (dC, dI)) (ci := 4) (v := .int 2) (C := RX4) (T := TX4) (N := 22) hx hb hT in_X4 hown hK hP 0 rfl rfl 0 (by decide) (hT _ mw_461) (fun _ h9 => h9) rfl dX4_fan_93 ?_
              refine lv_if_le (tgt := 101) hx hb dX4_fan_96 (by decide) (fun c_96 => ?_) (fun c_96 => ?_)
              · exact absurd c_96 (by decide)
              · refine lv_iconst (v := 0) hx hb dX4_fan_99 (by decide) ?_
                have hk : rk_kFan cf cp k x0 x1 = 2 := by unfold rk_kFan rk_late; rw [if_neg c_53, if_neg c_65, if_pos c_77] <;> rfl
                have hk0 : ¬ rk_kFan cf cp k x0 x1 = 0 := by rw [hk]; decide
                simp only [if_neg hk0] at hret
                rw [hk] at hret
                exact hret _ () _ _ _ _ rfl hP hD hS dX4_fan_100
            · refine lv_iload_n hx hb dX4_fan_80 rfl (lv_at hl 0 rfl) ?_
              refine lv_if_eq (tgt := 88) hx hb dX4_fan_81 (by decide) (fun c_81 => ?_) (fun c_81 => ?_)
              · refine lv_iconst (v := 0) hx hb dX4_fan_88 (by decide) ?_
                refine va_put (D := (dC, dI)) (ci := 4) (v := .int 0) (ty := .int) (C := RX4) (T := TX4) (N := 22) hx hb hT in_X4 tyX4 tyX4_ok nmX4 hown hK hP hD hS 0 rfl rfl 0 (by decide) (hT _ mw_461) (fun _ h9 => h9) rfl (by decide +kernel) rfl rfl (Nat.le_of_ble_eq_true rfl) dX4_fan_89 (fun H locs hP hD hS => ?_)
                have hP : va_P (dC, dI) vwCl (dk_R cI cII aR 0 du fr le fi ne sz ar pr sp ep (nI k) cf cp ch la fd bc bp bh ba fs) H := hP
                have hD : va_D A (dk_R cI cII aR 0 du fr le fi ne sz ar pr sp ep (nI k) cf cp ch la fd bc bp bh ba fs) := hD
                refine lv_aload_n hx hb dX4_fan_92 rfl (lv_at hl 1 rfl) ?_
                refine va_get (D := (dC, dI)) (ci := 4) (v := .int 0) (C := RX4) (T := TX4) (N := 22) hx hb hT in_X4 hown hK hP 0 rfl rfl 0 (by decide) (hT _ mw_461) (fun _ h9 => h9) rfl dX4_fan_93 ?_
                refine lv_if_le (tgt := 101) hx hb dX4_fan_96 (by decide) (fun c_96 => ?_) (fun c_96 => ?_)
                · have hk5 : k < 5 := (Nat.lt_or_ge k 5).elim id (fun q => absurd (by rw [show k = 5 by omega]; rfl) c_77)
                  refine lv_aload_n hx hb dX4_fan_101 rfl (lv_at hl 1 rfl) ?_
                  refine va_get (D := (dC, dI)) (ci := 4) (v := .ref (aR 7)) (C := RX4) (T := TX4) (N := 22) hx hb hT in_X4 hown hK hP 0 rfl rfl 12 (by decide) (hT _ mw_473) (fun _ h9 => h9) rfl dX4_fan_102 ?_
                  refine lv_aload_n hx hb dX4_fan_105 rfl (lv_at hl 1 rfl) ?_
                  refine va_get (D := (dC, dI)) (ci := 4) (v := .int (nI k)) (C := RX4) (T := TX4) (N := 22) hx hb hT in_X4 hown hK hP 0 rfl rfl 11 (by decide) (hT _ mw_472) (fun _ h9 => h9) rfl dX4_fan_106 ?_
                  refine lv_iload_n hx hb dX4_fan_109 rfl (lv_at hl 2 rfl) ?_
                  refine dk_iast (q0 := 7) (t0 := 0) (i := k) hx hb hK hP hD hS rfl rfl rfl (by omega) (by decide) dX4_fan_110 (fun H locs hP hD hS => ?_)
                  have hP : va_P (dC, dI) vwCl (dk_R cI cII aR 0 du fr le fi ne sz ar pr sp ep (nI k) (upd cf k x0) cp ch la fd bc bp bh ba fs) H := hP
                  have hD : va_D A (dk_R cI cII aR 0 du fr le fi ne sz ar pr sp ep (nI k) (upd cf k x0) cp ch la fd bc bp bh ba fs) := hD
                  refine lv_aload_n hx hb dX4_fan_111 rfl (lv_at hl 1 rfl) ?_
                  refine va_get (D := (dC, dI)) (ci := 4) (v := .ref (aR 8)) (C := RX4) (T := TX4) (N := 22) hx hb hT in_X4 hown hK hP 0 rfl rfl 13 (by decide) (hT _ mw_474) (fun _ h9 => h9) rfl dX4_fan_112 ?_
                  refine lv_aload_n hx hb dX4_fan_115 rfl (lv_at hl 1 rfl) ?_
                  refine va_get (D := (dC, dI)) (ci := 4) (v := .int (nI k)) (C := RX4) (T := TX4) (N := 22) hx hb hT in_X4 hown hK hP 0 rfl rfl 11 (by decide) (hT _ mw_472) (fun _ h9 => h9) rfl dX4_fan_116 ?_
                  refine lv_iload_n hx hb dX4_fan_119 rfl (lv_at hl 3 rfl) ?_
                  refine dk_iast (q0 := 8) (t0 := 0) (i := k) hx hb hK hP hD hS rfl rfl rfl (by omega) (by decide) dX4_fan_120 (fun H locs hP hD hS => ?_)
                  have hP : va_P (dC, dI) vwCl (dk_R cI cII aR 0 du fr le fi ne sz ar pr sp ep (nI k) (upd cf k x0) (upd cp k x1) ch la fd bc bp bh ba fs) H := hP
                  have hD : va_D A (dk_R cI cII aR 0 du fr le fi ne sz ar pr sp ep (nI k) (upd cf k x0) (upd cp k x1) ch la fd bc bp bh ba fs) := hD
                  refine lv_aload_n hx hb dX4_fan_121 rfl (lv_at hl 1 rfl) ?_
                  refine lv_dup hx hb dX4_fan_122 rfl ?_
                  refine va_get (D := (dC, dI)) (ci := 4) (v := .int (nI k)) (C := RX4) (T := TX4) (N := 22) hx hb hT in_X4 hown hK hP 0 rfl rfl 11 (by decide) (hT _ mw_472) (fun _ h9 => h9) rfl dX4_fan_123 ?_
                  refine lv_iconst (v := 1) hx hb dX4_fan_126 (by decide) ?_
                  refine lv_iadd hx hb dX4_fan_127 ?_
                  refine lv_topi (fun y9 e9 => ?_)
                  obtain rfl : y9 = nI (k + 1) := by rw [e9]; exact (nI_1 k)
                  refine va_put (D := (dC, dI)) (ci := 4) (v := .int (nI (k + 1))) (ty := .int) (C := RX4) (T := TX4) (N := 22) hx hb hT in_X4 tyX4 tyX4_ok nmX4 hown hK hP hD hS 0 rfl rfl 11 (by decide) (hT _ mw_472) (fun _ h9 => h9) rfl (by decide +kernel) rfl rfl (Nat.le_of_ble_eq_true rfl) dX4_fan_128 (fun H locs hP hD hS => ?_)
                  have hP : va_P (dC, dI) vwCl (dk_R cI cII aR 0 du fr le fi ne sz ar pr sp ep (nI (k + 1)) (upd cf k x0) (upd cp k x1) ch la fd bc bp bh ba fs) H := hP
                  have hD : va_D A (dk_R cI cII aR 0 du fr le fi ne sz ar pr sp ep (nI (k + 1)) (upd cf k x0) (upd cp k x1) ch la fd bc bp bh ba fs) := hD
                  refine lv_aload_n hx hb dX4_fan_131 rfl (lv_at hl 1 rfl) ?_
                  refine va_get (D := (dC, dI)) (ci := 4) (v := .int (nI (k + 1))) (C := RX4) (T := TX4) (N := 22) hx hb hT in_X4 hown hK hP 0 rfl rfl 11 (by decide) (hT _ mw_472) (fun _ h9 => h9) rfl dX4_fan_132 ?_
                  have hk : rk_kFan cf cp k x0 x1 = 0 := by unfold rk_kFan rk_late; rw [if_neg c_53, if_neg c_65, if_neg c_77, if_neg c_4, if_neg c_19, if_pos c_34] <;> rfl
                  simp only [if_pos hk] at hret
                  rw [hk] at hret
                  exact hret _ () _ _ _ _ rfl hP hD hS dX4_fan_135
                · exact absurd (by decide) c_96
              · exact absurd (by decide) c_81
          · refine lv_iconst (v := 1) hx hb dX4_fan_68 (by decide) ?_
            refine lv_goto (tgt := 89) hx hb dX4_fan_69 (by decide) ?_
            refine va_put (D := (dC, dI)) (ci := 4) (v := .int 1) (ty := .int) (C := RX4) (T := TX4) (N := 22) hx hb hT in_X4 tyX4 tyX4_ok nmX4 hown hK hP hD hS 0 rfl rfl 0 (by decide) (hT _ mw_461) (fun _ h9 => h9) rfl (by decide +kernel) rfl rfl (Nat.le_of_ble_eq_true rfl) dX4_fan_89 (fun H locs hP hD hS => ?_)
            have hP : va_P (dC, dI) vwCl (dk_R cI cII aR 1 du fr le fi ne sz ar pr sp ep (nI k) cf cp ch la fd bc bp bh ba fs) H := hP
            have hD : va_D A (dk_R cI cII aR 1 du fr le fi ne sz ar pr sp ep (nI k) cf cp ch la fd bc bp bh ba fs) := hD
            refine lv_aload_n hx hb dX4_fan_92 rfl (lv_at hl 1 rfl) ?_
            refine va_get (D := (dC, dI)) (ci := 4) (v := .int 1) (C := RX4) (T := TX4) (N := 22) hx hb hT in_X4 hown hK hP 0 rfl rfl 0 (by decide) (hT _ mw_461) (fun _ h9 => h9) rfl dX4_fan_93 ?_
            refine lv_if_le (tgt := 101) hx hb dX4_fan_96 (by decide) (fun c_96 => ?_) (fun c_96 => ?_)
            · exact absurd c_96 (by decide)
            · refine lv_iconst (v := 0) hx hb dX4_fan_99 (by decide) ?_
              have hk : rk_kFan cf cp k x0 x1 = 1 := by unfold rk_kFan rk_late; rw [if_neg c_53, if_pos c_65] <;> rfl
              have hk0 : ¬ rk_kFan cf cp k x0 x1 = 0 := by rw [hk]; decide
              simp only [if_neg hk0] at hret
              rw [hk] at hret
              exact hret _ () _ _ _ _ rfl hP hD hS dX4_fan_100
      · refine lv_iconst (v := 1) hx hb dX4_fan_37 (by decide) ?_
        refine lv_goto (tgt := 42) hx hb dX4_fan_38 (by decide) ?_
        refine lv_istore_n (lv' := [(3, .int 1), (0, .ref (aR 0)), (1, .int x0), (2, .int x1)]) hx hb dX4_fan_42 rfl hl (by decide) rfl (fun ls hl => ?_)
        refine lv_aload_n hx hb dX4_fan_43 rfl (lv_at hl 1 rfl) ?_
        refine lv_iload_n hx hb dX4_fan_44 rfl (lv_at hl 2 rfl) ?_
        refine lv_i2l (v := (x0).toInt64) hx hb dX4_fan_45 rfl ?_
        refine lv_lconst (v := 0) hx hb dX4_fan_46 (by decide) ?_
        refine lv_ldc2 (v := 10000) hx hb hown (hT _ mw_564) dX4_fan_47 ?_
        refine dk_csi (va_runS (As := [.long ((x0).toInt64), .long 0, .long 10000]) (rest := [.ref (aR 0)]) ⟨hx, hb, hml, hown, hT⟩ (c_X4_isIn l dC dI cI cII ((x0).toInt64) 0 10000) (va_cwS 3 hT (dk_gS mw_537 mw_538 mw_27 mw_539) rfl rfl rfl (by decide +kernel) ⟨(Nat.le_of_ble_eq_true rfl), (Nat.le_of_ble_eq_true rfl)⟩) (dk_preRS hK hP [] rfl) rfl rfl hl.1 rfl (lv_room (Nat.le_of_ble_eq_true rfl)) dX4_fan_50 ⟨Nat.le_of_ble_eq_true rfl, Nat.le_of_ble_eq_true rfl⟩) (fun r9 h9 => ?_)
        subst h9
        refine lv_if_eq (tgt := 68) hx hb dX4_fan_53 (by decide) (fun c_53 => ?_) (fun c_53 => ?_)
        · refine lv_iconst (v := 1) hx hb dX4_fan_68 (by decide) ?_
          refine lv_goto (tgt := 89) hx hb dX4_fan_69 (by decide) ?_
          refine va_put (D := (dC, dI)) (ci := 4) (v := .int 1) (ty := .int) (C := RX4) (T := TX4) (N := 22) hx hb hT in_X4 tyX4 tyX4_ok nmX4 hown hK hP hD hS 0 rfl rfl 0 (by decide) (hT _ mw_461) (fun _ h9 => h9) rfl (by decide +kernel) rfl rfl (Nat.le_of_ble_eq_true rfl) dX4_fan_89 (fun H locs hP hD hS => ?_)
          have hP : va_P (dC, dI) vwCl (dk_R cI cII aR 1 du fr le fi ne sz ar pr sp ep (nI k) cf cp ch la fd bc bp bh ba fs) H := hP
          have hD : va_D A (dk_R cI cII aR 1 du fr le fi ne sz ar pr sp ep (nI k) cf cp ch la fd bc bp bh ba fs) := hD
          refine lv_aload_n hx hb dX4_fan_92 rfl (lv_at hl 1 rfl) ?_
          refine va_get (D := (dC, dI)) (ci := 4) (v := .int 1) (C := RX4) (T := TX4) (N := 22) hx hb hT in_X4 hown hK hP 0 rfl rfl 0 (by decide) (hT _ mw_461) (fun _ h9 => h9) rfl dX4_fan_93 ?_
          refine lv_if_le (tgt := 101) hx hb dX4_fan_96 (by decide) (fun c_96 => ?_) (fun c_96 => ?_)
          · exact absurd c_96 (by decide)
          · refine lv_iconst (v := 0) hx hb dX4_fan_99 (by decide) ?_
            have hk : rk_kFan cf cp k x0 x1 = 1 := by unfold rk_kFan rk_late; rw [if_pos c_53] <;> rfl
            have hk0 : ¬ rk_kFan cf cp k x0 x1 = 0 := by rw [hk]; decide
            simp only [if_neg hk0] at hret
            rw [hk] at hret
            exact hret _ () _ _ _ _ rfl hP hD hS dX4_fan_100
        · refine lv_iload_n hx hb dX4_fan_56 rfl (lv_at hl 3 rfl) ?_
          refine lv_i2l (v := (x1).toInt64) hx hb dX4_fan_57 rfl ?_
          refine lv_lconst (v := 0) hx hb dX4_fan_58 (by decide) ?_
          refine lv_ldc2 (v := 300) hx hb hown (hT _ mw_565) dX4_fan_59 ?_
          refine dk_csi (va_runS (As := [.long ((x1).toInt64), .long 0, .long 300]) (rest := [.ref (aR 0)]) ⟨hx, hb, hml, hown, hT⟩ (c_X4_isIn l dC dI cI cII ((x1).toInt64) 0 300) (va_cwS 3 hT (dk_gS mw_537 mw_538 mw_27 mw_539) rfl rfl rfl (by decide +kernel) ⟨(Nat.le_of_ble_eq_true rfl), (Nat.le_of_ble_eq_true rfl)⟩) (dk_preRS hK hP [] rfl) rfl rfl hl.1 rfl (lv_room (Nat.le_of_ble_eq_true rfl)) dX4_fan_62 ⟨Nat.le_of_ble_eq_true rfl, Nat.le_of_ble_eq_true rfl⟩) (fun r9 h9 => ?_)
          subst h9
          refine lv_if_ne (tgt := 72) hx hb dX4_fan_65 (by decide) (fun c_65 => ?_) (fun c_65 => ?_)
          · refine lv_aload_n hx hb dX4_fan_72 rfl (lv_at hl 1 rfl) ?_
            refine va_get (D := (dC, dI)) (ci := 4) (v := .int (nI k)) (C := RX4) (T := TX4) (N := 22) hx hb hT in_X4 hown hK hP 0 rfl rfl 11 (by decide) (hT _ mw_472) (fun _ h9 => h9) rfl dX4_fan_73 ?_
            refine lv_iconst (v := 5) hx hb dX4_fan_76 (by decide) ?_
            refine lv_icmp_eq (tgt := 84) hx hb dX4_fan_77 (by decide) (fun c_77 => ?_) (fun c_77 => ?_)
            · refine lv_iconst (v := 2) hx hb dX4_fan_84 (by decide) ?_
              refine lv_goto (tgt := 89) hx hb dX4_fan_85 (by decide) ?_
              refine va_put (D := (dC, dI)) (ci := 4) (v := .int 2) (ty := .int) (C := RX4) (T := TX4) (N := 22) hx hb hT in_X4 tyX4 tyX4_ok nmX4 hown hK hP hD hS 0 rfl rfl 0 (by decide) (hT _ mw_461) (fun _ h9 => h9) rfl (by decide +kernel) rfl rfl (Nat.le_of_ble_eq_true rfl) dX4_fan_89 (fun H locs hP hD hS => ?_)
              have hP : va_P (dC, dI) vwCl (dk_R cI cII aR 2 du fr le fi ne sz ar pr sp ep (nI k) cf cp ch la fd bc bp bh ba fs) H := hP
              have hD : va_D A (dk_R cI cII aR 2 du fr le fi ne sz ar pr sp ep (nI k) cf cp ch la fd bc bp bh ba fs) := hD
              refine lv_aload_n hx hb dX4_fan_92 rfl (lv_at hl 1 rfl) ?_
              refine va_get (D := (dC, dI)) (ci := 4) (v := .int 2) (C := RX4) (T := TX4) (N := 22) hx hb hT in_X4 hown hK hP 0 rfl rfl 0 (by decide) (hT _ mw_461) (fun _ h9 => h9) rfl dX4_fan_93 ?_
              refine lv_if_le (tgt := 101) hx hb dX4_fan_96 (by decide) (fun c_96 => ?_) (fun c_96 => ?_)
              · exact absurd c_96 (by decide)
              · refine lv_iconst (v := 0) hx hb dX4_fan_99 (by decide) ?_
                have hk : rk_kFan cf cp k x0 x1 = 2 := by unfold rk_kFan rk_late; rw [if_neg c_53, if_neg c_65, if_pos c_77] <;> rfl
                have hk0 : ¬ rk_kFan cf cp k x0 x1 = 0 := by rw [hk]; decide
                simp only [if_neg hk0] at hret
                rw [hk] at hret
                exact hret _ () _ _ _ _ rfl hP hD hS dX4_fan_100
            · refine lv_iload_n hx hb dX4_fan_80 rfl (lv_at hl 0 rfl) ?_
              refine lv_if_eq (tgt := 88) hx hb dX4_fan_81 (by decide) (fun c_81 => ?_) (fun c_81 => ?_)
              · exact absurd c_81 (by decide)
              · refine lv_iconst (v := 2) hx hb dX4_fan_84 (by decide) ?_
                refine lv_goto (tgt := 89) hx hb dX4_fan_85 (by decide) ?_
                refine va_put (D := (dC, dI)) (ci := 4) (v := .int 2) (ty := .int) (C := RX4) (T := TX4) (N := 22) hx hb hT in_X4 tyX4 tyX4_ok nmX4 hown hK hP hD hS 0 rfl rfl 0 (by decide) (hT _ mw_461) (fun _ h9 => h9) rfl (by decide +kernel) rfl rfl (Nat.le_of_ble_eq_true rfl) dX4_fan_89 (fun H locs hP hD hS => ?_)
                have hP : va_P (dC, dI) vwCl (dk_R cI cII aR 2 du fr le fi ne sz ar pr sp ep (nI k) cf cp ch la fd bc bp bh ba fs) H := hP
                have hD : va_D A (dk_R cI cII aR 2 du fr le fi ne sz ar pr sp ep (nI k) cf cp ch la fd bc bp bh ba fs) := hD
                refine lv_aload_n hx hb dX4_fan_92 rfl (lv_at hl 1 rfl) ?_
                refine va_get (D := (dC, dI)) (ci := 4) (v := .int 2) (C := RX4) (T := TX4) (N := 22) hx hb hT in_X4 hown hK hP 0 rfl rfl 0 (by decide) (hT _ mw_461) (fun _ h9 => h9) rfl dX4_fan_93 ?_
                refine lv_if_le (tgt := 101) hx hb dX4_fan_96 (by decide) (fun c_96 => ?_) (fun c_96 => ?_)
                · exact absurd c_96 (by decide)
                · refine lv_iconst (v := 0) hx hb dX4_fan_99 (by decide) ?_
                  have hk : rk_kFan cf cp k x0 x1 = 2 := by unfold rk_kFan rk_late; rw [if_neg c_53, if_neg c_65, if_neg c_77, if_neg c_4, if_neg c_19, if_neg c_34] <;> rfl
                  have hk0 : ¬ rk_kFan cf cp k x0 x1 = 0 := by rw [hk]; decide
                  simp only [if_neg hk0] at hret
                  rw [hk] at hret
                  exact hret _ () _ _ _ _ rfl hP hD hS dX4_fan_100
          · refine lv_iconst (v := 1) hx hb dX4_fan_68 (by decide) ?_
            refine lv_goto (tgt := 89) hx hb dX4_fan_69 (by decide) ?_
            refine va_put (D := (dC, dI)) (ci := 4) (v := .int 1) (ty := .int) (C := RX4) (T := TX4) (N := 22) hx hb hT in_X4 tyX4 tyX4_ok nmX4 hown hK hP hD hS 0 rfl rfl 0 (by decide) (hT _ mw_461) (fun _ h9 => h9) rfl (by decide +kernel) rfl rfl (Nat.le_of_ble_eq_true rfl) dX4_fan_89 (fun H locs hP hD hS => ?_)
            have hP : va_P (dC, dI) vwCl (dk_R cI cII aR 1 du fr le fi ne sz ar pr sp ep (nI k) cf cp ch la fd bc bp bh ba fs) H := hP
            have hD : va_D A (dk_R cI cII aR 1 du fr le fi ne sz ar pr sp ep (nI k) cf cp ch la fd bc bp bh ba fs) := hD
            refine lv_aload_n hx hb dX4_fan_92 rfl (lv_at hl 1 rfl) ?_
            refine va_get (D := (dC, dI)) (ci := 4) (v := .int 1) (C := RX4) (T := TX4) (N := 22) hx hb hT in_X4 hown hK hP 0 rfl rfl 0 (by decide) (hT _ mw_461) (fun _ h9 => h9) rfl dX4_fan_93 ?_
            refine lv_if_le (tgt := 101) hx hb dX4_fan_96 (by decide) (fun c_96 => ?_) (fun c_96 => ?_)
            · exact absurd c_96 (by decide)
            · refine lv_iconst (v := 0) hx hb dX4_fan_99 (by decide) ?_
              have hk : rk_kFan cf cp k x0 x1 = 1 := by unfold rk_kFan rk_late; rw [if_neg c_53, if_pos c_65] <;> rfl
              have hk0 : ¬ rk_kFan cf cp k x0 x1 = 0 := by rw [hk]; decide
              simp only [if_neg hk0] at hret
              rw [hk] at hret
              exact hret _ () _ _ _ _ rfl hP hD hS dX4_fan_100
