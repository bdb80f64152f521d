set_option maxHeartbeats 4000000 in
set_option maxRecDepth 100000 in
/-- DuctSizesModel.set -/
theorem c_X4_set (l : Launch) (dC : Nat → ClassId) (dI : Nat → Nat → Nat) (cI cII : ClassId) (aR : Nat → Nat) (cd : Int32) (du : Int32) (fr : Nat → Int32) (le : Nat → Int32) (fi : Nat → Int32) (ne : Nat → Int32) (sz : Int32) (ar : Nat → Int32) (pr : Nat → Int32) (sp : Int32) (ep : Int32) (pt : Int32) (cf : Nat → Int32) (cp : Nat → Int32) (ch : Nat → Int32) (la : Nat → Int64) (fd : Int32) (bc : Int64) (bp : Int64) (bh : Nat → Int32) (ba : Nat → Int64) (fs : Nat → Int64) (x0 : Int32) (x1 : Int32) (hz : Nat) : dk_Mi l yX4_set wsX4_set ({ frames := 1, cells := 0, slots := 0, locals := 25 }) (dC, dI) (dk_TR cI cII) [.ref (aR 0), .int x0, .int x1] (dk_R cI cII aR cd du fr le fi ne sz ar pr sp ep pt cf cp ch la fd bc bp bh ba fs) hz (fun (r : Int32) (_ : Unit) => r = if rk_kSet x0 x1 = 0 then if x0 = 0 then sp else ep else 0) (fun _ => dk_R cI cII aR (rk_kSet x0 x1) du fr le fi ne sz ar pr (if rk_kSet x0 x1 = 0 then (if x0 = 0 then x1 else sp) else sp) (if rk_kSet x0 x1 = 0 then (if x0 = 1 then x1 else ep) else ep) pt cf cp ch la fd bc bp bh ba fs) 0 0 := by
  refine dk_ofMi (cc := cX4_set) (maxL := 4) (by decide) rfl (Nat.le_of_ble_eq_true rfl) ?_
  intro p e s m args below meth c A ls Q ⟨hx, hb, hml, hts, hown, hnm⟩ hsz hK hP hD hA hS hl hret
  have hT : ∀ w ∈ dk_tbl, w.before args s = true := fun w h => hts w (List.mem_cons_of_mem _ h)
  have hown : s.vm.findClass RX4 = some m.cls := hown
  have hl : lv_has ls 4 [(0, .ref (aR 0)), (1, .int x0), (2, .int x1)] := hl
  refine lv_aload_n hx hb dX4_set_0 rfl (lv_at hl 0 rfl) ?_
  refine lv_iload_n hx hb dX4_set_1 rfl (lv_at hl 1 rfl) ?_
  refine lv_if_ne (tgt := 17) hx hb dX4_set_2 (by decide) (fun c_2 => ?_) (fun c_2 => ?_)
  · refine lv_iload_n hx hb dX4_set_17 rfl (lv_at hl 1 rfl) ?_
    refine lv_iconst (v := 1) hx hb dX4_set_18 (by decide) ?_
    refine lv_icmp_ne (tgt := 38) hx hb dX4_set_19 (by decide) (fun c_19 => ?_) (fun c_19 => ?_)
    · refine lv_iconst (v := 1) hx hb dX4_set_38 (by decide) ?_
      refine va_put (D := (dC, dI)) (ci := 4) (v := .int 1) (ty := .int) (C := RX4) (T := TX4) (N := 22) hx hb hT in_X4 tyX4 tyX4_ok nmX4 hown hK hP hD hS 0 rfl rfl 0 (by decide) (hT _ mw_461) (fun _ h9 => h9) rfl (by decide +kernel) rfl rfl (Nat.le_of_ble_eq_true rfl) dX4_set_39 (fun H locs hP hD hS => ?_)
      have hP : va_P (dC, dI) vwCl (dk_R cI cII aR 1 du fr le fi ne sz ar pr sp ep pt cf cp ch la fd bc bp bh ba fs) H := hP
      have hD : va_D A (dk_R cI cII aR 1 du fr le fi ne sz ar pr sp ep pt cf cp ch la fd bc bp bh ba fs) := hD
      refine lv_aload_n hx hb dX4_set_42 rfl (lv_at hl 0 rfl) ?_
      refine va_get (D := (dC, dI)) (ci := 4) (v := .int 1) (C := RX4) (T := TX4) (N := 22) hx hb hT in_X4 hown hK hP 0 rfl rfl 0 (by decide) (hT _ mw_461) (fun _ h9 => h9) rfl dX4_set_43 ?_
      refine lv_if_le (tgt := 51) hx hb dX4_set_46 (by decide) (fun c_46 => ?_) (fun c_46 => ?_)
      · exact absurd c_46 (by decide)
      · refine lv_iconst (v := 0) hx hb dX4_set_49 (by decide) ?_
        have hk : rk_kSet x0 x1 = 1 := by unfold rk_kSet rk_kSet1; rw [if_neg c_2, if_neg c_19] <;> rfl
        have hk0 : ¬ rk_kSet x0 x1 = 0 := by rw [hk]; decide
        simp only [if_neg hk0] at hret
        rw [hk] at hret
        exact hret _ () _ _ _ _ rfl hP hD hS dX4_set_50
    · refine lv_iload_n hx hb dX4_set_22 rfl (lv_at hl 2 rfl) ?_
      refine lv_i2l (v := (x1).toInt64) hx hb dX4_set_23 rfl ?_
      refine lv_lconst (v := 0) hx hb dX4_set_24 (by decide) ?_
      refine lv_ldc2 (v := 1000) hx hb hown (hT _ mw_550) dX4_set_25 ?_
      refine dk_csi (va_runS (As := [.long ((x1).toInt64), .long 0, .long 1000]) (rest := [.ref (aR 0)]) ⟨hx, hb, hml, hown, hT⟩ (c_X4_isIn l dC dI cI cII ((x1).toInt64) 0 1000) (va_cwS 3 hT (dk_gS mw_537 mw_538 mw_27 mw_539) rfl rfl rfl (by decide +kernel) ⟨(Nat.le_of_ble_eq_true rfl), (Nat.le_of_ble_eq_true rfl)⟩) (dk_preRS hK hP [] rfl) rfl rfl hl.1 rfl (lv_room (Nat.le_of_ble_eq_true rfl)) dX4_set_28 ⟨Nat.le_of_ble_eq_true rfl, Nat.le_of_ble_eq_true rfl⟩) (fun r9 h9 => ?_)
      subst h9
      refine lv_if_eq (tgt := 38) hx hb dX4_set_31 (by decide) (fun c_31 => ?_) (fun c_31 => ?_)
      · refine lv_iconst (v := 1) hx hb dX4_set_38 (by decide) ?_
        refine va_put (D := (dC, dI)) (ci := 4) (v := .int 1) (ty := .int) (C := RX4) (T := TX4) (N := 22) hx hb hT in_X4 tyX4 tyX4_ok nmX4 hown hK hP hD hS 0 rfl rfl 0 (by decide) (hT _ mw_461) (fun _ h9 => h9) rfl (by decide +kernel) rfl rfl (Nat.le_of_ble_eq_true rfl) dX4_set_39 (fun H locs hP hD hS => ?_)
        have hP : va_P (dC, dI) vwCl (dk_R cI cII aR 1 du fr le fi ne sz ar pr sp ep pt cf cp ch la fd bc bp bh ba fs) H := hP
        have hD : va_D A (dk_R cI cII aR 1 du fr le fi ne sz ar pr sp ep pt cf cp ch la fd bc bp bh ba fs) := hD
        refine lv_aload_n hx hb dX4_set_42 rfl (lv_at hl 0 rfl) ?_
        refine va_get (D := (dC, dI)) (ci := 4) (v := .int 1) (C := RX4) (T := TX4) (N := 22) hx hb hT in_X4 hown hK hP 0 rfl rfl 0 (by decide) (hT _ mw_461) (fun _ h9 => h9) rfl dX4_set_43 ?_
        refine lv_if_le (tgt := 51) hx hb dX4_set_46 (by decide) (fun c_46 => ?_) (fun c_46 => ?_)
        · exact absurd c_46 (by decide)
        · refine lv_iconst (v := 0) hx hb dX4_set_49 (by decide) ?_
          have hk : rk_kSet x0 x1 = 1 := by unfold rk_kSet rk_kSet1; rw [if_neg c_2, if_pos c_19, if_pos c_31] <;> rfl
          have hk0 : ¬ rk_kSet x0 x1 = 0 := by rw [hk]; decide
          simp only [if_neg hk0] at hret
          rw [hk] at hret
          exact hret _ () _ _ _ _ rfl hP hD hS dX4_set_50
      · refine lv_iconst (v := 0) hx hb dX4_set_34 (by decide) ?_
        refine lv_goto (tgt := 39) hx hb dX4_set_35 (by decide) ?_
        refine va_put (D := (dC, dI)) (ci := 4) (v := .int 0) (ty := .int) (C := RX4) (T := TX4) (N := 22) hx hb hT in_X4 tyX4 tyX4_ok nmX4 hown hK hP hD hS 0 rfl rfl 0 (by decide) (hT _ mw_461) (fun _ h9 => h9) rfl (by decide +kernel) rfl rfl (Nat.le_of_ble_eq_true rfl) dX4_set_39 (fun H locs hP hD hS => ?_)
        have hP : va_P (dC, dI) vwCl (dk_R cI cII aR 0 du fr le fi ne sz ar pr sp ep pt cf cp ch la fd bc bp bh ba fs) H := hP
        have hD : va_D A (dk_R cI cII aR 0 du fr le fi ne sz ar pr sp ep pt cf cp ch la fd bc bp bh ba fs) := hD
        refine lv_aload_n hx hb dX4_set_42 rfl (lv_at hl 0 rfl) ?_
        refine va_get (D := (dC, dI)) (ci := 4) (v := .int 0) (C := RX4) (T := TX4) (N := 22) hx hb hT in_X4 hown hK hP 0 rfl rfl 0 (by decide) (hT _ mw_461) (fun _ h9 => h9) rfl dX4_set_43 ?_
        refine lv_if_le (tgt := 51) hx hb dX4_set_46 (by decide) (fun c_46 => ?_) (fun c_46 => ?_)
        · refine lv_iload_n hx hb dX4_set_51 rfl (lv_at hl 1 rfl) ?_
          refine lv_if_ne (tgt := 62) hx hb dX4_set_52 (by decide) (fun c_52 => ?_) (fun c_52 => ?_)
          · refine lv_aload_n hx hb dX4_set_62 rfl (lv_at hl 0 rfl) ?_
            refine va_get (D := (dC, dI)) (ci := 4) (v := .int ep) (C := RX4) (T := TX4) (N := 22) hx hb hT in_X4 hown hK hP 0 rfl rfl 10 (by decide) (hT _ mw_471) (fun _ h9 => h9) rfl dX4_set_63 ?_
            refine lv_istore_n (lv' := [(3, .int ep), (0, .ref (aR 0)), (1, .int x0), (2, .int x1)]) hx hb dX4_set_66 rfl hl (by decide) rfl (fun ls hl => ?_)
            refine lv_aload_n hx hb dX4_set_67 rfl (lv_at hl 1 rfl) ?_
            refine lv_iload_n hx hb dX4_set_68 rfl (lv_at hl 2 rfl) ?_
            refine lv_if_ne (tgt := 76) hx hb dX4_set_69 (by decide) (fun c_69 => ?_) (fun c_69 => ?_)
            · refine lv_aload_n hx hb dX4_set_76 rfl (lv_at hl 1 rfl) ?_
              refine va_get (D := (dC, dI)) (ci := 4) (v := .int sp) (C := RX4) (T := TX4) (N := 22) hx hb hT in_X4 hown hK hP 0 rfl rfl 9 (by decide) (hT _ mw_470) (fun _ h9 => h9) rfl dX4_set_77 ?_
              refine va_put (D := (dC, dI)) (ci := 4) (v := .int sp) (ty := .int) (C := RX4) (T := TX4) (N := 22) hx hb hT in_X4 tyX4 tyX4_ok nmX4 hown hK hP hD hS 0 rfl rfl 9 (by decide) (hT _ mw_470) (fun _ h9 => h9) rfl (by decide +kernel) rfl rfl (Nat.le_of_ble_eq_true rfl) dX4_set_80 (fun H locs hP hD hS => ?_)
              have hP : va_P (dC, dI) vwCl (dk_R cI cII aR 0 du fr le fi ne sz ar pr sp ep pt cf cp ch la fd bc bp bh ba fs) H := hP
              have hD : va_D A (dk_R cI cII aR 0 du fr le fi ne sz ar pr sp ep pt cf cp ch la fd bc bp bh ba fs) := hD
              refine lv_aload_n hx hb dX4_set_83 rfl (lv_at hl 1 rfl) ?_
              refine lv_iload_n hx hb dX4_set_84 rfl (lv_at hl 2 rfl) ?_
              refine lv_iconst (v := 1) hx hb dX4_set_85 (by decide) ?_
              refine lv_icmp_ne (tgt := 93) hx hb dX4_set_86 (by decide) (fun c_86 => ?_) (fun c_86 => ?_)
              · exact absurd c_19 c_86
              · refine lv_iload_n hx hb dX4_set_89 rfl (lv_at hl 3 rfl) ?_
                refine lv_goto (tgt := 97) hx hb dX4_set_90 (by decide) ?_
                refine va_put (D := (dC, dI)) (ci := 4) (v := .int x1) (ty := .int) (C := RX4) (T := TX4) (N := 22) hx hb hT in_X4 tyX4 tyX4_ok nmX4 hown hK hP hD hS 0 rfl rfl 10 (by decide) (hT _ mw_471) (fun _ h9 => h9) rfl (by decide +kernel) rfl rfl (Nat.le_of_ble_eq_true rfl) dX4_set_97 (fun H locs hP hD hS => ?_)
                have hP : va_P (dC, dI) vwCl (dk_R cI cII aR 0 du fr le fi ne sz ar pr sp x1 pt cf cp ch la fd bc bp bh ba fs) H := hP
                have hD : va_D A (dk_R cI cII aR 0 du fr le fi ne sz ar pr sp x1 pt cf cp ch la fd bc bp bh ba fs) := hD
                refine lv_iload_n hx hb dX4_set_100 rfl (lv_at hl 0 rfl) ?_
                have hk : rk_kSet x0 x1 = 0 := by unfold rk_kSet rk_kSet1; rw [if_neg c_2, if_pos c_19, if_neg c_31] <;> rfl
                simp only [if_pos hk] at hret
                rw [hk] at hret
                simp only [if_neg c_2, if_pos c_86] at hret
                exact hret _ () _ _ _ _ rfl hP hD hS dX4_set_101
            · exact absurd c_69 c_2
          · exact absurd c_52 c_2
        · exact absurd (by decide) c_46
  · refine lv_iload_n hx hb dX4_set_5 rfl (lv_at hl 2 rfl) ?_
    refine lv_i2l (v := (x1).toInt64) hx hb dX4_set_6 rfl ?_
    refine lv_lconst (v := 1) hx hb dX4_set_7 (by decide) ?_
    refine lv_ldc2 (v := 100000) hx hb hown (hT _ mw_559) dX4_set_8 ?_
    refine dk_csi (va_runS (As := [.long ((x1).toInt64), .long 1, .long 100000]) (rest := [.ref (aR 0)]) ⟨hx, hb, hml, hown, hT⟩ (c_X4_isIn l dC dI cI cII ((x1).toInt64) 1 100000) (va_cwS 3 hT (dk_gS mw_537 mw_538 mw_27 mw_539) rfl rfl rfl (by decide +kernel) ⟨(Nat.le_of_ble_eq_true rfl), (Nat.le_of_ble_eq_true rfl)⟩) (dk_preRS hK hP [] rfl) rfl rfl hl.1 rfl (lv_room (Nat.le_of_ble_eq_true rfl)) dX4_set_11 ⟨Nat.le_of_ble_eq_true rfl, Nat.le_of_ble_eq_true rfl⟩) (fun r9 h9 => ?_)
    subst h9
    refine lv_if_ne (tgt := 34) hx hb dX4_set_14 (by decide) (fun c_14 => ?_) (fun c_14 => ?_)
    · refine lv_iconst (v := 0) hx hb dX4_set_34 (by decide) ?_
      refine lv_goto (tgt := 39) hx hb dX4_set_35 (by decide) ?_
      refine va_put (D := (dC, dI)) (ci := 4) (v := .int 0) (ty := .int) (C := RX4) (T := TX4) (N := 22) hx hb hT in_X4 tyX4 tyX4_ok nmX4 hown hK hP hD hS 0 rfl rfl 0 (by decide) (hT _ mw_461) (fun _ h9 => h9) rfl (by decide +kernel) rfl rfl (Nat.le_of_ble_eq_true rfl) dX4_set_39 (fun H locs hP hD hS => ?_)
      have hP : va_P (dC, dI) vwCl (dk_R cI cII aR 0 du fr le fi ne sz ar pr sp ep pt cf cp ch la fd bc bp bh ba fs) H := hP
      have hD : va_D A (dk_R cI cII aR 0 du fr le fi ne sz ar pr sp ep pt cf cp ch la fd bc bp bh ba fs) := hD
      refine lv_aload_n hx hb dX4_set_42 rfl (lv_at hl 0 rfl) ?_
      refine va_get (D := (dC, dI)) (ci := 4) (v := .int 0) (C := RX4) (T := TX4) (N := 22) hx hb hT in_X4 hown hK hP 0 rfl rfl 0 (by decide) (hT _ mw_461) (fun _ h9 => h9) rfl dX4_set_43 ?_
      refine lv_if_le (tgt := 51) hx hb dX4_set_46 (by decide) (fun c_46 => ?_) (fun c_46 => ?_)
      · refine lv_iload_n hx hb dX4_set_51 rfl (lv_at hl 1 rfl) ?_
        refine lv_if_ne (tgt := 62) hx hb dX4_set_52 (by decide) (fun c_52 => ?_) (fun c_52 => ?_)
        · exact absurd c_2 c_52
        · refine lv_aload_n hx hb dX4_set_55 rfl (lv_at hl 0 rfl) ?_
          refine va_get (D := (dC, dI)) (ci := 4) (v := .int sp) (C := RX4) (T := TX4) (N := 22) hx hb hT in_X4 hown hK hP 0 rfl rfl 9 (by decide) (hT _ mw_470) (fun _ h9 => h9) rfl dX4_set_56 ?_
          refine lv_goto (tgt := 66) hx hb dX4_set_59 (by decide) ?_
          refine lv_istore_n (lv' := [(3, .int sp), (0, .ref (aR 0)), (1, .int x0), (2, .int x1)]) hx hb dX4_set_66 rfl hl (by decide) rfl (fun ls hl => ?_)
          refine lv_aload_n hx hb dX4_set_67 rfl (lv_at hl 1 rfl) ?_
          refine lv_iload_n hx hb dX4_set_68 rfl (lv_at hl 2 rfl) ?_
          refine lv_if_ne (tgt := 76) hx hb dX4_set_69 (by decide) (fun c_69 => ?_) (fun c_69 => ?_)
          · exact absurd c_2 c_69
          · refine lv_iload_n hx hb dX4_set_72 rfl (lv_at hl 3 rfl) ?_
            refine lv_goto (tgt := 80) hx hb dX4_set_73 (by decide) ?_
            refine va_put (D := (dC, dI)) (ci := 4) (v := .int x1) (ty := .int) (C := RX4) (T := TX4) (N := 22) hx hb hT in_X4 tyX4 tyX4_ok nmX4 hown hK hP hD hS 0 rfl rfl 9 (by decide) (hT _ mw_470) (fun _ h9 => h9) rfl (by decide +kernel) rfl rfl (Nat.le_of_ble_eq_true rfl) dX4_set_80 (fun H locs hP hD hS => ?_)
            have hP : va_P (dC, dI) vwCl (dk_R cI cII aR 0 du fr le fi ne sz ar pr x1 ep pt cf cp ch la fd bc bp bh ba fs) H := hP
            have hD : va_D A (dk_R cI cII aR 0 du fr le fi ne sz ar pr x1 ep pt cf cp ch la fd bc bp bh ba fs) := hD
            refine lv_aload_n hx hb dX4_set_83 rfl (lv_at hl 1 rfl) ?_
            refine lv_iload_n hx hb dX4_set_84 rfl (lv_at hl 2 rfl) ?_
            refine lv_iconst (v := 1) hx hb dX4_set_85 (by decide) ?_
            refine lv_icmp_ne (tgt := 93) hx hb dX4_set_86 (by decide) (fun c_86 => ?_) (fun c_86 => ?_)
            · refine lv_aload_n hx hb dX4_set_93 rfl (lv_at hl 1 rfl) ?_
              refine va_get (D := (dC, dI)) (ci := 4) (v := .int ep) (C := RX4) (T := TX4) (N := 22) hx hb hT in_X4 hown hK hP 0 rfl rfl 10 (by decide) (hT _ mw_471) (fun _ h9 => h9) rfl dX4_set_94 ?_
              refine va_put (D := (dC, dI)) (ci := 4) (v := .int ep) (ty := .int) (C := RX4) (T := TX4) (N := 22) hx hb hT in_X4 tyX4 tyX4_ok nmX4 hown hK hP hD hS 0 rfl rfl 10 (by decide) (hT _ mw_471) (fun _ h9 => h9) rfl (by decide +kernel) rfl rfl (Nat.le_of_ble_eq_true rfl) dX4_set_97 (fun H locs hP hD hS => ?_)
              have hP : va_P (dC, dI) vwCl (dk_R cI cII aR 0 du fr le fi ne sz ar pr x1 ep pt cf cp ch la fd bc bp bh ba fs) H := hP
              have hD : va_D A (dk_R cI cII aR 0 du fr le fi ne sz ar pr x1 ep pt cf cp ch la fd bc bp bh ba fs) := hD
              refine lv_iload_n hx hb dX4_set_100 rfl (lv_at hl 0 rfl) ?_
              have hk : rk_kSet x0 x1 = 0 := by unfold rk_kSet rk_kSet1; rw [if_pos c_2, if_neg c_14] <;> rfl
              simp only [if_pos hk] at hret
              rw [hk] at hret
              simp only [if_pos c_2, if_neg c_86] at hret
              exact hret _ () _ _ _ _ rfl hP hD hS dX4_set_101
            · exact absurd (c_86.symm.trans c_2) (by decide)
      · exact absurd (by decide) c_46
    · refine lv_iload_n hx hb dX4_set_17 rfl (lv_at hl 1 rfl) ?_
      refine lv_iconst (v := 1) hx hb dX4_set_18 (by decide) ?_
      refine lv_icmp_ne (tgt := 38) hx hb dX4_set_19 (by decide) (fun c_19 => ?_) (fun c_19 => ?_)
      · refine lv_iconst (v := 1) hx hb dX4_set_38 (by decide) ?_
        refine va_put (D := (dC, dI)) (ci := 4) (v := .int 1) (ty := .int) (C := RX4) (T := TX4) (N := 22) hx hb hT in_X4 tyX4 tyX4_ok nmX4 hown hK hP hD hS 0 rfl rfl 0 (by decide) (hT _ mw_461) (fun _ h9 => h9) rfl (by decide +kernel) rfl rfl (Nat.le_of_ble_eq_true rfl) dX4_set_39 (fun H locs hP hD hS => ?_)
        have hP : va_P (dC, dI) vwCl (dk_R cI cII aR 1 du fr le fi ne sz ar pr sp ep pt cf cp ch la fd bc bp bh ba fs) H := hP
        have hD : va_D A (dk_R cI cII aR 1 du fr le fi ne sz ar pr sp ep pt cf cp ch la fd bc bp bh ba fs) := hD
        refine lv_aload_n hx hb dX4_set_42 rfl (lv_at hl 0 rfl) ?_
        refine va_get (D := (dC, dI)) (ci := 4) (v := .int 1) (C := RX4) (T := TX4) (N := 22) hx hb hT in_X4 hown hK hP 0 rfl rfl 0 (by decide) (hT _ mw_461) (fun _ h9 => h9) rfl dX4_set_43 ?_
        refine lv_if_le (tgt := 51) hx hb dX4_set_46 (by decide) (fun c_46 => ?_) (fun c_46 => ?_)
        · exact absurd c_46 (by decide)
        · refine lv_iconst (v := 0) hx hb dX4_set_49 (by decide) ?_
          have hk : rk_kSet x0 x1 = 1 := by unfold rk_kSet rk_kSet1; rw [if_pos c_2, if_pos c_14, if_neg c_19] <;> rfl
          have hk0 : ¬ rk_kSet x0 x1 = 0 := by rw [hk]; decide
          simp only [if_neg hk0] at hret
          rw [hk] at hret
          exact hret _ () _ _ _ _ rfl hP hD hS dX4_set_50
      · exact absurd (c_19.symm.trans c_2) (by decide)
