set_option maxHeartbeats 4000000 in
set_option maxRecDepth 100000 in
/-- DuctSizesModel.least -/
theorem c_X4_least (l : Launch) (dC : Nat → ClassId) (dI : Nat → Nat → Nat) (cI cII : ClassId) (aR : Nat → Nat) (cd : Int32) (fr : Nat → Int32) (le : Nat → Int32) (fi : Nat → Int32) (ne : Nat → Int32) (ar : Nat → Int32) (pr : Nat → Int32) (ep : Int32) (pt : Int32) (cf : Nat → Int32) (cp : Nat → Int32) (ch : Nat → Int32) (la : Nat → Int64) (fd : Int32) (bc : Int64) (bp : Int64) (bh : Nat → Int32) (ba : Nat → Int64) (fs : Nat → Int64) (d : Nat) (z : Nat) (spN : Nat) (frN : Nat → Nat) (leN : Nat → Nat) (fiN : Nat → Nat) (neN : Nat → Nat) (arN : Nat → Nat) (prN : Nat → Nat) (x0 : Int32) (hz : Nat) (hd1 : d ≤ 6) (hz1 : z ≤ 4) (hO : rk_Ok d z fr le fi ne ar pr frN leN fiN neN arN prN) : dk_Mi l yX4_least wsX4_least ({ frames := 4, cells := 0, slots := 0, locals := 95 }) (dC, dI) (dk_TR cI cII) [.ref (aR 0), .int x0] (dk_R cI cII aR cd (nI d) fr le fi ne (nI z) ar pr (nI spN) ep pt cf cp ch la fd bc bp bh ba fs) hz (fun (r : Int32) (_ : Unit) => r = if rk_kLeast x0 = 0 then (dk_loop (rk_lr d z (rk_nr (rk_fa frN leN fiN neN arN spN d) z d 1 fs) frN leN prN x0) (z ^ d) 0 (ch, la, (-1 : Int64))).2.2.toInt32 else 0) (fun _ => dk_R cI cII aR (rk_kLeast x0) (nI d) fr le fi ne (nI z) ar pr (nI spN) ep pt cf cp (if rk_kLeast x0 = 0 then (dk_loop (rk_lr d z (rk_nr (rk_fa frN leN fiN neN arN spN d) z d 1 fs) frN leN prN x0) (z ^ d) 0 (ch, la, (-1 : Int64))).1 else ch) (if rk_kLeast x0 = 0 then (dk_loop (rk_lr d z (rk_nr (rk_fa frN leN fiN neN arN spN d) z d 1 fs) frN leN prN x0) (z ^ d) 0 (ch, la, (-1 : Int64))).2.1 else la) fd bc bp bh ba (if rk_kLeast x0 = 0 then (rk_nr (rk_fa frN leN fiN neN arN spN d) z d 1 fs) else fs)) 0 0 := by
  refine dk_ofMi (cc := cX4_least) (maxL := 8) (by decide) rfl (Nat.le_of_ble_eq_true rfl) ?_
  intro p e s m args below meth c A ls Q ⟨hx, hb, hml, hts, hown, hnm⟩ hsz hK hP hD hA hS hl hret
  have hT : ∀ w ∈ dk_tbl, w.before args s = true := fun w h => hts w (List.mem_cons_of_mem _ h)
  have hown : s.vm.findClass RX4 = some m.cls := hown
  have hl : lv_has ls 8 [(0, .ref (aR 0)), (1, .int x0)] := hl
  refine lv_aload_n hx hb dX4_least_0 rfl (lv_at hl 0 rfl) ?_
  refine lv_iload_n hx hb dX4_least_1 rfl (lv_at hl 1 rfl) ?_
  refine lv_i2l (v := (x0).toInt64) hx hb dX4_least_2 rfl ?_
  refine lv_lconst (v := 0) hx hb dX4_least_3 (by decide) ?_
  refine lv_ldc2 (v := 300) hx hb hown (hT _ mw_565) dX4_least_4 ?_
  refine dk_csi (va_runS (As := [.long ((x0).toInt64), .long 0, .long 300]) (rest := [.ref (aR 0)]) ⟨hx, hb, hml, hown, hT⟩ (c_X4_isIn l dC dI cI cII ((x0).toInt64) 0 300) (va_cwS 3 hT (dk_gS mw_537 mw_538 mw_27 mw_539) rfl rfl rfl (by decide +kernel) ⟨(Nat.le_of_ble_eq_true rfl), (Nat.le_of_ble_eq_true rfl)⟩) (dk_preRS hK hP [] rfl) rfl rfl hl.1 rfl (lv_room (Nat.le_of_ble_eq_true rfl)) dX4_least_7 ⟨Nat.le_of_ble_eq_true rfl, Nat.le_of_ble_eq_true rfl⟩) (fun r9 h9 => ?_)
  subst h9
  refine lv_if_eq (tgt := 17) hx hb dX4_least_10 (by decide) (fun c_10 => ?_) (fun c_10 => ?_)
  · refine lv_iconst (v := 1) hx hb dX4_least_17 (by decide) ?_
    refine va_put (D := (dC, dI)) (ci := 4) (v := .int 1) (ty := .int) (C := RX4) (T := TX4) (N := 22) hx hb hT in_X4 tyX4 tyX4_ok nmX4 hown hK hP hD hS 0 rfl rfl 0 (by decide) (hT _ mw_461) (fun _ h9 => h9) rfl (by decide +kernel) rfl rfl (Nat.le_of_ble_eq_true rfl) dX4_least_18 (fun H locs hP hD hS => ?_)
    have hP : va_P (dC, dI) vwCl (dk_R cI cII aR 1 (nI d) fr le fi ne (nI z) ar pr (nI spN) ep pt cf cp ch la fd bc bp bh ba fs) H := hP
    have hD : va_D A (dk_R cI cII aR 1 (nI d) fr le fi ne (nI z) ar pr (nI spN) ep pt cf cp ch la fd bc bp bh ba fs) := hD
    refine lv_aload_n hx hb dX4_least_21 rfl (lv_at hl 0 rfl) ?_
    refine va_get (D := (dC, dI)) (ci := 4) (v := .int 1) (C := RX4) (T := TX4) (N := 22) hx hb hT in_X4 hown hK hP 0 rfl rfl 0 (by decide) (hT _ mw_461) (fun _ h9 => h9) rfl dX4_least_22 ?_
    refine lv_if_le (tgt := 30) hx hb dX4_least_25 (by decide) (fun c_25 => ?_) (fun c_25 => ?_)
    · exact absurd c_25 (by decide)
    · refine lv_iconst (v := 0) hx hb dX4_least_28 (by decide) ?_
      have hk : rk_kLeast x0 = 1 := by unfold rk_kLeast; rw [if_pos c_10] <;> rfl
      have hk0 : ¬ rk_kLeast x0 = 0 := by rw [hk]; decide
      simp only [if_neg hk0] at hret
      rw [hk] at hret
      exact hret _ () _ _ _ _ rfl hP hD hS dX4_least_29
  · refine lv_iconst (v := 0) hx hb dX4_least_13 (by decide) ?_
    refine lv_goto (tgt := 18) hx hb dX4_least_14 (by decide) ?_
    refine va_put (D := (dC, dI)) (ci := 4) (v := .int 0) (ty := .int) (C := RX4) (T := TX4) (N := 22) hx hb hT in_X4 tyX4 tyX4_ok nmX4 hown hK hP hD hS 0 rfl rfl 0 (by decide) (hT _ mw_461) (fun _ h9 => h9) rfl (by decide +kernel) rfl rfl (Nat.le_of_ble_eq_true rfl) dX4_least_18 (fun H locs hP hD hS => ?_)
    have hP : va_P (dC, dI) vwCl (dk_R cI cII aR 0 (nI d) fr le fi ne (nI z) ar pr (nI spN) ep pt cf cp ch la fd bc bp bh ba fs) H := hP
    have hD : va_D A (dk_R cI cII aR 0 (nI d) fr le fi ne (nI z) ar pr (nI spN) ep pt cf cp ch la fd bc bp bh ba fs) := hD
    refine lv_aload_n hx hb dX4_least_21 rfl (lv_at hl 0 rfl) ?_
    refine va_get (D := (dC, dI)) (ci := 4) (v := .int 0) (C := RX4) (T := TX4) (N := 22) hx hb hT in_X4 hown hK hP 0 rfl rfl 0 (by decide) (hT _ mw_461) (fun _ h9 => h9) rfl dX4_least_22 ?_
    refine lv_if_le (tgt := 30) hx hb dX4_least_25 (by decide) (fun c_25 => ?_) (fun c_25 => ?_)
    · have hzd := rk_pow hz1 hd1
      refine lv_aload_n hx hb dX4_least_30 rfl (lv_at hl 0 rfl) ?_
      refine dk_callv (wr := []) (va_runV (As := []) (rest := []) ⟨hx, hb, hml, hown, hT⟩ (c_X4_findFalls l dC dI cI cII aR 0 fr le fi ne ar pr ep pt cf cp ch la fd bc bp bh ba fs d z spN frN leN fiN neN arN prN _ hd1 hz1 hO) (cwV 0 hT (dk_gV mw_607 mw_609 mw_18 mw_27 mw_610) rfl rfl rfl (by decide +kernel) ⟨(Nat.le_of_ble_eq_true rfl), (Nat.le_of_ble_eq_true rfl)⟩) (dk_preV hK hP hD [0, 1, 2, 3, 4, 5, 6, 7, 8, 9, 10, 11, 12, 13] rfl rfl (q0 := 0) (ci := 4) rfl rfl) rfl rfl hl.1 rfl (lv_room (Nat.le_of_ble_eq_true rfl)) dX4_least_31 ⟨Nat.le_of_ble_eq_true rfl, Nat.le_of_ble_eq_true rfl⟩) hP hD hS hA [0, 1, 2, 3, 4, 5, 6, 7, 8, 9, 10, 11, 12, 13] [] rfl rfl rfl (by decide) (fun _ H locs h9 hP hD hS => ?_)
      have hP : va_P (dC, dI) vwCl (dk_R cI cII aR 0 (nI d) fr le fi ne (nI z) ar pr (nI spN) ep pt cf cp ch la fd bc bp bh ba (rk_nr (rk_fa frN leN fiN neN arN spN d) z d 1 fs)) H := hP
      have hD : va_D A (dk_R cI cII aR 0 (nI d) fr le fi ne (nI z) ar pr (nI spN) ep pt cf cp ch la fd bc bp bh ba (rk_nr (rk_fa frN leN fiN neN arN spN d) z d 1 fs)) := hD
      refine lv_ldc2 (v := (-1)) hx hb hown (hT _ mw_611) dX4_least_34 ?_
      refine lv_lstore_n (lv' := [(2, .long (-1)), (0, .ref (aR 0)), (1, .int x0)]) hx hb dX4_least_37 rfl hl (by decide) rfl (fun ls hl => ?_)
      refine lv_aload_n hx hb dX4_least_38 rfl (lv_at hl 1 rfl) ?_
      refine dk_csi (va_runV (As := []) (rest := []) ⟨hx, hb, hml, hown, hT⟩ (c_X4_ways l dC dI cI cII aR 0 fr le fi ne ar pr (nI spN) ep pt cf cp ch la fd bc bp bh ba (rk_nr (rk_fa frN leN fiN neN arN spN d) z d 1 fs) d z hd1) (cwV 0 hT (dk_gV mw_612 mw_614 mw_19 mw_27 mw_615) rfl rfl rfl (by decide +kernel) ⟨(Nat.le_of_ble_eq_true rfl), (Nat.le_of_ble_eq_true rfl)⟩) (dk_preRV hK hP [0, 1, 2, 3, 4, 5, 6, 7, 8, 9, 10, 11, 12, 13] rfl (q0 := 0) (ci := 4) rfl rfl) rfl rfl hl.1 rfl (lv_room (Nat.le_of_ble_eq_true rfl)) dX4_least_39 ⟨Nat.le_of_ble_eq_true rfl, Nat.le_of_ble_eq_true rfl⟩) (fun r9 h9 => ?_)
      subst h9
      refine lv_istore (lv' := [(4, .int (nI (z ^ d))), (2, .long (-1)), (0, .ref (aR 0)), (1, .int x0)]) hx hb dX4_least_42 hl (by decide) rfl (fun ls hl => ?_)
      refine lv_iconst (v := 0) hx hb dX4_least_44 (by decide) ?_
      refine lv_istore (lv' := [(5, .int 0), (4, .int (nI (z ^ d))), (2, .long (-1)), (0, .ref (aR 0)), (1, .int x0)]) hx hb dX4_least_45 hl (by decide) rfl (fun ls hl => ?_)
      have lp47 : ∀ (n w : Nat) (st : rk_LS) (H : Heap) (locs : List Loc) (ls : Array Slot), w + n = z ^ d → dk_loop (rk_lr d z (rk_nr (rk_fa frN leN fiN neN arN spN d) z d 1 fs) frN leN prN x0) n w st = (dk_loop (rk_lr d z (rk_nr (rk_fa frN leN fiN neN arN spN d) z d 1 fs) frN leN prN x0) (z ^ d) 0 (ch, la, (-1 : Int64))) → va_P (dC, dI) vwCl (dk_R cI cII aR 0 (nI d) fr le fi ne (nI z) ar pr (nI spN) ep pt cf cp (st.1) (st.2.1) fd bc bp bh ba (rk_nr (rk_fa frN leN fiN neN arN spN d) z d 1 fs)) H → va_D A (dk_R cI cII aR 0 (nI d) fr le fi ne (nI z) ar pr (nI spN) ep pt cf cp (st.1) (st.2.1) fd bc bp bh ba (rk_nr (rk_fa frN leN fiN neN arN spN d) z d 1 fs)) → va_S A s.heap H locs → lv_has ls 8 [(5, .int (nI w)), (4, .int (nI (z ^ d))), (2, .long (st.2.2)), (0, .ref (aR 0)), (1, .int x0)] → W p l e ({ frames := 4, cells := 0, slots := 0, locals := 95 }) s m args below meth c H locs 0 0 Q (F0 m 47 ls []) := by
        intro n
        induction n with
        | zero =>
          intro w st H locs ls hin47 hf47_0 hP hD hS hl
          have hf47_0 : st = (dk_loop (rk_lr d z (rk_nr (rk_fa frN leN fiN neN arN spN d) z d 1 fs) frN leN prN x0) (z ^ d) 0 (ch, la, (-1 : Int64))) := hf47_0
          subst hf47_0
          refine lv_iload hx hb dX4_least_47 (lv_at hl 0 rfl) ?_
          refine lv_iload hx hb dX4_least_49 (lv_at hl 1 rfl) ?_
          refine lv_icmp_ge (tgt := 103) hx hb dX4_least_51 (by decide) (fun c_51 => ?_) (fun c_51 => ?_)
          · refine lv_lload_n hx hb dX4_least_103 rfl (lv_at hl 2 rfl) ?_
            refine lv_l2i (v := ((dk_loop (rk_lr d z (rk_nr (rk_fa frN leN fiN neN arN spN d) z d 1 fs) frN leN prN x0) (z ^ d) 0 (ch, la, (-1 : Int64))).2.2).toInt32) hx hb dX4_least_104 rfl ?_
            have hk : rk_kLeast x0 = 0 := by unfold rk_kLeast; rw [if_neg c_10] <;> rfl
            simp only [if_pos hk] at hret
            rw [hk] at hret
            exact hret _ () _ _ _ _ rfl hP hD hS dX4_least_105
          · exact absurd (nI_le (by omega) (by omega)) c_51
        | succ n ih47 =>
          intro w st H locs ls hin47 hf47_0 hP hD hS hl
          refine lv_iload hx hb dX4_least_47 (lv_at hl 0 rfl) ?_
          refine lv_iload hx hb dX4_least_49 (lv_at hl 1 rfl) ?_
          refine lv_icmp_ge (tgt := 103) hx hb dX4_least_51 (by decide) (fun c_51 => ?_) (fun c_51 => ?_)
          · exact absurd c_51 (nI_ge (by omega) (by omega))
          · have hz0 : 0 < d → 0 < z := rk_z0 (w := w) (by omega)
            refine lv_aload_n hx hb dX4_least_54 rfl (lv_at hl 3 rfl) ?_
            refine lv_iload hx hb dX4_least_55 (lv_at hl 0 rfl) ?_
            refine dk_calll (wr := []) (va_runV (As := [.int (nI w)]) (rest := []) ⟨hx, hb, hml, hown, hT⟩ (c_X4_look l dC dI cI cII aR 0 fr le fi ne ar pr (nI spN) ep pt cf cp (st.1) (st.2.1) fd bc bp bh ba (rk_nr (rk_fa frN leN fiN neN arN spN d) z d 1 fs) d z frN leN fiN neN arN prN w _ hd1 hz1 hO hz0 (by omega)) (cwV 1 hT (dk_gV mw_616 mw_618 mw_20 mw_27 mw_619) rfl rfl rfl (by decide +kernel) ⟨(Nat.le_of_ble_eq_true rfl), (Nat.le_of_ble_eq_true rfl)⟩) (dk_preV hK hP hD [0, 1, 2, 3, 4, 5, 6, 7, 8, 9, 10, 11, 12, 13] rfl rfl (q0 := 0) (ci := 4) rfl rfl) rfl rfl hl.1 rfl (lv_room (Nat.le_of_ble_eq_true rfl)) dX4_least_57 ⟨Nat.le_of_ble_eq_true rfl, Nat.le_of_ble_eq_true rfl⟩) hP hD hS hA [0, 1, 2, 3, 4, 5, 6, 7, 8, 9, 10, 11, 12, 13] [] rfl rfl rfl (by decide) (fun r9 _ H locs h9 hP hD hS => ?_)
            subst h9
            have hP : va_P (dC, dI) vwCl (dk_R cI cII aR 0 (nI d) fr le fi ne (nI z) ar pr (nI spN) ep pt cf cp (rk_dg z d (st.1) w) ((rk_lk (rk_nr (rk_fa frN leN fiN neN arN spN d) z d 1 fs) (rk_cN z d w) frN d 1 (st.2.1) 0).1) fd bc bp bh ba (rk_nr (rk_fa frN leN fiN neN arN spN d) z d 1 fs)) H := hP
            have hD : va_D A (dk_R cI cII aR 0 (nI d) fr le fi ne (nI z) ar pr (nI spN) ep pt cf cp (rk_dg z d (st.1) w) ((rk_lk (rk_nr (rk_fa frN leN fiN neN arN spN d) z d 1 fs) (rk_cN z d w) frN d 1 (st.2.1) 0).1) fd bc bp bh ba (rk_nr (rk_fa frN leN fiN neN arN spN d) z d 1 fs)) := hD
            refine lv_lstore (lv' := [(6, .long ((rk_lk (rk_nr (rk_fa frN leN fiN neN arN spN d) z d 1 fs) (rk_cN z d w) frN d 1 (st.2.1) 0).2)), (5, .int (nI w)), (4, .int (nI (z ^ d))), (2, .long (st.2.2)), (0, .ref (aR 0)), (1, .int x0)]) hx hb dX4_least_60 hl (by decide) rfl (fun ls hl => ?_)
            refine lv_lload hx hb dX4_least_62 (lv_at hl 0 rfl) ?_
            refine lv_lconst (v := 0) hx hb dX4_least_64 (by decide) ?_
            refine dk_lif_lt (tgt := 97) hx hb dX4_least_65 dX4_least_66 (by decide) (fun c_66 => ?_) (fun c_66 => ?_)
            · refine lv_iinc (v := (nI (w + 1))) (lv' := [(5, .int (nI (w + 1))), (6, .long ((rk_lk (rk_nr (rk_fa frN leN fiN neN arN spN d) z d 1 fs) (rk_cN z d w) frN d 1 (st.2.1) 0).2)), (4, .int (nI (z ^ d))), (2, .long (st.2.2)), (0, .ref (aR 0)), (1, .int x0)]) hx hb dX4_least_97 hl (k := 1) rfl (nI_1 w) (by decide) rfl (fun ls hl => ?_)
              refine lv_goto (tgt := 47) hx hb dX4_least_100 (by decide) ?_
              exact ih47 (w + 1) ((rk_dg z d st.1 w), (rk_lk (rk_nr (rk_fa frN leN fiN neN arN spN d) z d 1 fs) (rk_cN z d w) frN d 1 st.2.1 0).1, st.2.2) _ _ _ (by omega) (by rw [← hf47_0]; show _ = dk_loop (rk_lr d z (rk_nr (rk_fa frN leN fiN neN arN spN d) z d 1 fs) frN leN prN x0) n (w + 1) (rk_lr d z (rk_nr (rk_fa frN leN fiN neN arN spN d) z d 1 fs) frN leN prN x0 w st); rw [show (rk_lr d z (rk_nr (rk_fa frN leN fiN neN arN spN d) z d 1 fs) frN leN prN x0) w st = ((rk_dg z d st.1 w), (rk_lk (rk_nr (rk_fa frN leN fiN neN arN spN d) z d 1 fs) (rk_cN z d w) frN d 1 st.2.1 0).1, st.2.2) from (by unfold rk_lr rk_lr1; rw [if_pos c_66])]) hP hD hS (lv_sub hl [0, 2, 3, 4, 5] rfl)
            · refine lv_lload hx hb dX4_least_69 (lv_at hl 0 rfl) ?_
              refine lv_iload_n hx hb dX4_least_71 rfl (lv_at hl 5 rfl) ?_
              refine lv_i2l (v := (x0).toInt64) hx hb dX4_least_72 rfl ?_
              refine dk_lif_gt (tgt := 97) hx hb dX4_least_73 dX4_least_74 (by decide) (fun c_74 => ?_) (fun c_74 => ?_)
              · refine lv_iinc (v := (nI (w + 1))) (lv' := [(5, .int (nI (w + 1))), (6, .long ((rk_lk (rk_nr (rk_fa frN leN fiN neN arN spN d) z d 1 fs) (rk_cN z d w) frN d 1 (st.2.1) 0).2)), (4, .int (nI (z ^ d))), (2, .long (st.2.2)), (0, .ref (aR 0)), (1, .int x0)]) hx hb dX4_least_97 hl (k := 1) rfl (nI_1 w) (by decide) rfl (fun ls hl => ?_)
                refine lv_goto (tgt := 47) hx hb dX4_least_100 (by decide) ?_
                exact ih47 (w + 1) ((rk_dg z d st.1 w), (rk_lk (rk_nr (rk_fa frN leN fiN neN arN spN d) z d 1 fs) (rk_cN z d w) frN d 1 st.2.1 0).1, st.2.2) _ _ _ (by omega) (by rw [← hf47_0]; show _ = dk_loop (rk_lr d z (rk_nr (rk_fa frN leN fiN neN arN spN d) z d 1 fs) frN leN prN x0) n (w + 1) (rk_lr d z (rk_nr (rk_fa frN leN fiN neN arN spN d) z d 1 fs) frN leN prN x0 w st); rw [show (rk_lr d z (rk_nr (rk_fa frN leN fiN neN arN spN d) z d 1 fs) frN leN prN x0) w st = ((rk_dg z d st.1 w), (rk_lk (rk_nr (rk_fa frN leN fiN neN arN spN d) z d 1 fs) (rk_cN z d w) frN d 1 st.2.1 0).1, st.2.2) from (by unfold rk_lr rk_lr1; rw [if_neg c_66, if_pos c_74])]) hP hD hS (lv_sub hl [0, 2, 3, 4, 5] rfl)
              · refine lv_lload_n hx hb dX4_least_77 rfl (lv_at hl 3 rfl) ?_
                refine lv_lconst (v := 0) hx hb dX4_least_78 (by decide) ?_
                refine dk_lif_lt (tgt := 92) hx hb dX4_least_79 dX4_least_80 (by decide) (fun c_80 => ?_) (fun c_80 => ?_)
                · refine lv_aload_n hx hb dX4_least_92 rfl (lv_at hl 4 rfl) ?_
                  refine dk_csl (va_runV (As := []) (rest := []) ⟨hx, hb, hml, hown, hT⟩ (c_X4_price l dC dI cI cII aR 0 fr le fi ne ar pr (nI spN) ep pt cf cp (rk_dg z d (st.1) w) ((rk_lk (rk_nr (rk_fa frN leN fiN neN arN spN d) z d 1 fs) (rk_cN z d w) frN d 1 (st.2.1) 0).1) fd bc bp bh ba (rk_nr (rk_fa frN leN fiN neN arN spN d) z d 1 fs) d z frN leN fiN neN arN prN (rk_cN z d w) hd1 hz1 hO (rk_dg_in hz0)) (cwV 0 hT (dk_gV mw_620 mw_622 mw_21 mw_27 mw_623) rfl rfl rfl (by decide +kernel) ⟨(Nat.le_of_ble_eq_true rfl), (Nat.le_of_ble_eq_true rfl)⟩) (dk_preRV hK hP [0, 1, 2, 3, 4, 5, 6, 7, 8, 9, 10, 11, 12, 13] rfl (q0 := 0) (ci := 4) rfl rfl) rfl rfl hl.1 rfl (lv_room (Nat.le_of_ble_eq_true rfl)) dX4_least_93 ⟨Nat.le_of_ble_eq_true rfl, Nat.le_of_ble_eq_true rfl⟩) (fun r9 h9 => ?_)
                  subst h9
                  refine lv_lstore_n (lv' := [(2, .long (lN (rk_pr leN prN (rk_cN z d w) d 1 0))), (6, .long ((rk_lk (rk_nr (rk_fa frN leN fiN neN arN spN d) z d 1 fs) (rk_cN z d w) frN d 1 (st.2.1) 0).2)), (5, .int (nI w)), (4, .int (nI (z ^ d))), (0, .ref (aR 0)), (1, .int x0)]) hx hb dX4_least_96 rfl hl (by decide) rfl (fun ls hl => ?_)
                  refine lv_iinc (v := (nI (w + 1))) (lv' := [(5, .int (nI (w + 1))), (2, .long (lN (rk_pr leN prN (rk_cN z d w) d 1 0))), (6, .long ((rk_lk (rk_nr (rk_fa frN leN fiN neN arN spN d) z d 1 fs) (rk_cN z d w) frN d 1 (st.2.1) 0).2)), (4, .int (nI (z ^ d))), (0, .ref (aR 0)), (1, .int x0)]) hx hb dX4_least_97 hl (k := 2) rfl (nI_1 w) (by decide) rfl (fun ls hl => ?_)
                  refine lv_goto (tgt := 47) hx hb dX4_least_100 (by decide) ?_
                  exact ih47 (w + 1) ((rk_dg z d st.1 w), (rk_lk (rk_nr (rk_fa frN leN fiN neN arN spN d) z d 1 fs) (rk_cN z d w) frN d 1 st.2.1 0).1, lN (rk_pr leN prN (rk_cN z d w) d 1 0)) _ _ _ (by omega) (by rw [← hf47_0]; show _ = dk_loop (rk_lr d z (rk_nr (rk_fa frN leN fiN neN arN spN d) z d 1 fs) frN leN prN x0) n (w + 1) (rk_lr d z (rk_nr (rk_fa frN leN fiN neN arN spN d) z d 1 fs) frN leN prN x0 w st); rw [show (rk_lr d z (rk_nr (rk_fa frN leN fiN neN arN spN d) z d 1 fs) frN leN prN x0) w st = ((rk_dg z d st.1 w), (rk_lk (rk_nr (rk_fa frN leN fiN neN arN spN d) z d 1 fs) (rk_cN z d w) frN d 1 st.2.1 0).1, lN (rk_pr leN prN (rk_cN z d w) d 1 0)) from (by unfold rk_lr rk_lr1; rw [if_neg c_66, if_neg c_74, if_pos c_80])]) hP hD hS (lv_sub hl [0, 3, 1, 4, 5] rfl)
                · refine lv_aload_n hx hb dX4_least_83 rfl (lv_at hl 4 rfl) ?_
                  refine dk_csl (va_runV (As := []) (rest := []) ⟨hx, hb, hml, hown, hT⟩ (c_X4_price l dC dI cI cII aR 0 fr le fi ne ar pr (nI spN) ep pt cf cp (rk_dg z d (st.1) w) ((rk_lk (rk_nr (rk_fa frN leN fiN neN arN spN d) z d 1 fs) (rk_cN z d w) frN d 1 (st.2.1) 0).1) fd bc bp bh ba (rk_nr (rk_fa frN leN fiN neN arN spN d) z d 1 fs) d z frN leN fiN neN arN prN (rk_cN z d w) hd1 hz1 hO (rk_dg_in hz0)) (cwV 0 hT (dk_gV mw_620 mw_622 mw_21 mw_27 mw_623) rfl rfl rfl (by decide +kernel) ⟨(Nat.le_of_ble_eq_true rfl), (Nat.le_of_ble_eq_true rfl)⟩) (dk_preRV hK hP [0, 1, 2, 3, 4, 5, 6, 7, 8, 9, 10, 11, 12, 13] rfl (q0 := 0) (ci := 4) rfl rfl) rfl rfl hl.1 rfl (lv_room (Nat.le_of_ble_eq_true rfl)) dX4_least_84 ⟨Nat.le_of_ble_eq_true rfl, Nat.le_of_ble_eq_true rfl⟩) (fun r9 h9 => ?_)
                  subst h9
                  refine lv_lload_n hx hb dX4_least_87 rfl (lv_at hl 3 rfl) ?_
                  refine dk_lif_ge (tgt := 97) hx hb dX4_least_88 dX4_least_89 (by decide) (fun c_89 => ?_) (fun c_89 => ?_)
                  · refine lv_iinc (v := (nI (w + 1))) (lv' := [(5, .int (nI (w + 1))), (6, .long ((rk_lk (rk_nr (rk_fa frN leN fiN neN arN spN d) z d 1 fs) (rk_cN z d w) frN d 1 (st.2.1) 0).2)), (4, .int (nI (z ^ d))), (2, .long (st.2.2)), (0, .ref (aR 0)), (1, .int x0)]) hx hb dX4_least_97 hl (k := 1) rfl (nI_1 w) (by decide) rfl (fun ls hl => ?_)
                    refine lv_goto (tgt := 47) hx hb dX4_least_100 (by decide) ?_
                    exact ih47 (w + 1) ((rk_dg z d st.1 w), (rk_lk (rk_nr (rk_fa frN leN fiN neN arN spN d) z d 1 fs) (rk_cN z d w) frN d 1 st.2.1 0).1, st.2.2) _ _ _ (by omega) (by rw [← hf47_0]; show _ = dk_loop (rk_lr d z (rk_nr (rk_fa frN leN fiN neN arN spN d) z d 1 fs) frN leN prN x0) n (w + 1) (rk_lr d z (rk_nr (rk_fa frN leN fiN neN arN spN d) z d 1 fs) frN leN prN x0 w st); rw [show (rk_lr d z (rk_nr (rk_fa frN leN fiN neN arN spN d) z d 1 fs) frN leN prN x0) w st = ((rk_dg z d st.1 w), (rk_lk (rk_nr (rk_fa frN leN fiN neN arN spN d) z d 1 fs) (rk_cN z d w) frN d 1 st.2.1 0).1, st.2.2) from (by unfold rk_lr rk_lr1; rw [if_neg c_66, if_neg c_74, if_neg c_80, if_pos c_89])]) hP hD hS (lv_sub hl [0, 2, 3, 4, 5] rfl)
                  · refine lv_aload_n hx hb dX4_least_92 rfl (lv_at hl 4 rfl) ?_
                    refine dk_csl (va_runV (As := []) (rest := []) ⟨hx, hb, hml, hown, hT⟩ (c_X4_price l dC dI cI cII aR 0 fr le fi ne ar pr (nI spN) ep pt cf cp (rk_dg z d (st.1) w) ((rk_lk (rk_nr (rk_fa frN leN fiN neN arN spN d) z d 1 fs) (rk_cN z d w) frN d 1 (st.2.1) 0).1) fd bc bp bh ba (rk_nr (rk_fa frN leN fiN neN arN spN d) z d 1 fs) d z frN leN fiN neN arN prN (rk_cN z d w) hd1 hz1 hO (rk_dg_in hz0)) (cwV 0 hT (dk_gV mw_620 mw_622 mw_21 mw_27 mw_623) rfl rfl rfl (by decide +kernel) ⟨(Nat.le_of_ble_eq_true rfl), (Nat.le_of_ble_eq_true rfl)⟩) (dk_preRV hK hP [0, 1, 2, 3, 4, 5, 6, 7, 8, 9, 10, 11, 12, 13] rfl (q0 := 0) (ci := 4) rfl rfl) rfl rfl hl.1 rfl (lv_room (Nat.le_of_ble_eq_true rfl)) dX4_least_93 ⟨Nat.le_of_ble_eq_true rfl, Nat.le_of_ble_eq_true rfl⟩) (fun r9 h9 => ?_)
                    subst h9
                    refine lv_lstore_n (lv' := [(2, .long (lN (rk_pr leN prN (rk_cN z d w) d 1 0))), (6, .long ((rk_lk (rk_nr (rk_fa frN leN fiN neN arN spN d) z d 1 fs) (rk_cN z d w) frN d 1 (st.2.1) 0).2)), (5, .int (nI w)), (4, .int (nI (z ^ d))), (0, .ref (aR 0)), (1, .int x0)]) hx hb dX4_least_96 rfl hl (by decide) rfl (fun ls hl => ?_)
                    refine lv_iinc (v := (nI (w + 1))) (lv' := [(5, .int (nI (w + 1))), (2, .long (lN (rk_pr leN prN (rk_cN z d w) d 1 0))), (6, .long ((rk_lk (rk_nr (rk_fa frN leN fiN neN arN spN d) z d 1 fs) (rk_cN z d w) frN d 1 (st.2.1) 0).2)), (4, .int (nI (z ^ d))), (0, .ref (aR 0)), (1, .int x0)]) hx hb dX4_least_97 hl (k := 2) rfl (nI_1 w) (by decide) rfl (fun ls hl => ?_)
                    refine lv_goto (tgt := 47) hx hb dX4_least_100 (by decide) ?_
                    exact ih47 (w + 1) ((rk_dg z d st.1 w), (rk_lk (rk_nr (rk_fa frN leN fiN neN arN spN d) z d 1 fs) (rk_cN z d w) frN d 1 st.2.1 0).1, lN (rk_pr leN prN (rk_cN z d w) d 1 0)) _ _ _ (by omega) (by rw [← hf47_0]; show _ = dk_loop (rk_lr d z (rk_nr (rk_fa frN leN fiN neN arN spN d) z d 1 fs) frN leN prN x0) n (w + 1) (rk_lr d z (rk_nr (rk_fa frN leN fiN neN arN spN d) z d 1 fs) frN leN prN x0 w st); rw [show (rk_lr d z (rk_nr (rk_fa frN leN fiN neN arN spN d) z d 1 fs) frN leN prN x0) w st = ((rk_dg z d st.1 w), (rk_lk (rk_nr (rk_fa frN leN fiN neN arN spN d) z d 1 fs) (rk_cN z d w) frN d 1 st.2.1 0).1, lN (rk_pr leN prN (rk_cN z d w) d 1 0)) from (by unfold rk_lr rk_lr1; rw [if_neg c_66, if_neg c_74, if_neg c_80, if_neg c_89])]) hP hD hS (lv_sub hl [0, 3, 1, 4, 5] rfl)
      exact lp47 (z ^ d) 0 (ch, la, (-1 : Int64)) _ _ _ (by omega) rfl hP hD hS (lv_sub hl [0, 1, 2, 3, 4] rfl)
    · exact absurd (by decide) c_25
