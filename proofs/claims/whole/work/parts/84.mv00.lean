set_option maxHeartbeats 4000000 in
set_option maxRecDepth 100000 in
/-- DuctSizesModel.findFalls -/
theorem c_X4_findFalls (l : Launch) (dC : Nat → ClassId) (dI : Nat → Nat → Nat) (cI cII : ClassId) (aR : Nat → Nat) (cd : Int32) (fr : Nat → Int32) (le : Nat → Int32) (fi : Nat → Int32) (ne : Nat → Int32) (ar : Nat → Int32) (pr : Nat → Int32) (ep : Int32) (pt : Int32) (cf : Nat → Int32) (cp : Nat → Int32) (ch : Nat → Int32) (la : Nat → Int64) (fd : Int32) (bc : Int64) (bp : Int64) (bh : Nat → Int32) (ba : Nat → Int64) (fs : Nat → Int64) (d : Nat) (z : Nat) (spN : Nat) (frN : Nat → Nat) (leN : Nat → Nat) (fiN : Nat → Nat) (neN : Nat → Nat) (arN : Nat → Nat) (prN : Nat → Nat) (hz : Nat) (hd1 : d ≤ 6) (hz1 : z ≤ 4) (hO : rk_Ok d z fr le fi ne ar pr frN leN fiN neN arN prN) : dk_Mv l yX4_findFalls wsX4_findFalls ({ frames := 3, cells := 0, slots := 0, locals := 73 }) (dC, dI) (dk_TR cI cII) [.ref (aR 0)] (dk_R cI cII aR cd (nI d) fr le fi ne (nI z) ar pr (nI spN) ep pt cf cp ch la fd bc bp bh ba fs) hz (fun (_ : Unit) => True) (fun _ => dk_R cI cII aR cd (nI d) fr le fi ne (nI z) ar pr (nI spN) ep pt cf cp ch la fd bc bp bh ba (rk_nr (rk_fa frN leN fiN neN arN spN d) z d 1 fs)) 0 0 := by
  refine dk_ofMv (cc := cX4_findFalls) (maxL := 3) (by decide) rfl (Nat.le_of_ble_eq_true rfl) ?_
  intro p e s m args below meth c A ls Q ⟨hx, hb, hml, hts, hown, hnm⟩ hsz hK hP hD hA hS hl hret
  have hT : ∀ w ∈ dk_tbl, w.before args s = true := fun w h => hts w (List.mem_cons_of_mem _ h)
  have hown : s.vm.findClass RX4 = some m.cls := hown
  have hl : lv_has ls 3 [(0, .ref (aR 0))] := hl
  refine lv_iconst (v := 1) hx hb dX4_findFalls_0 (by decide) ?_
  refine lv_istore_n (lv' := [(1, .int 1), (0, .ref (aR 0))]) hx hb dX4_findFalls_1 rfl hl (by decide) rfl (fun ls hl => ?_)
  have lp2 : ∀ (n i : Nat) (G : Nat → Int64) (H : Heap) (locs : List Loc) (ls : Array Slot), i + n = d + 1 ∧ 1 ≤ i → rk_nr (rk_fa frN leN fiN neN arN spN d) z n i G = (rk_nr (rk_fa frN leN fiN neN arN spN d) z d 1 fs) → va_P (dC, dI) vwCl (dk_R cI cII aR cd (nI d) fr le fi ne (nI z) ar pr (nI spN) ep pt cf cp ch la fd bc bp bh ba G) H → va_D A (dk_R cI cII aR cd (nI d) fr le fi ne (nI z) ar pr (nI spN) ep pt cf cp ch la fd bc bp bh ba G) → va_S A s.heap H locs → lv_has ls 3 [(1, .int (nI i)), (0, .ref (aR 0))] → W p l e ({ frames := 3, cells := 0, slots := 0, locals := 73 }) s m args below meth c H locs 0 0 Q (F0 m 2 ls []) := by
    intro n
    induction n with
    | zero =>
      intro i G H locs ls hin2 hf2_0 hP hD hS hl
      have hf2_0 : G = (rk_nr (rk_fa frN leN fiN neN arN spN d) z d 1 fs) := hf2_0
      subst hf2_0
      refine lv_iload_n hx hb dX4_findFalls_2 rfl (lv_at hl 0 rfl) ?_
      refine lv_aload_n hx hb dX4_findFalls_3 rfl (lv_at hl 1 rfl) ?_
      refine va_get (D := (dC, dI)) (ci := 4) (v := .int (nI d)) (C := RX4) (T := TX4) (N := 22) hx hb hT in_X4 hown hK hP 0 rfl rfl 1 (by decide) (hT _ mw_462) (fun _ h9 => h9) rfl dX4_findFalls_4 ?_
      refine lv_icmp_gt (tgt := 69) hx hb dX4_findFalls_7 (by decide) (fun c_7 => ?_) (fun c_7 => ?_)
      · exact hret () _ _ _ _ trivial hP hD hS dX4_findFalls_69
      · exact absurd (nI_lt (by omega) (by omega)) c_7
    | succ n ih2 =>
      intro i G H locs ls hin2 hf2_0 hP hD hS hl
      refine lv_iload_n hx hb dX4_findFalls_2 rfl (lv_at hl 0 rfl) ?_
      refine lv_aload_n hx hb dX4_findFalls_3 rfl (lv_at hl 1 rfl) ?_
      refine va_get (D := (dC, dI)) (ci := 4) (v := .int (nI d)) (C := RX4) (T := TX4) (N := 22) hx hb hT in_X4 hown hK hP 0 rfl rfl 1 (by decide) (hT _ mw_462) (fun _ h9 => h9) rfl dX4_findFalls_4 ?_
      refine lv_icmp_gt (tgt := 69) hx hb dX4_findFalls_7 (by decide) (fun c_7 => ?_) (fun c_7 => ?_)
      · exact absurd c_7 (nI_nlt (by omega) (by omega))
      · refine lv_iconst (v := 0) hx hb dX4_findFalls_10 (by decide) ?_
        refine lv_istore_n (lv' := [(2, .int 0), (1, .int (nI i)), (0, .ref (aR 0))]) hx hb dX4_findFalls_11 rfl hl (by decide) rfl (fun ls hl => ?_)
        have lp12 : ∀ (n2 j : Nat) (G2 : Nat → Int64) (H : Heap) (locs : List Loc) (ls : Array Slot), j + n2 = z → rk_nc (rk_fa frN leN fiN neN arN spN d) i n2 j G2 = (rk_nc (rk_fa frN leN fiN neN arN spN d) i z 0 G) → va_P (dC, dI) vwCl (dk_R cI cII aR cd (nI d) fr le fi ne (nI z) ar pr (nI spN) ep pt cf cp ch la fd bc bp bh ba G2) H → va_D A (dk_R cI cII aR cd (nI d) fr le fi ne (nI z) ar pr (nI spN) ep pt cf cp ch la fd bc bp bh ba G2) → va_S A s.heap H locs → lv_has ls 3 [(2, .int (nI j)), (1, .int (nI i)), (0, .ref (aR 0))] → W p l e ({ frames := 3, cells := 0, slots := 0, locals := 73 }) s m args below meth c H locs 0 0 Q (F0 m 12 ls []) := by
          intro n2
          induction n2 with
          | zero =>
            intro j G2 H locs ls hin12 hf12_0 hP hD hS hl
            have hf12_0 : G2 = (rk_nc (rk_fa frN leN fiN neN arN spN d) i z 0 G) := hf12_0
            subst hf12_0
            refine lv_iload_n hx hb dX4_findFalls_12 rfl (lv_at hl 0 rfl) ?_
            refine lv_aload_n hx hb dX4_findFalls_13 rfl (lv_at hl 2 rfl) ?_
            refine va_get (D := (dC, dI)) (ci := 4) (v := .int (nI z)) (C := RX4) (T := TX4) (N := 22) hx hb hT in_X4 hown hK hP 0 rfl rfl 6 (by decide) (hT _ mw_467) (fun _ h9 => h9) rfl dX4_findFalls_14 ?_
            refine lv_icmp_ge (tgt := 63) hx hb dX4_findFalls_17 (by decide) (fun c_17 => ?_) (fun c_17 => ?_)
            · refine lv_iinc (v := (nI (i + 1))) (lv' := [(1, .int (nI (i + 1))), (2, .int (nI j)), (0, .ref (aR 0))]) hx hb dX4_findFalls_63 hl (k := 1) rfl (nI_1 i) (by decide) rfl (fun ls hl => ?_)
              refine lv_goto (tgt := 2) hx hb dX4_findFalls_66 (by decide) ?_
              exact ih2 (i + 1) (rk_nc (rk_fa frN leN fiN neN arN spN d) i z 0 G) _ _ _ (by omega) (by rw [← hf2_0]; rfl) hP hD hS (lv_sub hl [0, 2] rfl)
            · exact absurd (nI_le (by omega) (by omega)) c_17
          | succ n2 ih12 =>
            intro j G2 H locs ls hin12 hf12_0 hP hD hS hl
            refine lv_iload_n hx hb dX4_findFalls_12 rfl (lv_at hl 0 rfl) ?_
            refine lv_aload_n hx hb dX4_findFalls_13 rfl (lv_at hl 2 rfl) ?_
            refine va_get (D := (dC, dI)) (ci := 4) (v := .int (nI z)) (C := RX4) (T := TX4) (N := 22) hx hb hT in_X4 hown hK hP 0 rfl rfl 6 (by decide) (hT _ mw_467) (fun _ h9 => h9) rfl dX4_findFalls_14 ?_
            refine lv_icmp_ge (tgt := 63) hx hb dX4_findFalls_17 (by decide) (fun c_17 => ?_) (fun c_17 => ?_)
            · exact absurd c_17 (nI_ge (by omega) (by omega))
            · refine lv_aload_n hx hb dX4_findFalls_20 rfl (lv_at hl 2 rfl) ?_
              refine va_get (D := (dC, dI)) (ci := 4) (v := .ref (aR 13)) (C := RX4) (T := TX4) (N := 22) hx hb hT in_X4 hown hK hP 0 rfl rfl 21 (by decide) (hT _ mw_482) (fun _ h9 => h9) rfl dX4_findFalls_21 ?_
              refine lv_iconst (v := 4) hx hb dX4_findFalls_24 (by decide) ?_
              refine lv_iload_n hx hb dX4_findFalls_25 rfl (lv_at hl 1 rfl) ?_
              refine lv_imul hx hb dX4_findFalls_26 ?_
              refine lv_iload_n hx hb dX4_findFalls_27 rfl (lv_at hl 0 rfl) ?_
              refine lv_iadd hx hb dX4_findFalls_28 ?_
              refine lv_topi (fun y9 e9 => ?_)
              obtain rfl : y9 = nI (4 * i + j) := by rw [e9]; exact (by rw [show (4 : Int32) = nI 4 from rfl, pk_mul, nI_add])
              refine lv_aload_n hx hb dX4_findFalls_29 rfl (lv_at hl 2 rfl) ?_
              refine lv_iload_n hx hb dX4_findFalls_30 rfl (lv_at hl 1 rfl) ?_
              refine lv_iload_n hx hb dX4_findFalls_31 rfl (lv_at hl 0 rfl) ?_
              refine dk_csl (va_runV (As := [.int (nI i), .int (nI j)]) (rest := [.int (nI (4 * i + j)), .ref (aR 13)]) ⟨hx, hb, hml, hown, hT⟩ (c_X4_speedOf l dC dI cI cII aR cd fr le fi ne ar pr (nI spN) ep pt cf cp ch la fd bc bp bh ba G2 d z frN leN fiN neN arN prN i j hd1 hz1 hO (by omega) (by omega) (by omega)) (cwV 2 hT (dk_gV mw_590 mw_592 mw_15 mw_27 mw_593) rfl rfl rfl (by decide +kernel) ⟨(Nat.le_of_ble_eq_true rfl), (Nat.le_of_ble_eq_true rfl)⟩) (dk_preRV hK hP [0, 1, 2, 3, 4, 5, 6, 7, 8, 9, 10, 11, 12, 13] rfl (q0 := 0) (ci := 4) rfl rfl) rfl rfl hl.1 rfl (lv_room (Nat.le_of_ble_eq_true rfl)) dX4_findFalls_32 ⟨Nat.le_of_ble_eq_true rfl, Nat.le_of_ble_eq_true rfl⟩) (fun r9 h9 => ?_)
              subst h9
              refine lv_aload_n hx hb dX4_findFalls_35 rfl (lv_at hl 2 rfl) ?_
              refine va_get (D := (dC, dI)) (ci := 4) (v := .int (nI spN)) (C := RX4) (T := TX4) (N := 22) hx hb hT in_X4 hown hK hP 0 rfl rfl 9 (by decide) (hT _ mw_470) (fun _ h9 => h9) rfl dX4_findFalls_36 ?_
              refine lv_i2l (v := ((nI spN)).toInt64) hx hb dX4_findFalls_39 rfl ?_
              refine dk_lif_gt (tgt := 53) hx hb dX4_findFalls_40 dX4_findFalls_41 (by decide) (fun c_41 => ?_) (fun c_41 => ?_)
              · refine lv_ldc2 (v := (-1)) hx hb hown (hT _ mw_611) dX4_findFalls_53 ?_
                refine dk_last (q0 := 13) (t0 := 1) (i := 4 * i + j) hx hb hK hP hD hS rfl rfl rfl (by omega) (by decide) dX4_findFalls_56 (fun H locs hP hD hS => ?_)
                have hP : va_P (dC, dI) vwCl (dk_R cI cII aR cd (nI d) fr le fi ne (nI z) ar pr (nI spN) ep pt cf cp ch la fd bc bp bh ba (vp_updL G2 (4 * i + j) (-1))) H := hP
                have hD : va_D A (dk_R cI cII aR cd (nI d) fr le fi ne (nI z) ar pr (nI spN) ep pt cf cp ch la fd bc bp bh ba (vp_updL G2 (4 * i + j) (-1))) := hD
                refine lv_iinc (v := (nI (j + 1))) (lv' := [(2, .int (nI (j + 1))), (1, .int (nI i)), (0, .ref (aR 0))]) hx hb dX4_findFalls_57 hl (k := 0) rfl (nI_1 j) (by decide) rfl (fun ls hl => ?_)
                refine lv_goto (tgt := 12) hx hb dX4_findFalls_60 (by decide) ?_
                exact ih12 (j + 1) (vp_updL G2 (4 * i + j) (-1)) _ _ _ (by omega) (by rw [← hf12_0]; show _ = rk_nc (rk_fa frN leN fiN neN arN spN d) i n2 (j + 1) (vp_updL G2 (4 * i + j) (rk_fa frN leN fiN neN arN spN d i j)); unfold rk_fa; rw [if_pos c_41]) hP hD hS (lv_sub hl [0, 1, 2] rfl)
              · refine lv_aload_n hx hb dX4_findFalls_44 rfl (lv_at hl 2 rfl) ?_
                refine lv_iload_n hx hb dX4_findFalls_45 rfl (lv_at hl 1 rfl) ?_
                refine lv_iload_n hx hb dX4_findFalls_46 rfl (lv_at hl 0 rfl) ?_
                refine dk_csl (va_runV (As := [.int (nI i), .int (nI j)]) (rest := [.int (nI (4 * i + j)), .ref (aR 13)]) ⟨hx, hb, hml, hown, hT⟩ (c_X4_fallOf l dC dI cI cII aR cd fr le fi ne ar pr (nI spN) ep pt cf cp ch la fd bc bp bh ba G2 d z frN leN fiN neN arN prN i j hd1 hz1 hO (by omega) (by omega) (by omega)) (cwV 2 hT (dk_gV mw_594 mw_596 mw_16 mw_27 mw_597) rfl rfl rfl (by decide +kernel) ⟨(Nat.le_of_ble_eq_true rfl), (Nat.le_of_ble_eq_true rfl)⟩) (dk_preRV hK hP [0, 1, 2, 3, 4, 5, 6, 7, 8, 9, 10, 11, 12, 13] rfl (q0 := 0) (ci := 4) rfl rfl) rfl rfl hl.1 rfl (lv_room (Nat.le_of_ble_eq_true rfl)) dX4_findFalls_47 ⟨Nat.le_of_ble_eq_true rfl, Nat.le_of_ble_eq_true rfl⟩) (fun r9 h9 => ?_)
                subst h9
                refine lv_goto (tgt := 56) hx hb dX4_findFalls_50 (by decide) ?_
                refine dk_last (q0 := 13) (t0 := 1) (i := 4 * i + j) hx hb hK hP hD hS rfl rfl rfl (by omega) (by decide) dX4_findFalls_56 (fun H locs hP hD hS => ?_)
                have hP : va_P (dC, dI) vwCl (dk_R cI cII aR cd (nI d) fr le fi ne (nI z) ar pr (nI spN) ep pt cf cp ch la fd bc bp bh ba (vp_updL G2 (4 * i + j) (lN (dk_faN (leN i) (fiN i) (rk_flow frN neN d i) (arN j))))) H := hP
                have hD : va_D A (dk_R cI cII aR cd (nI d) fr le fi ne (nI z) ar pr (nI spN) ep pt cf cp ch la fd bc bp bh ba (vp_updL G2 (4 * i + j) (lN (dk_faN (leN i) (fiN i) (rk_flow frN neN d i) (arN j))))) := hD
                refine lv_iinc (v := (nI (j + 1))) (lv' := [(2, .int (nI (j + 1))), (1, .int (nI i)), (0, .ref (aR 0))]) hx hb dX4_findFalls_57 hl (k := 0) rfl (nI_1 j) (by decide) rfl (fun ls hl => ?_)
                refine lv_goto (tgt := 12) hx hb dX4_findFalls_60 (by decide) ?_
                exact ih12 (j + 1) (vp_updL G2 (4 * i + j) (lN (dk_faN (leN i) (fiN i) (rk_flow frN neN d i) (arN j)))) _ _ _ (by omega) (by rw [← hf12_0]; show _ = rk_nc (rk_fa frN leN fiN neN arN spN d) i n2 (j + 1) (vp_updL G2 (4 * i + j) (rk_fa frN leN fiN neN arN spN d i j)); unfold rk_fa; rw [if_neg c_41]) hP hD hS (lv_sub hl [0, 1, 2] rfl)
        exact lp12 z 0 G _ _ _ (by omega) rfl hP hD hS (lv_sub hl [0, 1, 2] rfl)
  exact lp2 d 1 fs _ _ _ (by omega) rfl hP hD hS (lv_sub hl [0, 1] rfl)
