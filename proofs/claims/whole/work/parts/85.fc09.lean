set_option maxHeartbeats 4000000 in
set_option maxRecDepth 100000 in
/-- DuctSizesModel.chosen -/
theorem c_X4_chosen (l : Launch) (dC : Nat → ClassId) (dI : Nat → Nat → Nat) (cI cII : ClassId) (aR : Nat → Nat) (cd : Int32) (fr : Nat → Int32) (le : Nat → Int32) (fi : Nat → Int32) (ne : Nat → Int32) (ar : Nat → Int32) (pr : Nat → Int32) (ep : Int32) (cf : Nat → Int32) (cp : Nat → Int32) (ch : Nat → Int32) (la : Nat → Int64) (fd : Int32) (bc : Int64) (bp : Int64) (bh : Nat → Int32) (ba : Nat → Int64) (fs : Nat → Int64) (d : Nat) (z : Nat) (k : Nat) (spN : Nat) (frN : Nat → Nat) (leN : Nat → Nat) (fiN : Nat → Nat) (neN : Nat → Nat) (arN : Nat → Nat) (prN : Nat → Nat) (x0 : Int32) (hz : Nat) (hd1 : d ≤ 6) (hz1 : z ≤ 4) (hO : rk_Ok d z fr le fi ne ar pr frN leN fiN neN arN prN) (hk1 : k ≤ 5) (hcv : ∀ i, 0 < i → i < k → ¬ cf i - cf (i - 1) = 0) : dk_Mi l yX4_chosen wsX4_chosen ({ frames := 5, cells := 0, slots := 0, locals := 124 }) (dC, dI) (dk_TR cI cII) [.ref (aR 0), .int x0] (dk_R cI cII aR cd (nI d) fr le fi ne (nI z) ar pr (nI spN) ep (nI k) cf cp ch la fd bc bp bh ba fs) hz (fun (r : Int32) (_ : Unit) => r = if rk_kIn 1 d x0 = 0 then if (rk_fb d z (rk_nr (rk_fa frN leN fiN neN arN spN d) z d 1 fs) frN leN prN (rk_mo cf cp k (nI (rk_tot neN d 1 0))) ep (ch, la, fd, bc, bp, bh, ba)).2.2.1 = 0 then (-1) else (rk_fb d z (rk_nr (rk_fa frN leN fiN neN arN spN d) z d 1 fs) frN leN prN (rk_mo cf cp k (nI (rk_tot neN d 1 0))) ep (ch, la, fd, bc, bp, bh, ba)).2.2.2.2.2.1 x0.toNatClampNeg else 0) (fun _ => dk_R cI cII aR (rk_kIn 1 d x0) (nI d) fr le fi ne (nI z) ar pr (nI spN) ep (nI k) cf cp (if rk_kIn 1 d x0 = 0 then (rk_fb d z (rk_nr (rk_fa frN leN fiN neN arN spN d) z d 1 fs) frN leN prN (rk_mo cf cp k (nI (rk_tot neN d 1 0))) ep (ch, la, fd, bc, bp, bh, ba)).1 else ch) (if rk_kIn 1 d x0 = 0 then (rk_fb d z (rk_nr (rk_fa frN leN fiN neN arN spN d) z d 1 fs) frN leN prN (rk_mo cf cp k (nI (rk_tot neN d 1 0))) ep (ch, la, fd, bc, bp, bh, ba)).2.1 else la) (if rk_kIn 1 d x0 = 0 then (rk_fb d z (rk_nr (rk_fa frN leN fiN neN arN spN d) z d 1 fs) frN leN prN (rk_mo cf cp k (nI (rk_tot neN d 1 0))) ep (ch, la, fd, bc, bp, bh, ba)).2.2.1 else fd) (if rk_kIn 1 d x0 = 0 then (rk_fb d z (rk_nr (rk_fa frN leN fiN neN arN spN d) z d 1 fs) frN leN prN (rk_mo cf cp k (nI (rk_tot neN d 1 0))) ep (ch, la, fd, bc, bp, bh, ba)).2.2.2.1 else bc) (if rk_kIn 1 d x0 = 0 then (rk_fb d z (rk_nr (rk_fa frN leN fiN neN arN spN d) z d 1 fs) frN leN prN (rk_mo cf cp k (nI (rk_tot neN d 1 0))) ep (ch, la, fd, bc, bp, bh, ba)).2.2.2.2.1 else bp) (if rk_kIn 1 d x0 = 0 then (rk_fb d z (rk_nr (rk_fa frN leN fiN neN arN spN d) z d 1 fs) frN leN prN (rk_mo cf cp k (nI (rk_tot neN d 1 0))) ep (ch, la, fd, bc, bp, bh, ba)).2.2.2.2.2.1 else bh) (if rk_kIn 1 d x0 = 0 then (rk_fb d z (rk_nr (rk_fa frN leN fiN neN arN spN d) z d 1 fs) frN leN prN (rk_mo cf cp k (nI (rk_tot neN d 1 0))) ep (ch, la, fd, bc, bp, bh, ba)).2.2.2.2.2.2 else ba) (if rk_kIn 1 d x0 = 0 then (rk_nr (rk_fa frN leN fiN neN arN spN d) z d 1 fs) else fs)) 0 0 := by
  refine dk_ofMi (cc := cX4_chosen) (maxL := 2) (by decide) rfl (Nat.le_of_ble_eq_true rfl) ?_
  intro p e s m args below meth c A ls Q ⟨hx, hb, hml, hts, hown, hnm⟩ hsz hK hP hD hA hS hl hret
  have hT : ∀ w ∈ dk_tbl, w.before args s = true := fun w h => hts w (List.mem_cons_of_mem _ h)
  have hown : s.vm.findClass RX4 = some m.cls := hown
  have hl : lv_has ls 2 [(0, .ref (aR 0)), (1, .int x0)] := hl
  refine lv_aload_n hx hb dX4_chosen_0 rfl (lv_at hl 0 rfl) ?_
  refine lv_aload_n hx hb dX4_chosen_1 rfl (lv_at hl 0 rfl) ?_
  refine lv_iload_n hx hb dX4_chosen_2 rfl (lv_at hl 1 rfl) ?_
  refine dk_csi (va_runV (As := [.int x0]) (rest := [.ref (aR 0)]) ⟨hx, hb, hml, hown, hT⟩ (c_X4_isDuct l dC dI cI cII aR cd fr le fi ne (nI z) ar pr (nI spN) ep (nI k) cf cp ch la fd bc bp bh ba fs d x0) (cwV 1 hT (dk_gV mw_546 mw_548 mw_11 mw_27 mw_549) rfl rfl rfl (by decide +kernel) ⟨(Nat.le_of_ble_eq_true rfl), (Nat.le_of_ble_eq_true rfl)⟩) (dk_preRV hK hP [0, 1, 2, 3, 4, 5, 6, 7, 8, 9, 10, 11, 12, 13] rfl (q0 := 0) (ci := 4) rfl rfl) rfl rfl hl.1 rfl (lv_room (Nat.le_of_ble_eq_true rfl)) dX4_chosen_3 ⟨Nat.le_of_ble_eq_true rfl, Nat.le_of_ble_eq_true rfl⟩) (fun r9 h9 => ?_)
  subst h9
  refine lv_if_eq (tgt := 13) hx hb dX4_chosen_6 (by decide) (fun c_6 => ?_) (fun c_6 => ?_)
  · refine lv_iconst (v := 1) hx hb dX4_chosen_13 (by decide) ?_
    refine va_put (D := (dC, dI)) (ci := 4) (v := .int 1) (ty := .int) (C := RX4) (T := TX4) (N := 22) hx hb hT in_X4 tyX4 tyX4_ok nmX4 hown hK hP hD hS 0 rfl rfl 0 (by decide) (hT _ mw_461) (fun _ h9 => h9) rfl (by decide +kernel) rfl rfl (Nat.le_of_ble_eq_true rfl) dX4_chosen_14 (fun H locs hP hD hS => ?_)
    have hP : va_P (dC, dI) vwCl (dk_R cI cII aR 1 (nI d) fr le fi ne (nI z) ar pr (nI spN) ep (nI k) cf cp ch la fd bc bp bh ba fs) H := hP
    have hD : va_D A (dk_R cI cII aR 1 (nI d) fr le fi ne (nI z) ar pr (nI spN) ep (nI k) cf cp ch la fd bc bp bh ba fs) := hD
    refine lv_aload_n hx hb dX4_chosen_17 rfl (lv_at hl 0 rfl) ?_
    refine va_get (D := (dC, dI)) (ci := 4) (v := .int 1) (C := RX4) (T := TX4) (N := 22) hx hb hT in_X4 hown hK hP 0 rfl rfl 0 (by decide) (hT _ mw_461) (fun _ h9 => h9) rfl dX4_chosen_18 ?_
    refine lv_if_le (tgt := 26) hx hb dX4_chosen_21 (by decide) (fun c_21 => ?_) (fun c_21 => ?_)
    · exact absurd c_21 (by decide)
    · refine lv_iconst (v := 0) hx hb dX4_chosen_24 (by decide) ?_
      have hk : rk_kIn 1 d x0 = 1 := by unfold rk_kIn; rw [if_pos c_6] <;> rfl
      have hk0 : ¬ rk_kIn 1 d x0 = 0 := by rw [hk]; decide
      simp only [if_neg hk0] at hret
      rw [hk] at hret
      exact hret _ () _ _ _ _ rfl hP hD hS dX4_chosen_25
  · refine lv_iconst (v := 0) hx hb dX4_chosen_9 (by decide) ?_
    refine lv_goto (tgt := 14) hx hb dX4_chosen_10 (by decide) ?_
    refine va_put (D := (dC, dI)) (ci := 4) (v := .int 0) (ty := .int) (C := RX4) (T := TX4) (N := 22) hx hb hT in_X4 tyX4 tyX4_ok nmX4 hown hK hP hD hS 0 rfl rfl 0 (by decide) (hT _ mw_461) (fun _ h9 => h9) rfl (by decide +kernel) rfl rfl (Nat.le_of_ble_eq_true rfl) dX4_chosen_14 (fun H locs hP hD hS => ?_)
    have hP : va_P (dC, dI) vwCl (dk_R cI cII aR 0 (nI d) fr le fi ne (nI z) ar pr (nI spN) ep (nI k) cf cp ch la fd bc bp bh ba fs) H := hP
    have hD : va_D A (dk_R cI cII aR 0 (nI d) fr le fi ne (nI z) ar pr (nI spN) ep (nI k) cf cp ch la fd bc bp bh ba fs) := hD
    refine lv_aload_n hx hb dX4_chosen_17 rfl (lv_at hl 0 rfl) ?_
    refine va_get (D := (dC, dI)) (ci := 4) (v := .int 0) (C := RX4) (T := TX4) (N := 22) hx hb hT in_X4 hown hK hP 0 rfl rfl 0 (by decide) (hT _ mw_461) (fun _ h9 => h9) rfl dX4_chosen_18 ?_
    refine lv_if_le (tgt := 26) hx hb dX4_chosen_21 (by decide) (fun c_21 => ?_) (fun c_21 => ?_)
    · obtain ⟨j, hj1, hj2, rfl⟩ := rk_isIn_nat (l := 1) c_6 rfl (by decide) (by omega)
      simp only [nI_clamp (show j < 2 ^ 31 by omega)] at hret
      refine lv_aload_n hx hb dX4_chosen_26 rfl (lv_at hl 0 rfl) ?_
      refine dk_callv (wr := []) (va_runV (As := []) (rest := []) ⟨hx, hb, hml, hown, hT⟩ (c_X4_findBest l dC dI cI cII aR 0 fr le fi ne ar pr ep cf cp ch la fd bc bp bh ba fs d z k spN frN leN fiN neN arN prN _ hd1 hz1 hO hk1 hcv) (cwV 0 hT (dk_gV mw_603 mw_605 mw_17 mw_27 mw_606) rfl rfl rfl (by decide +kernel) ⟨(Nat.le_of_ble_eq_true rfl), (Nat.le_of_ble_eq_true rfl)⟩) (dk_preV hK hP hD [0, 1, 2, 3, 4, 5, 6, 7, 8, 9, 10, 11, 12, 13] rfl rfl (q0 := 0) (ci := 4) rfl rfl) rfl rfl hl.1 rfl (lv_room (Nat.le_of_ble_eq_true rfl)) dX4_chosen_27 ⟨Nat.le_of_ble_eq_true rfl, Nat.le_of_ble_eq_true rfl⟩) hP hD hS hA [0, 1, 2, 3, 4, 5, 6, 7, 8, 9, 10, 11, 12, 13] [] rfl rfl rfl (by decide) (fun _ H locs h9 hP hD hS => ?_)
      have hP : va_P (dC, dI) vwCl (dk_R cI cII aR 0 (nI d) fr le fi ne (nI z) ar pr (nI spN) ep (nI k) cf cp ((rk_fb d z (rk_nr (rk_fa frN leN fiN neN arN spN d) z d 1 fs) frN leN prN (rk_mo cf cp k (nI (rk_tot neN d 1 0))) ep (ch, la, fd, bc, bp, bh, ba)).1) ((rk_fb d z (rk_nr (rk_fa frN leN fiN neN arN spN d) z d 1 fs) frN leN prN (rk_mo cf cp k (nI (rk_tot neN d 1 0))) ep (ch, la, fd, bc, bp, bh, ba)).2.1) ((rk_fb d z (rk_nr (rk_fa frN leN fiN neN arN spN d) z d 1 fs) frN leN prN (rk_mo cf cp k (nI (rk_tot neN d 1 0))) ep (ch, la, fd, bc, bp, bh, ba)).2.2.1) ((rk_fb d z (rk_nr (rk_fa frN leN fiN neN arN spN d) z d 1 fs) frN leN prN (rk_mo cf cp k (nI (rk_tot neN d 1 0))) ep (ch, la, fd, bc, bp, bh, ba)).2.2.2.1) ((rk_fb d z (rk_nr (rk_fa frN leN fiN neN arN spN d) z d 1 fs) frN leN prN (rk_mo cf cp k (nI (rk_tot neN d 1 0))) ep (ch, la, fd, bc, bp, bh, ba)).2.2.2.2.1) ((rk_fb d z (rk_nr (rk_fa frN leN fiN neN arN spN d) z d 1 fs) frN leN prN (rk_mo cf cp k (nI (rk_tot neN d 1 0))) ep (ch, la, fd, bc, bp, bh, ba)).2.2.2.2.2.1) ((rk_fb d z (rk_nr (rk_fa frN leN fiN neN arN spN d) z d 1 fs) frN leN prN (rk_mo cf cp k (nI (rk_tot neN d 1 0))) ep (ch, la, fd, bc, bp, bh, ba)).2.2.2.2.2.2) (rk_nr (rk_fa frN leN fiN neN arN spN d) z d 1 fs)) H := hP
      have hD : va_D A (dk_R cI cII aR 0 (nI d) fr le fi ne (nI z) ar pr (nI spN) ep (nI k) cf cp ((rk_fb d z (rk_nr (rk_fa frN leN fiN neN arN spN d) z d 1 fs) frN leN prN (rk_mo cf cp k (nI (rk_tot neN d 1 0))) ep (ch, la, fd, bc, bp, bh, ba)).1) ((rk_fb d z (rk_nr (rk_fa frN leN fiN neN arN spN d) z d 1 fs) frN leN prN (rk_mo cf cp k (nI (rk_tot neN d 1 0))) ep (ch, la, fd, bc, bp, bh, ba)).2.1) ((rk_fb d z (rk_nr (rk_fa frN leN fiN neN arN spN d) z d 1 fs) frN leN prN (rk_mo cf cp k (nI (rk_tot neN d 1 0))) ep (ch, la, fd, bc, bp, bh, ba)).2.2.1) ((rk_fb d z (rk_nr (rk_fa frN leN fiN neN arN spN d) z d 1 fs) frN leN prN (rk_mo cf cp k (nI (rk_tot neN d 1 0))) ep (ch, la, fd, bc, bp, bh, ba)).2.2.2.1) ((rk_fb d z (rk_nr (rk_fa frN leN fiN neN arN spN d) z d 1 fs) frN leN prN (rk_mo cf cp k (nI (rk_tot neN d 1 0))) ep (ch, la, fd, bc, bp, bh, ba)).2.2.2.2.1) ((rk_fb d z (rk_nr (rk_fa frN leN fiN neN arN spN d) z d 1 fs) frN leN prN (rk_mo cf cp k (nI (rk_tot neN d 1 0))) ep (ch, la, fd, bc, bp, bh, ba)).2.2.2.2.2.1) ((rk_fb d z (rk_nr (rk_fa frN leN fiN neN arN spN d) z d 1 fs) frN leN prN (rk_mo cf cp k (nI (rk_tot neN d 1 0))) ep (ch, la, fd, bc, bp, bh, ba)).2.2.2.2.2.2) (rk_nr (rk_fa frN leN fiN neN arN spN d) z d 1 fs)) := hD
      refine lv_aload_n hx hb dX4_chosen_30 rfl (lv_at hl 0 rfl) ?_
      refine va_get (D := (dC, dI)) (ci := 4) (v := .int ((rk_fb d z (rk_nr (rk_fa frN leN fiN neN arN spN d) z d 1 fs) frN leN prN (rk_mo cf cp k (nI (rk_tot neN d 1 0))) ep (ch, la, fd, bc, bp, bh, ba)).2.2.1)) (C := RX4) (T := TX4) (N := 22) hx hb hT in_X4 hown hK hP 0 rfl rfl 16 (by decide) (hT _ mw_477) (fun _ h9 => h9) rfl dX4_chosen_31 ?_
      refine lv_if_eq (tgt := 46) hx hb dX4_chosen_34 (by decide) (fun c_34 => ?_) (fun c_34 => ?_)
      · refine lv_iconst (v := (-1)) hx hb dX4_chosen_46 (by decide) ?_
        have hk : rk_kIn 1 d (nI j) = 0 := by unfold rk_kIn; rw [if_neg c_6] <;> rfl
        simp only [if_pos hk] at hret
        rw [hk] at hret
        exact hret _ () _ _ _ _ (by rw [if_pos c_34]) hP hD hS dX4_chosen_47
      · refine lv_aload_n hx hb dX4_chosen_37 rfl (lv_at hl 0 rfl) ?_
        refine va_get (D := (dC, dI)) (ci := 4) (v := .ref (aR 11)) (C := RX4) (T := TX4) (N := 22) hx hb hT in_X4 hown hK hP 0 rfl rfl 19 (by decide) (hT _ mw_480) (fun _ h9 => h9) rfl dX4_chosen_38 ?_
        refine lv_iload_n hx hb dX4_chosen_41 rfl (lv_at hl 1 rfl) ?_
        refine dk_iald (q0 := 11) (t0 := 0) (i := j) hx hb hK hP rfl rfl rfl (by omega) (by decide) dX4_chosen_42 ?_
        refine lv_goto (tgt := 47) hx hb dX4_chosen_43 (by decide) ?_
        have hk : rk_kIn 1 d (nI j) = 0 := by unfold rk_kIn; rw [if_neg c_6] <;> rfl
        simp only [if_pos hk] at hret
        rw [hk] at hret
        exact hret _ () _ _ _ _ (by rw [if_neg c_34]) hP hD hS dX4_chosen_47
    · exact absurd (by decide) c_21
