set_option maxHeartbeats 4000000 in
set_option maxRecDepth 100000 in
/-- told -/
theorem c_X3_told (l : Launch) (hlt : l.stackTraces = false) (dC : Nat → ClassId) (dI : Nat → Nat → Nat) (cI cII : ClassId) (aX : Nat → Nat) (cv : Nat) (bs : Nat) (ch : Nat) (ep : Int32) (ol : Int32) (aN : Nat → Nat) (fr : Nat → Int32) (le : Nat → Int32) (fi : Nat → Int32) (ne : Nat → Int32) (fl : Nat → Int32) (ar : Nat → Int32) (pr : Nat → Int32) (sp : Int32) (d : Nat) (z : Nat) (x0 : Int32) (x1 : Int32) (x2 : Int32) (hz : Nat) (h1 : d ≤ 6) (h2 : z ≤ 4) (har : ∀ j, j < z → ¬ ar j = 0) (har2 : ∀ j, j < z → ¬ (ar j).toInt64 * (ar j).toInt64 = 0) : dk_Xi l yX3_told wsX3_told ({ frames := 7, cells := 3, slots := 18, locals := 104 }) (dC, dI) (dk_T cI cII) [.ref (aX 0), .int x0, .int x1, .int x2] (dk_X cI cII aX (aN 0) cv bs ch ep ol ++ dk_N cI cII aN fr le fi ne fl (nI d) ar pr (nI z) sp) hz (fun (r : Int32) (_ : Unit) => dk_kTold d z x0 x1 x2 = 0 ∧ r = (if x2 = 0 then dk_speed fl ar x0.toNatClampNeg x1.toNatClampNeg else dk_fall le fi fl ar x0.toNatClampNeg x1.toNatClampNeg)) (fun _ => dk_X cI cII aX (aN 0) cv bs ch ep ol ++ dk_N cI cII aN fr le fi ne fl (nI d) ar pr (nI z) sp) (dk_px (dk_kTold d z x0 x1 x2)) 3 18 := by
  refine dk_ofXi (cc := cX3_told) (maxL := 4) (by decide) rfl (Nat.le_of_ble_eq_true rfl) ?_
  intro p e s m args below meth c A ls Q ⟨hx, hb, hml, hts, hown, hnm⟩ hlocks hno hsz hK hP hD hA hS hl hE hQ hret hthr
  have hT : ∀ w ∈ dk_tbl, w.before args s = true := fun w h => hts w (List.mem_cons_of_mem _ h)
  have hown : s.vm.findClass RX3 = some m.cls := hown
  have hl : lv_has ls 4 [(0, .ref (aX 0)), (1, .int x0), (2, .int x1), (3, .int x2)] := hl
  refine lv_iload_n hx hb dX3_told_0 rfl (lv_at hl 1 rfl) ?_
  refine lv_iconst (v := 1) hx hb dX3_told_1 (by decide) ?_
  refine lv_aload_n hx hb dX3_told_2 rfl (lv_at hl 0 rfl) ?_
  refine va_get (D := (dC, dI)) (ci := 3) (v := .ref (aN 0)) (C := RX3) (T := TX3) (N := 6) hx hb hT in_X3 hown hK hP 0 rfl rfl 0 (by decide) (hT _ mw_152) (fun _ h9 => h9) rfl dX3_told_3 ?_
  refine va_get (D := (dC, dI)) (ci := 1) (v := .int (nI d)) (C := RX1) (T := TX1) (N := 10) hx hb hT in_X1 hown hK hP 1 rfl rfl 5 (by decide) (hT _ mw_58) (fun _ h9 => h9) rfl dX3_told_6 ?_
  refine dk_xdem (vx_runS (As := [.int x0, .int 1, .int (nI d)]) (rest := []) ⟨hx, hb, hml, hown, hT⟩ (c_X3_demand l hlt x0 1 (nI d)) (va_cwS 3 hT (dk_gS mw_254 mw_255 mw_23 mw_256) rfl rfl rfl (by decide +kernel) ⟨Nat.le_of_ble_eq_true rfl, Nat.le_of_ble_eq_true rfl⟩) (dk_preD hE hS hA) rfl rfl hl.1 rfl (lv_room (Nat.le_of_ble_eq_true rfl)) dX3_told_9 ⟨Nat.le_of_ble_eq_true rfl, Nat.le_of_ble_eq_true rfl⟩) (fun ce q9 H1 hc hz hk h1 h2 h3 => hthr dk_IAE ce q9 H1 _ _ _ _ _ _ (Or.inl ⟨rfl, by unfold dk_kTold; rw [if_pos hc]⟩) (hP.kept (fun k q hq => hk q.1 (hP k q hq).lt)) hD ⟨Nat.le_trans hS.1 hz, fun q h1 h2 => (hk q (Nat.lt_of_lt_of_le h1 hS.1)).trans (hS.2.1 q h1 h2), hS.2.2⟩ h1 h2 h3 (Nat.le_of_ble_eq_true rfl) (Nat.le_of_ble_eq_true rfl)) (fun hd_9 => ?_)
  obtain ⟨j, hj1, hj2, rfl⟩ := dk_of (lo := 1) hd_9 rfl (by omega) (by omega)
  simp only [nI_clamp (show j < 2 ^ 31 by omega)] at hret
  refine lv_iload_n hx hb dX3_told_12 rfl (lv_at hl 2 rfl) ?_
  refine lv_iconst (v := 0) hx hb dX3_told_13 (by decide) ?_
  refine lv_aload_n hx hb dX3_told_14 rfl (lv_at hl 0 rfl) ?_
  refine va_get (D := (dC, dI)) (ci := 3) (v := .ref (aN 0)) (C := RX3) (T := TX3) (N := 6) hx hb hT in_X3 hown hK hP 0 rfl rfl 0 (by decide) (hT _ mw_152) (fun _ h9 => h9) rfl dX3_told_15 ?_
  refine va_get (D := (dC, dI)) (ci := 1) (v := .int (nI z)) (C := RX1) (T := TX1) (N := 10) hx hb hT in_X1 hown hK hP 1 rfl rfl 8 (by decide) (hT _ mw_63) (fun _ h9 => h9) rfl dX3_told_18 ?_
  refine lv_iconst (v := 1) hx hb dX3_told_21 (by decide) ?_
  refine lv_isub hx hb dX3_told_22 ?_
  refine dk_xdem (vx_runS (As := [.int x1, .int 0, .int ((nI z) - 1)]) (rest := []) ⟨hx, hb, hml, hown, hT⟩ (c_X3_demand l hlt x1 0 ((nI z) - 1)) (va_cwS 3 hT (dk_gS mw_254 mw_255 mw_23 mw_256) rfl rfl rfl (by decide +kernel) ⟨Nat.le_of_ble_eq_true rfl, Nat.le_of_ble_eq_true rfl⟩) (dk_preD hE hS hA) rfl rfl hl.1 rfl (lv_room (Nat.le_of_ble_eq_true rfl)) dX3_told_23 ⟨Nat.le_of_ble_eq_true rfl, Nat.le_of_ble_eq_true rfl⟩) (fun ce q9 H1 hc hz hk h1 h2 h3 => hthr dk_IAE ce q9 H1 _ _ _ _ _ _ (Or.inl ⟨rfl, by unfold dk_kTold; rw [if_neg hd_9, if_pos hc]⟩) (hP.kept (fun k q hq => hk q.1 (hP k q hq).lt)) hD ⟨Nat.le_trans hS.1 hz, fun q h1 h2 => (hk q (Nat.lt_of_lt_of_le h1 hS.1)).trans (hS.2.1 q h1 h2), hS.2.2⟩ h1 h2 h3 (Nat.le_of_ble_eq_true rfl) (Nat.le_of_ble_eq_true rfl)) (fun hd_23 => ?_)
  obtain ⟨i, hi1, rfl⟩ := dk_of1 hd_23 (by omega)
  simp only [nI_clamp (show i < 2 ^ 31 by omega)] at hret
  refine lv_iload_n hx hb dX3_told_26 rfl (lv_at hl 3 rfl) ?_
  refine lv_iconst (v := 0) hx hb dX3_told_27 (by decide) ?_
  refine lv_iconst (v := 1) hx hb dX3_told_28 (by decide) ?_
  refine dk_xdem (vx_runS (As := [.int x2, .int 0, .int 1]) (rest := []) ⟨hx, hb, hml, hown, hT⟩ (c_X3_demand l hlt x2 0 1) (va_cwS 3 hT (dk_gS mw_254 mw_255 mw_23 mw_256) rfl rfl rfl (by decide +kernel) ⟨Nat.le_of_ble_eq_true rfl, Nat.le_of_ble_eq_true rfl⟩) (dk_preD hE hS hA) rfl rfl hl.1 rfl (lv_room (Nat.le_of_ble_eq_true rfl)) dX3_told_29 ⟨Nat.le_of_ble_eq_true rfl, Nat.le_of_ble_eq_true rfl⟩) (fun ce q9 H1 hc hz hk h1 h2 h3 => hthr dk_IAE ce q9 H1 _ _ _ _ _ _ (Or.inl ⟨rfl, by unfold dk_kTold; rw [if_neg hd_9, if_neg hd_23, if_pos hc]⟩) (hP.kept (fun k q hq => hk q.1 (hP k q hq).lt)) hD ⟨Nat.le_trans hS.1 hz, fun q h1 h2 => (hk q (Nat.lt_of_lt_of_le h1 hS.1)).trans (hS.2.1 q h1 h2), hS.2.2⟩ h1 h2 h3 (Nat.le_of_ble_eq_true rfl) (Nat.le_of_ble_eq_true rfl)) (fun hd_29 => ?_)
  refine lv_iload_n hx hb dX3_told_32 rfl (lv_at hl 3 rfl) ?_
  refine lv_if_ne (tgt := 48) hx hb dX3_told_33 (by decide) (fun c_33 => ?_) (fun c_33 => ?_)
  · refine lv_aload_n hx hb dX3_told_48 rfl (lv_at hl 0 rfl) ?_
    refine va_get (D := (dC, dI)) (ci := 3) (v := .ref (aN 0)) (C := RX3) (T := TX3) (N := 6) hx hb hT in_X3 hown hK hP 0 rfl rfl 0 (by decide) (hT _ mw_152) (fun _ h9 => h9) rfl dX3_told_49 ?_
    refine lv_iload_n hx hb dX3_told_52 rfl (lv_at hl 1 rfl) ?_
    refine lv_iload_n hx hb dX3_told_53 rfl (lv_at hl 2 rfl) ?_
    refine dk_csi (va_runV (As := [.int (nI j), .int (nI i)]) (rest := []) ⟨hx, hb, hml, hown, hT⟩ (c_X1_fallOf l dC dI cI cII aN fr le fi ne fl (nI d) ar pr (nI z) sp j i (by omega) (by omega) (har2 i hi1)) (cwV 2 hT (dk_gV mw_418 mw_209 mw_210 mw_24 mw_211) rfl rfl rfl (by decide +kernel) ⟨(Nat.le_of_ble_eq_true rfl), (Nat.le_of_ble_eq_true rfl)⟩) (dk_preRV hK hP [1, 2, 3, 4, 5, 6, 7, 8] rfl (q0 := 1) (ci := 1) rfl rfl) rfl rfl hl.1 rfl (lv_room (Nat.le_of_ble_eq_true rfl)) dX3_told_54 ⟨Nat.le_of_ble_eq_true rfl, Nat.le_of_ble_eq_true rfl⟩) (fun r9 h9 => ?_)
    subst h9
    refine W.widen (k := 3) (n := 18) (Nat.le_of_ble_eq_true rfl) (Nat.le_of_ble_eq_true rfl) ?_
    exact hret _ () _ _ _ _ ⟨(by unfold dk_kTold; rw [if_neg hd_9, if_neg hd_23, if_neg hd_29]), (if_neg c_33).symm⟩ hP hD hS dX3_told_57
  · refine lv_aload_n hx hb dX3_told_36 rfl (lv_at hl 0 rfl) ?_
    refine va_get (D := (dC, dI)) (ci := 3) (v := .ref (aN 0)) (C := RX3) (T := TX3) (N := 6) hx hb hT in_X3 hown hK hP 0 rfl rfl 0 (by decide) (hT _ mw_152) (fun _ h9 => h9) rfl dX3_told_37 ?_
    refine lv_iload_n hx hb dX3_told_40 rfl (lv_at hl 1 rfl) ?_
    refine lv_iload_n hx hb dX3_told_41 rfl (lv_at hl 2 rfl) ?_
    refine dk_csi (va_runV (As := [.int (nI j), .int (nI i)]) (rest := []) ⟨hx, hb, hml, hown, hT⟩ (c_X1_speedOf l dC dI cI cII aN fr le fi ne fl (nI d) ar pr (nI z) sp j i (by omega) (by omega) (har i hi1)) (cwV 2 hT (dk_gV mw_417 mw_205 mw_206 mw_24 mw_207) rfl rfl rfl (by decide +kernel) ⟨(Nat.le_of_ble_eq_true rfl), (Nat.le_of_ble_eq_true rfl)⟩) (dk_preRV hK hP [1, 2, 3, 4, 5, 6, 7, 8] rfl (q0 := 1) (ci := 1) rfl rfl) rfl rfl hl.1 rfl (lv_room (Nat.le_of_ble_eq_true rfl)) dX3_told_42 ⟨Nat.le_of_ble_eq_true rfl, Nat.le_of_ble_eq_true rfl⟩) (fun r9 h9 => ?_)
    subst h9
    refine lv_goto (tgt := 57) hx hb dX3_told_45 (by decide) ?_
    refine W.widen (k := 3) (n := 18) (Nat.le_of_ble_eq_true rfl) (Nat.le_of_ble_eq_true rfl) ?_
    exact hret _ () _ _ _ _ ⟨(by unfold dk_kTold; rw [if_neg hd_9, if_neg hd_23, if_neg hd_29]), (if_pos c_33).symm⟩ hP hD hS dX3_told_57
