set_option maxHeartbeats 4000000 in
set_option maxRecDepth 100000 in
/-- duct -/
theorem c_X3_duct (l : Launch) (hlt : l.stackTraces = false) (dC : Nat → ClassId) (dI : Nat → Nat → Nat) (cI cII : ClassId) (aX : Nat → Nat) (cv : Nat) (bs : Nat) (ch : Nat) (ep : Int32) (ol : Int32) (aN : Nat → Nat) (fr : Nat → Int32) (le : Nat → Int32) (fi : Nat → Int32) (ne : Nat → Int32) (fl : Nat → Int32) (ar : Nat → Int32) (pr : Nat → Int32) (sz : Int32) (sp : Int32) (d : Nat) (x0 : Int32) (x1 : Int32) (x2 : Int32) (hz : Nat) (h1 : d ≤ 6) : dk_Xi l yX3_duct wsX3_duct ({ frames := 7, cells := 4, slots := 24, locals := 104 }) (dC, dI) (dk_T cI cII) [.ref (aX 0), .int x0, .int x1, .int x2] (dk_X cI cII aX (aN 0) cv bs ch ep ol ++ dk_N cI cII aN fr le fi ne fl (nI d) ar pr sz sp) hz (fun (r : Int32) (_ : Unit) => dk_kDuct d x0 x1 x2 = 0 ∧ r = (nI (d + 1))) (fun _ => dk_X cI cII aX (aN 0) cv bs ch ep 1 ++ dk_N cI cII aN (upd fr (d + 1) x0) (upd le (d + 1) x1) (upd fi (d + 1) x2) ne fl (nI (d + 1)) ar pr sz sp) (dk_px (dk_kDuct d x0 x1 x2)) 4 24 := by
  refine dk_ofXi (cc := cX3_duct) (maxL := 4) (by decide) rfl (Nat.le_of_ble_eq_true rfl) ?_
  intro p e s m args below meth c A ls Q ⟨hx, hb, hml, hts, hown, hnm⟩ hlocks hno hsz hK hP hD hA hS hl hE hQ hret hthr
  have hT : ∀ w ∈ dk_tbl, w.before args s = true := fun w h => hts w (List.mem_cons_of_mem _ h)
  have hown : s.vm.findClass RX3 = some m.cls := hown
  have hl : lv_has ls 4 [(0, .ref (aX 0)), (1, .int x0), (2, .int x1), (3, .int x2)] := hl
  refine lv_iload_n hx hb dX3_duct_0 rfl (lv_at hl 1 rfl) ?_
  refine lv_iconst (v := 0) hx hb dX3_duct_1 (by decide) ?_
  refine lv_aload_n hx hb dX3_duct_2 rfl (lv_at hl 0 rfl) ?_
  refine va_get (D := (dC, dI)) (ci := 3) (v := .ref (aN 0)) (C := RX3) (T := TX3) (N := 6) hx hb hT in_X3 hown hK hP 0 rfl rfl 0 (by decide) (hT _ mw_152) (fun _ h9 => h9) rfl dX3_duct_3 ?_
  refine va_get (D := (dC, dI)) (ci := 1) (v := .int (nI d)) (C := RX1) (T := TX1) (N := 10) hx hb hT in_X1 hown hK hP 1 rfl rfl 5 (by decide) (hT _ mw_58) (fun _ h9 => h9) rfl dX3_duct_6 ?_
  refine dk_xdem (vx_runS (As := [.int x0, .int 0, .int (nI d)]) (rest := []) ⟨hx, hb, hml, hown, hT⟩ (c_X3_demand l hlt x0 0 (nI d)) (va_cwS 3 hT (dk_gS mw_254 mw_255 mw_23 mw_256) rfl rfl rfl (by decide +kernel) ⟨Nat.le_of_ble_eq_true rfl, Nat.le_of_ble_eq_true rfl⟩) (dk_preD hE hS hA) rfl rfl hl.1 rfl (lv_room (Nat.le_of_ble_eq_true rfl)) dX3_duct_9 ⟨Nat.le_of_ble_eq_true rfl, Nat.le_of_ble_eq_true rfl⟩) (fun ce q9 H1 hc hz hk h1 h2 h3 => hthr dk_IAE ce q9 H1 _ _ _ _ _ _ (Or.inl ⟨rfl, by unfold dk_kDuct; rw [if_pos hc]⟩) (hP.kept (fun k q hq => hk q.1 (hP k q hq).lt)) hD ⟨Nat.le_trans hS.1 hz, fun q h1 h2 => (hk q (Nat.lt_of_lt_of_le h1 hS.1)).trans (hS.2.1 q h1 h2), hS.2.2⟩ h1 h2 h3 (Nat.le_of_ble_eq_true rfl) (Nat.le_of_ble_eq_true rfl)) (fun hd_9 => ?_)
  refine lv_iload_n hx hb dX3_duct_12 rfl (lv_at hl 2 rfl) ?_
  refine lv_iconst (v := 1) hx hb dX3_duct_13 (by decide) ?_
  refine lv_bipush (v := 100) hx hb dX3_duct_14 (by decide) ?_
  refine dk_xdem (vx_runS (As := [.int x1, .int 1, .int 100]) (rest := []) ⟨hx, hb, hml, hown, hT⟩ (c_X3_demand l hlt x1 1 100) (va_cwS 3 hT (dk_gS mw_254 mw_255 mw_23 mw_256) rfl rfl rfl (by decide +kernel) ⟨Nat.le_of_ble_eq_true rfl, Nat.le_of_ble_eq_true rfl⟩) (dk_preD hE hS hA) rfl rfl hl.1 rfl (lv_room (Nat.le_of_ble_eq_true rfl)) dX3_duct_16 ⟨Nat.le_of_ble_eq_true rfl, Nat.le_of_ble_eq_true rfl⟩) (fun ce q9 H1 hc hz hk h1 h2 h3 => hthr dk_IAE ce q9 H1 _ _ _ _ _ _ (Or.inl ⟨rfl, by unfold dk_kDuct; rw [if_neg hd_9, if_pos hc]⟩) (hP.kept (fun k q hq => hk q.1 (hP k q hq).lt)) hD ⟨Nat.le_trans hS.1 hz, fun q h1 h2 => (hk q (Nat.lt_of_lt_of_le h1 hS.1)).trans (hS.2.1 q h1 h2), hS.2.2⟩ h1 h2 h3 (Nat.le_of_ble_eq_true rfl) (Nat.le_of_ble_eq_true rfl)) (fun hd_16 => ?_)
  refine lv_iload_n hx hb dX3_duct_19 rfl (lv_at hl 3 rfl) ?_
  refine lv_iconst (v := 0) hx hb dX3_duct_20 (by decide) ?_
  refine lv_bipush (v := 50) hx hb dX3_duct_21 (by decide) ?_
  refine dk_xdem (vx_runS (As := [.int x2, .int 0, .int 50]) (rest := []) ⟨hx, hb, hml, hown, hT⟩ (c_X3_demand l hlt x2 0 50) (va_cwS 3 hT (dk_gS mw_254 mw_255 mw_23 mw_256) rfl rfl rfl (by decide +kernel) ⟨Nat.le_of_ble_eq_true rfl, Nat.le_of_ble_eq_true rfl⟩) (dk_preD hE hS hA) rfl rfl hl.1 rfl (lv_room (Nat.le_of_ble_eq_true rfl)) dX3_duct_23 ⟨Nat.le_of_ble_eq_true rfl, Nat.le_of_ble_eq_true rfl⟩) (fun ce q9 H1 hc hz hk h1 h2 h3 => hthr dk_IAE ce q9 H1 _ _ _ _ _ _ (Or.inl ⟨rfl, by unfold dk_kDuct; rw [if_neg hd_9, if_neg hd_16, if_pos hc]⟩) (hP.kept (fun k q hq => hk q.1 (hP k q hq).lt)) hD ⟨Nat.le_trans hS.1 hz, fun q h1 h2 => (hk q (Nat.lt_of_lt_of_le h1 hS.1)).trans (hS.2.1 q h1 h2), hS.2.2⟩ h1 h2 h3 (Nat.le_of_ble_eq_true rfl) (Nat.le_of_ble_eq_true rfl)) (fun hd_23 => ?_)
  refine lv_aload_n hx hb dX3_duct_26 rfl (lv_at hl 0 rfl) ?_
  refine va_get (D := (dC, dI)) (ci := 3) (v := .ref (aN 0)) (C := RX3) (T := TX3) (N := 6) hx hb hT in_X3 hown hK hP 0 rfl rfl 0 (by decide) (hT _ mw_152) (fun _ h9 => h9) rfl dX3_duct_27 ?_
  refine va_get (D := (dC, dI)) (ci := 1) (v := .int (nI d)) (C := RX1) (T := TX1) (N := 10) hx hb hT in_X1 hown hK hP 1 rfl rfl 5 (by decide) (hT _ mw_58) (fun _ h9 => h9) rfl dX3_duct_30 ?_
  refine lv_bipush (v := 6) hx hb dX3_duct_33 (by decide) ?_
  refine lv_icmp_lt (tgt := 48) hx hb dX3_duct_35 (by decide) (fun c_35 => ?_) (fun c_35 => ?_)
  · refine lv_aload_n hx hb dX3_duct_48 rfl (lv_at hl 0 rfl) ?_
    refine lv_iconst (v := 1) hx hb dX3_duct_49 (by decide) ?_
    refine va_put (D := (dC, dI)) (ci := 3) (v := .int 1) (ty := .boolean) (C := RX3) (T := TX3) (N := 6) hx hb hT in_X3 tyX3 tyX3_ok nmX3 hown hK hP hD hS 0 rfl rfl 5 (by decide) (hT _ mw_157) (fun _ h9 => h9) rfl (by decide +kernel) rfl rfl (Nat.le_of_ble_eq_true rfl) dX3_duct_50 (fun H locs hP hD hS => ?_)
    have hP : va_P (dC, dI) vwCl (dk_X cI cII aX (aN 0) cv bs ch ep 1 ++ dk_N cI cII aN fr le fi ne fl (nI d) ar pr sz sp) H := hP
    have hD : va_D A (dk_X cI cII aX (aN 0) cv bs ch ep 1 ++ dk_N cI cII aN fr le fi ne fl (nI d) ar pr sz sp) := hD
    refine lv_aload_n hx hb dX3_duct_53 rfl (lv_at hl 0 rfl) ?_
    refine va_get (D := (dC, dI)) (ci := 3) (v := .ref (aN 0)) (C := RX3) (T := TX3) (N := 6) hx hb hT in_X3 hown hK hP 0 rfl rfl 0 (by decide) (hT _ mw_152) (fun _ h9 => h9) rfl dX3_duct_54 ?_
    refine lv_iload_n hx hb dX3_duct_57 rfl (lv_at hl 1 rfl) ?_
    refine lv_iload_n hx hb dX3_duct_58 rfl (lv_at hl 2 rfl) ?_
    refine lv_iload_n hx hb dX3_duct_59 rfl (lv_at hl 3 rfl) ?_
    refine dk_calli (wr := dk_X cI cII aX (aN 0) cv bs ch ep 1) (va_runV (As := [.int x0, .int x1, .int x2]) (rest := []) ⟨hx, hb, hml, hown, hT⟩ (c_X1_addDuct l dC dI cI cII aN fr le fi ne fl ar pr sz sp d x0 x1 x2 _ ((nI_ltI (by omega) (by omega)).mp c_35)) (cwV 3 hT (dk_gV mw_340 mw_341 mw_342 mw_24 mw_343) rfl rfl rfl (by decide +kernel) ⟨(Nat.le_of_ble_eq_true rfl), (Nat.le_of_ble_eq_true rfl)⟩) (dk_preV hK hP hD [1, 2, 3, 4, 5, 6, 7, 8] rfl rfl (q0 := 1) (ci := 1) rfl rfl) rfl rfl hl.1 rfl (lv_room (Nat.le_of_ble_eq_true rfl)) dX3_duct_60 ⟨Nat.le_of_ble_eq_true rfl, Nat.le_of_ble_eq_true rfl⟩) hP hD hS hA [1, 2, 3, 4, 5, 6, 7, 8] [0] rfl rfl rfl (by decide) (fun r9 _ H locs h9 hP hD hS => ?_)
    subst h9
    have hP : va_P (dC, dI) vwCl (dk_X cI cII aX (aN 0) cv bs ch ep 1 ++ dk_N cI cII aN (upd fr (d + 1) x0) (upd le (d + 1) x1) (upd fi (d + 1) x2) ne fl (nI (d + 1)) ar pr sz sp) H := hP
    have hD : va_D A (dk_X cI cII aX (aN 0) cv bs ch ep 1 ++ dk_N cI cII aN (upd fr (d + 1) x0) (upd le (d + 1) x1) (upd fi (d + 1) x2) ne fl (nI (d + 1)) ar pr sz sp) := hD
    refine W.widen (k := 4) (n := 24) (Nat.le_of_ble_eq_true rfl) (Nat.le_of_ble_eq_true rfl) ?_
    exact hret _ () _ _ _ _ ⟨(by unfold dk_kDuct; rw [if_neg hd_9, if_neg hd_16, if_neg hd_23, if_pos c_35]), rfl⟩ hP hD hS dX3_duct_63
  · subst hQ
    obtain ⟨sa, hsa⟩ := hE.2.2.1 (52, "there are all the ducts that there can be") (by decide +kernel)
    exact vx_throwS (own := RX3) (cls := dk_ISE) (names := dk_ups) (A := A) hx hb hlt hown (by decide +kernel) (by decide +kernel) (hT _ mw_324) (hT _ mw_32) hsa (vx_hat (L := vx_atS RX3 54 dk_ISE dk_ups) (B := dk_badS) (fun w hw => hT w ((by decide +kernel : ∀ w ∈ (vx_atS RX3 54 dk_ISE dk_ups).filter goodWord, w ∈ dk_tbl) w hw)) (by decide +kernel) (fun w hw => va_Nw.use ((by decide +kernel : ∀ w ∈ dk_badS, w.onTables = true) w hw) (hE.2.2.2 w ((by decide +kernel : ∀ w ∈ dk_badS, w ∈ dk_badA ++ dk_badS) w hw)))) (by decide +kernel) hE.1 hE.2.1 hS (hl.1.trans hml.symm) dX3_duct_38 dX3_duct_41 dX3_duct_42 dX3_duct_44 dX3_duct_47 (fun x hx => (hno x hx).elim) (Nat.le_of_ble_eq_true rfl) (Nat.le_of_ble_eq_true rfl) (Nat.le_of_ble_eq_true rfl) (Nat.le_of_ble_eq_true rfl) hlocks (fun t ha hsz hk => ⟨dk_ISE, (Or.inr ⟨rfl, (by unfold dk_kDuct; rw [if_neg hd_9, if_neg hd_16, if_neg hd_23, if_neg c_35])⟩), ⟨rfl, hP.kept (fun k q hq => hk q.1 (hP k q hq).lt), va_K.moved ha hK, hD⟩, Nat.le_trans hS.1 hsz, fun q h1 h2 => (hk q (Nat.lt_of_lt_of_le h1 hS.1)).trans (hS.2.1 q h1 h2)⟩) hS.2.2 (Nat.le_of_ble_eq_true rfl) (Nat.le_of_ble_eq_true rfl)
