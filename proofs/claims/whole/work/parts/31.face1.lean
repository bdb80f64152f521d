set_option maxHeartbeats 4000000 in
set_option maxRecDepth 100000 in
/-- need -/
theorem c_X3_need (l : Launch) (hlt : l.stackTraces = false) (dC : Nat → ClassId) (dI : Nat → Nat → Nat) (cI cII : ClassId) (aX : Nat → Nat) (cv : Nat) (bs : Nat) (ch : Nat) (ep : Int32) (ol : Int32) (aN : Nat → Nat) (fr : Nat → Int32) (le : Nat → Int32) (fi : Nat → Int32) (ne : Nat → Int32) (fl : Nat → Int32) (ar : Nat → Int32) (pr : Nat → Int32) (sz : Int32) (sp : Int32) (d : Nat) (x0 : Int32) (x1 : Int32) (hz : Nat) (h1 : d ≤ 6) (h2 : ∀ k, k < 7 → vp_in (fr k) 7) : dk_Xi l yX3_need wsX3_need ({ frames := 7, cells := 2, slots := 12, locals := 104 }) (dC, dI) (dk_T cI cII) [.ref (aX 0), .int x0, .int x1] (dk_X cI cII aX (aN 0) cv bs ch ep ol ++ dk_N cI cII aN fr le fi ne fl (nI d) ar pr sz sp) hz (fun (r : Int32) (_ : Unit) => dk_kNeed d x0 x1 = 0 ∧ r = (ne x0.toNatClampNeg)) (fun _ => dk_X cI cII aX (aN 0) cv bs ch ep 1 ++ dk_N cI cII aN fr le fi (upd ne x0.toNatClampNeg x1) (dk_up fr d (dk_cpL (upd ne x0.toNatClampNeg x1) (d + 1) 0 fl)) (nI d) ar pr sz sp) (dk_px (dk_kNeed d x0 x1)) 2 12 := by
  refine dk_ofXi (cc := cX3_need) (maxL := 3) (by decide) rfl (Nat.le_of_ble_eq_true rfl) ?_
  intro p e s m args below meth c A ls Q ⟨hx, hb, hml, hts, hown, hnm⟩ hlocks hno hsz hK hP hD hA hS hl hE hQ hret hthr
  have hT : ∀ w ∈ dk_tbl, w.before args s = true := fun w h => hts w (List.mem_cons_of_mem _ h)
  have hown : s.vm.findClass RX3 = some m.cls := hown
  have hl : lv_has ls 3 [(0, .ref (aX 0)), (1, .int x0), (2, .int x1)] := hl
  refine lv_iload_n hx hb dX3_need_0 rfl (lv_at hl 1 rfl) ?_
  refine lv_iconst (v := 1) hx hb dX3_need_1 (by decide) ?_
  refine lv_aload_n hx hb dX3_need_2 rfl (lv_at hl 0 rfl) ?_
  refine va_get (D := (dC, dI)) (ci := 3) (v := .ref (aN 0)) (C := RX3) (T := TX3) (N := 6) hx hb hT in_X3 hown hK hP 0 rfl rfl 0 (by decide) (hT _ mw_152) (fun _ h9 => h9) rfl dX3_need_3 ?_
  refine va_get (D := (dC, dI)) (ci := 1) (v := .int (nI d)) (C := RX1) (T := TX1) (N := 10) hx hb hT in_X1 hown hK hP 1 rfl rfl 5 (by decide) (hT _ mw_58) (fun _ h9 => h9) rfl dX3_need_6 ?_
  refine dk_xdem (vx_runS (As := [.int x0, .int 1, .int (nI d)]) (rest := []) ⟨hx, hb, hml, hown, hT⟩ (c_X3_demand l hlt x0 1 (nI d)) (va_cwS 3 hT (dk_gS mw_254 mw_255 mw_23 mw_256) rfl rfl rfl (by decide +kernel) ⟨Nat.le_of_ble_eq_true rfl, Nat.le_of_ble_eq_true rfl⟩) (dk_preD hE hS hA) rfl rfl hl.1 rfl (lv_room (Nat.le_of_ble_eq_true rfl)) dX3_need_9 ⟨Nat.le_of_ble_eq_true rfl, Nat.le_of_ble_eq_true rfl⟩) (fun ce q9 H1 hc hz hk h1 h2 h3 => hthr dk_IAE ce q9 H1 _ _ _ _ _ _ (Or.inl ⟨rfl, by unfold dk_kNeed; rw [if_pos hc]⟩) (hP.kept (fun k q hq => hk q.1 (hP k q hq).lt)) hD ⟨Nat.le_trans hS.1 hz, fun q h1 h2 => (hk q (Nat.lt_of_lt_of_le h1 hS.1)).trans (hS.2.1 q h1 h2), hS.2.2⟩ h1 h2 h3 (Nat.le_of_ble_eq_true rfl) (Nat.le_of_ble_eq_true rfl)) (fun hd_9 => ?_)
  obtain ⟨j, hj1, hj2, rfl⟩ := dk_of (lo := 1) hd_9 rfl (by omega) (by omega)
  simp only [nI_clamp (show j < 2 ^ 31 by omega)] at hret
  refine lv_iload_n hx hb dX3_need_12 rfl (lv_at hl 2 rfl) ?_
  refine lv_iconst (v := 0) hx hb dX3_need_13 (by decide) ?_
  refine lv_sipush (v := 1000) hx hb dX3_need_14 (by decide) ?_
  refine dk_xdem (vx_runS (As := [.int x1, .int 0, .int 1000]) (rest := []) ⟨hx, hb, hml, hown, hT⟩ (c_X3_demand l hlt x1 0 1000) (va_cwS 3 hT (dk_gS mw_254 mw_255 mw_23 mw_256) rfl rfl rfl (by decide +kernel) ⟨Nat.le_of_ble_eq_true rfl, Nat.le_of_ble_eq_true rfl⟩) (dk_preD hE hS hA) rfl rfl hl.1 rfl (lv_room (Nat.le_of_ble_eq_true rfl)) dX3_need_17 ⟨Nat.le_of_ble_eq_true rfl, Nat.le_of_ble_eq_true rfl⟩) (fun ce q9 H1 hc hz hk h1 h2 h3 => hthr dk_IAE ce q9 H1 _ _ _ _ _ _ (Or.inl ⟨rfl, by unfold dk_kNeed; rw [if_neg hd_9, if_pos hc]⟩) (hP.kept (fun k q hq => hk q.1 (hP k q hq).lt)) hD ⟨Nat.le_trans hS.1 hz, fun q h1 h2 => (hk q (Nat.lt_of_lt_of_le h1 hS.1)).trans (hS.2.1 q h1 h2), hS.2.2⟩ h1 h2 h3 (Nat.le_of_ble_eq_true rfl) (Nat.le_of_ble_eq_true rfl)) (fun hd_17 => ?_)
  refine lv_aload_n hx hb dX3_need_20 rfl (lv_at hl 0 rfl) ?_
  refine lv_iconst (v := 1) hx hb dX3_need_21 (by decide) ?_
  refine va_put (D := (dC, dI)) (ci := 3) (v := .int 1) (ty := .boolean) (C := RX3) (T := TX3) (N := 6) hx hb hT in_X3 tyX3 tyX3_ok nmX3 hown hK hP hD hS 0 rfl rfl 5 (by decide) (hT _ mw_157) (fun _ h9 => h9) rfl (by decide +kernel) rfl rfl (Nat.le_of_ble_eq_true rfl) dX3_need_22 (fun H locs hP hD hS => ?_)
  have hP : va_P (dC, dI) vwCl (dk_X cI cII aX (aN 0) cv bs ch ep 1 ++ dk_N cI cII aN fr le fi ne fl (nI d) ar pr sz sp) H := hP
  have hD : va_D A (dk_X cI cII aX (aN 0) cv bs ch ep 1 ++ dk_N cI cII aN fr le fi ne fl (nI d) ar pr sz sp) := hD
  refine lv_aload_n hx hb dX3_need_25 rfl (lv_at hl 0 rfl) ?_
  refine va_get (D := (dC, dI)) (ci := 3) (v := .ref (aN 0)) (C := RX3) (T := TX3) (N := 6) hx hb hT in_X3 hown hK hP 0 rfl rfl 0 (by decide) (hT _ mw_152) (fun _ h9 => h9) rfl dX3_need_26 ?_
  refine lv_iload_n hx hb dX3_need_29 rfl (lv_at hl 1 rfl) ?_
  refine lv_iload_n hx hb dX3_need_30 rfl (lv_at hl 2 rfl) ?_
  refine dk_calli (wr := dk_X cI cII aX (aN 0) cv bs ch ep 1) (va_runV (As := [.int (nI j), .int x1]) (rest := []) ⟨hx, hb, hml, hown, hT⟩ (c_X1_changeNeed l dC dI cI cII aN fr le fi ne fl ar pr sz sp d j x1 _ (by omega) h2 (by omega)) (cwV 2 hT (dk_gV mw_351 mw_352 mw_353 mw_24 mw_354) rfl rfl rfl (by decide +kernel) ⟨(Nat.le_of_ble_eq_true rfl), (Nat.le_of_ble_eq_true rfl)⟩) (dk_preV hK hP hD [1, 2, 3, 4, 5, 6, 7, 8] rfl rfl (q0 := 1) (ci := 1) rfl rfl) rfl rfl hl.1 rfl (lv_room (Nat.le_of_ble_eq_true rfl)) dX3_need_31 ⟨Nat.le_of_ble_eq_true rfl, Nat.le_of_ble_eq_true rfl⟩) hP hD hS hA [1, 2, 3, 4, 5, 6, 7, 8] [0] rfl rfl rfl (by decide) (fun r9 _ H locs h9 hP hD hS => ?_)
  subst h9
  have hP : va_P (dC, dI) vwCl (dk_X cI cII aX (aN 0) cv bs ch ep 1 ++ dk_N cI cII aN fr le fi (upd ne j x1) (dk_up fr d (dk_cpL (upd ne j x1) (d + 1) 0 fl)) (nI d) ar pr sz sp) H := hP
  have hD : va_D A (dk_X cI cII aX (aN 0) cv bs ch ep 1 ++ dk_N cI cII aN fr le fi (upd ne j x1) (dk_up fr d (dk_cpL (upd ne j x1) (d + 1) 0 fl)) (nI d) ar pr sz sp) := hD
  refine W.widen (k := 2) (n := 12) (Nat.le_of_ble_eq_true rfl) (Nat.le_of_ble_eq_true rfl) ?_
  exact hret _ () _ _ _ _ ⟨(by unfold dk_kNeed; rw [if_neg hd_9, if_neg hd_17]), rfl⟩ hP hD hS dX3_need_34
