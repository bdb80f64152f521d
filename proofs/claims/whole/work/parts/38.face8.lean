set_option maxHeartbeats 4000000 in
set_option maxRecDepth 100000 in
/-- flow -/
theorem c_X3_flow (l : Launch) (hlt : l.stackTraces = false) (dC : Nat → ClassId) (dI : Nat → Nat → Nat) (cI cII : ClassId) (aX : Nat → Nat) (cv : Nat) (bs : Nat) (ch : Nat) (ep : Int32) (ol : Int32) (aN : Nat → Nat) (fr : Nat → Int32) (le : Nat → Int32) (fi : Nat → Int32) (ne : Nat → Int32) (fl : Nat → Int32) (ar : Nat → Int32) (pr : Nat → Int32) (sz : Int32) (sp : Int32) (d : Nat) (x0 : Int32) (hz : Nat) (h1 : d ≤ 6) : dk_Xi l yX3_flow wsX3_flow ({ frames := 7, cells := 1, slots := 6, locals := 104 }) (dC, dI) (dk_T cI cII) [.ref (aX 0), .int x0] (dk_X cI cII aX (aN 0) cv bs ch ep ol ++ dk_N cI cII aN fr le fi ne fl (nI d) ar pr sz sp) hz (fun (r : Int32) (_ : Unit) => dk_kIn 1 d x0 = 0 ∧ r = (fl x0.toNatClampNeg)) (fun _ => dk_X cI cII aX (aN 0) cv bs ch ep ol ++ dk_N cI cII aN fr le fi ne fl (nI d) ar pr sz sp) (dk_px (dk_kIn 1 d x0)) 1 6 := by
  refine dk_ofXi (cc := cX3_flow) (maxL := 2) (by decide) rfl (Nat.le_of_ble_eq_true rfl) ?_
  intro p e s m args below meth c A ls Q ⟨hx, hb, hml, hts, hown, hnm⟩ hlocks hno hsz hK hP hD hA hS hl hE hQ hret hthr
  have hT : ∀ w ∈ dk_tbl, w.before args s = true := fun w h => hts w (List.mem_cons_of_mem _ h)
  have hown : s.vm.findClass RX3 = some m.cls := hown
  have hl : lv_has ls 2 [(0, .ref (aX 0)), (1, .int x0)] := hl
  refine lv_iload_n hx hb dX3_flow_0 rfl (lv_at hl 1 rfl) ?_
  refine lv_iconst (v := 1) hx hb dX3_flow_1 (by decide) ?_
  refine lv_aload_n hx hb dX3_flow_2 rfl (lv_at hl 0 rfl) ?_
  refine va_get (D := (dC, dI)) (ci := 3) (v := .ref (aN 0)) (C := RX3) (T := TX3) (N := 6) hx hb hT in_X3 hown hK hP 0 rfl rfl 0 (by decide) (hT _ mw_152) (fun _ h9 => h9) rfl dX3_flow_3 ?_
  refine va_get (D := (dC, dI)) (ci := 1) (v := .int (nI d)) (C := RX1) (T := TX1) (N := 10) hx hb hT in_X1 hown hK hP 1 rfl rfl 5 (by decide) (hT _ mw_58) (fun _ h9 => h9) rfl dX3_flow_6 ?_
  refine dk_xdem (vx_runS (As := [.int x0, .int 1, .int (nI d)]) (rest := []) ⟨hx, hb, hml, hown, hT⟩ (c_X3_demand l hlt x0 1 (nI d)) (va_cwS 3 hT (dk_gS mw_254 mw_255 mw_23 mw_256) rfl rfl rfl (by decide +kernel) ⟨Nat.le_of_ble_eq_true rfl, Nat.le_of_ble_eq_true rfl⟩) (dk_preD hE hS hA) rfl rfl hl.1 rfl (lv_room (Nat.le_of_ble_eq_true rfl)) dX3_flow_9 ⟨Nat.le_of_ble_eq_true rfl, Nat.le_of_ble_eq_true rfl⟩) (fun ce q9 H1 hc hz hk h1 h2 h3 => hthr dk_IAE ce q9 H1 _ _ _ _ _ _ (Or.inl ⟨rfl, by unfold dk_kIn; rw [if_pos hc]⟩) (hP.kept (fun k q hq => hk q.1 (hP k q hq).lt)) hD ⟨Nat.le_trans hS.1 hz, fun q h1 h2 => (hk q (Nat.lt_of_lt_of_le h1 hS.1)).trans (hS.2.1 q h1 h2), hS.2.2⟩ h1 h2 h3 (Nat.le_of_ble_eq_true rfl) (Nat.le_of_ble_eq_true rfl)) (fun hd_9 => ?_)
  obtain ⟨j, hj1, hj2, rfl⟩ := dk_of (lo := 1) hd_9 rfl (by omega) (by omega)
  simp only [nI_clamp (show j < 2 ^ 31 by omega)] at hret
  refine lv_aload_n hx hb dX3_flow_12 rfl (lv_at hl 0 rfl) ?_
  refine va_get (D := (dC, dI)) (ci := 3) (v := .ref (aN 0)) (C := RX3) (T := TX3) (N := 6) hx hb hT in_X3 hown hK hP 0 rfl rfl 0 (by decide) (hT _ mw_152) (fun _ h9 => h9) rfl dX3_flow_13 ?_
  refine va_get (D := (dC, dI)) (ci := 1) (v := .ref (aN 5)) (C := RX1) (T := TX1) (N := 10) hx hb hT in_X1 hown hK hP 1 rfl rfl 4 (by decide) (hT _ mw_56) (fun _ h9 => h9) rfl dX3_flow_16 ?_
  refine lv_iload_n hx hb dX3_flow_19 rfl (lv_at hl 1 rfl) ?_
  refine dk_iald (q0 := 6) (t0 := 0) (i := j) hx hb hK hP rfl rfl rfl (by omega) (by decide) dX3_flow_20 ?_
  refine W.widen (k := 1) (n := 6) (Nat.le_of_ble_eq_true rfl) (Nat.le_of_ble_eq_true rfl) ?_
  exact hret _ () _ _ _ _ ⟨(by unfold dk_kIn; rw [if_neg hd_9]), rfl⟩ hP hD hS dX3_flow_21
