set_option maxHeartbeats 4000000 in
set_option maxRecDepth 100000 in
/-- set -/
theorem c_X3_set (l : Launch) (hlt : l.stackTraces = false) (dC : Nat → ClassId) (dI : Nat → Nat → Nat) (cI cII : ClassId) (aX : Nat → Nat) (cv : Nat) (bs : Nat) (ch : Nat) (ep : Int32) (ol : Int32) (aN : Nat → Nat) (fr : Nat → Int32) (le : Nat → Int32) (fi : Nat → Int32) (ne : Nat → Int32) (fl : Nat → Int32) (du : Int32) (ar : Nat → Int32) (pr : Nat → Int32) (sz : Int32) (sp : Int32) (x0 : Int32) (x1 : Int32) (hz : Nat) : dk_Xi l yX3_set wsX3_set ({ frames := 8, cells := 2, slots := 12, locals := 126 }) (dC, dI) (dk_T cI cII) [.ref (aX 0), .int x0, .int x1] (dk_X cI cII aX (aN 0) cv bs ch ep ol ++ dk_N cI cII aN fr le fi ne fl du ar pr sz sp) hz (fun (r : Int32) (_ : Unit) => dk_kSet x0 x1 = 0 ∧ r = (if x0 = 0 then sp else ep)) (fun _ => dk_X cI cII aX (aN 0) cv bs ch (if x0 = 0 then ep else x1) 1 ++ dk_N cI cII aN fr le fi ne fl du ar pr sz (if x0 = 0 then x1 else sp)) (dk_px (dk_kSet x0 x1)) 2 12 := by
  refine dk_ofXi (cc := cX3_set) (maxL := 3) (by decide) rfl (Nat.le_of_ble_eq_true rfl) ?_
  intro p e s m args below meth c A ls Q ⟨hx, hb, hml, hts, hown, hnm⟩ hlocks hno hsz hK hP hD hA hS hl hE hQ hret hthr
  have hT : ∀ w ∈ dk_tbl, w.before args s = true := fun w h => hts w (List.mem_cons_of_mem _ h)
  have hown : s.vm.findClass RX3 = some m.cls := hown
  have hl : lv_has ls 3 [(0, .ref (aX 0)), (1, .int x0), (2, .int x1)] := hl
  refine lv_iload_n hx hb dX3_set_0 rfl (lv_at hl 1 rfl) ?_
  refine lv_iconst (v := 0) hx hb dX3_set_1 (by decide) ?_
  refine lv_iconst (v := 1) hx hb dX3_set_2 (by decide) ?_
  refine dk_xdem (vx_runS (As := [.int x0, .int 0, .int 1]) (rest := []) ⟨hx, hb, hml, hown, hT⟩ (c_X3_demand l hlt x0 0 1) (va_cwS 3 hT (dk_gS mw_254 mw_255 mw_23 mw_256) rfl rfl rfl (by decide +kernel) ⟨Nat.le_of_ble_eq_true rfl, Nat.le_of_ble_eq_true rfl⟩) (dk_preD hE hS hA) rfl rfl hl.1 rfl (lv_room (Nat.le_of_ble_eq_true rfl)) dX3_set_3 ⟨Nat.le_of_ble_eq_true rfl, Nat.le_of_ble_eq_true rfl⟩) (fun ce q9 H1 hc hz hk h1 h2 h3 => hthr dk_IAE ce q9 H1 _ _ _ _ _ _ (Or.inl ⟨rfl, by unfold dk_kSet; rw [if_pos hc]⟩) (hP.kept (fun k q hq => hk q.1 (hP k q hq).lt)) hD ⟨Nat.le_trans hS.1 hz, fun q h1 h2 => (hk q (Nat.lt_of_lt_of_le h1 hS.1)).trans (hS.2.1 q h1 h2), hS.2.2⟩ h1 h2 h3 (Nat.le_of_ble_eq_true rfl) (Nat.le_of_ble_eq_true rfl)) (fun hd_3 => ?_)
  refine lv_iload_n hx hb dX3_set_6 rfl (lv_at hl 1 rfl) ?_
  refine lv_if_ne (tgt := 18) hx hb dX3_set_7 (by decide) (fun c_7 => ?_) (fun c_7 => ?_)
  · refine lv_aload_n hx hb dX3_set_18 rfl (lv_at hl 0 rfl) ?_
    refine lv_iload_n hx hb dX3_set_19 rfl (lv_at hl 2 rfl) ?_
    refine dk_xcalli (wr := []) (vx_runV (As := [.int x1]) (rest := []) ⟨hx, hb, hml, hown, hT⟩ (c_X3_changeEnergyPrice l hlt dC dI cI cII aX cv bs ch ep ol aN fr le fi ne fl du ar pr sz sp x1 _) (cwV 1 hT (dk_gV mw_383 mw_385 mw_10 mw_23 mw_386) rfl rfl rfl (by decide +kernel) ⟨Nat.le_of_ble_eq_true rfl, Nat.le_of_ble_eq_true rfl⟩) (dk_preXV hK hP hD hE hS hA [0, 1, 2, 3, 4, 5, 6, 7, 8] rfl rfl (q0 := 0) (ci := 3) rfl rfl) rfl rfl hl.1 rfl (lv_room (Nat.le_of_ble_eq_true rfl)) dX3_set_20 ⟨Nat.le_of_ble_eq_true rfl, Nat.le_of_ble_eq_true rfl⟩) hP hD hS hA [0, 1, 2, 3, 4, 5, 6, 7, 8] [] rfl rfl rfl (by decide) (fun E ce q9 H1 locs1 hpx hP1 hD1 hS1 h1 h2 h3 => hthr E ce q9 H1 locs1 _ _ _ _ _ (by unfold dk_kSet; rw [if_neg hd_3, if_neg c_7]; exact hpx) hP1 hD1 hS1 h1 h2 h3 (Nat.le_of_ble_eq_true rfl) (Nat.le_of_ble_eq_true rfl)) (fun r9 _ H locs h9 hP hD hS => ?_)
    obtain ⟨h8_20, h7⟩ := h9
    rw [h7]
    have hP : va_P (dC, dI) vwCl (dk_X cI cII aX (aN 0) cv bs ch x1 1 ++ dk_N cI cII aN fr le fi ne fl du ar pr sz sp) H := hP
    have hD : va_D A (dk_X cI cII aX (aN 0) cv bs ch x1 1 ++ dk_N cI cII aN fr le fi ne fl du ar pr sz sp) := hD
    simp only [if_neg c_7] at hret
    refine W.widen (k := 2) (n := 12) (Nat.le_of_ble_eq_true rfl) (Nat.le_of_ble_eq_true rfl) ?_
    exact hret _ () _ _ _ _ ⟨(by unfold dk_kSet; rw [if_neg hd_3, if_neg c_7]; exact h8_20), rfl⟩ hP hD hS dX3_set_23
  · refine lv_aload_n hx hb dX3_set_10 rfl (lv_at hl 0 rfl) ?_
    refine lv_iload_n hx hb dX3_set_11 rfl (lv_at hl 2 rfl) ?_
    refine dk_xcalli (wr := []) (vx_runV (As := [.int x1]) (rest := []) ⟨hx, hb, hml, hown, hT⟩ (c_X3_changeSpeedLimit l hlt dC dI cI cII aX cv bs ch ep ol aN fr le fi ne fl du ar pr sz sp x1 _) (cwV 1 hT (dk_gV mw_378 mw_380 mw_9 mw_23 mw_381) rfl rfl rfl (by decide +kernel) ⟨Nat.le_of_ble_eq_true rfl, Nat.le_of_ble_eq_true rfl⟩) (dk_preXV hK hP hD hE hS hA [0, 1, 2, 3, 4, 5, 6, 7, 8] rfl rfl (q0 := 0) (ci := 3) rfl rfl) rfl rfl hl.1 rfl (lv_room (Nat.le_of_ble_eq_true rfl)) dX3_set_12 ⟨Nat.le_of_ble_eq_true rfl, Nat.le_of_ble_eq_true rfl⟩) hP hD hS hA [0, 1, 2, 3, 4, 5, 6, 7, 8] [] rfl rfl rfl (by decide) (fun E ce q9 H1 locs1 hpx hP1 hD1 hS1 h1 h2 h3 => hthr E ce q9 H1 locs1 _ _ _ _ _ (by unfold dk_kSet; rw [if_neg hd_3, if_pos c_7]; exact hpx) hP1 hD1 hS1 h1 h2 h3 (Nat.le_of_ble_eq_true rfl) (Nat.le_of_ble_eq_true rfl)) (fun r9 _ H locs h9 hP hD hS => ?_)
    obtain ⟨h8_12, h7⟩ := h9
    rw [h7]
    have hP : va_P (dC, dI) vwCl (dk_X cI cII aX (aN 0) cv bs ch ep 1 ++ dk_N cI cII aN fr le fi ne fl du ar pr sz x1) H := hP
    have hD : va_D A (dk_X cI cII aX (aN 0) cv bs ch ep 1 ++ dk_N cI cII aN fr le fi ne fl du ar pr sz x1) := hD
    refine lv_goto (tgt := 23) hx hb dX3_set_15 (by decide) ?_
    simp only [if_pos c_7] at hret
    refine W.widen (k := 2) (n := 12) (Nat.le_of_ble_eq_true rfl) (Nat.le_of_ble_eq_true rfl) ?_
    exact hret _ () _ _ _ _ ⟨(by unfold dk_kSet; rw [if_neg hd_3, if_pos c_7]; exact h8_12), rfl⟩ hP hD hS dX3_set_23
