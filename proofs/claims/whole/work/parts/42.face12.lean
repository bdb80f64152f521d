set_option maxHeartbeats 4000000 in
set_option maxRecDepth 100000 in
/-- chosen -/
theorem c_X3_chosen (l : Launch) (hlt : l.stackTraces = false) (dC : Nat → ClassId) (dI : Nat → Nat → Nat) (cI cII : ClassId) (aX : Nat → Nat) (ch : Nat) (ep : Int32) (ol : Int32) (aN : Nat → Nat) (fr : Nat → Int32) (le : Nat → Int32) (fi : Nat → Int32) (ne : Nat → Int32) (fl : Nat → Int32) (ar : Nat → Int32) (pr : Nat → Int32) (sp : Int32) (aC : Nat → Nat) (cf : Nat → Int32) (cp : Nat → Int32) (aB : Nat → Nat) (F : Nat → Nat → Int32) (li : Int32) (en : Int32) (d : Nat) (z : Nat) (k : Nat) (st : dk_SS) (x0 : Int32) (hz : Nat) (hz1 : z ≤ 4) (hd1 : d ≤ 6) (hfr : ∀ k, k < 7 → vp_in (fr k) 7) (har : ∀ j, j < z → ¬ ar j = 0) (har2 : ∀ j, j < z → ¬ (ar j).toInt64 * (ar j).toInt64 = 0) (hk1 : k ≤ 5) (hcv : ∀ i, 0 < i → i < k → ¬ cf i - cf (i - 1) = 0) : dk_Xi l yX3_chosen wsX3_chosen ({ frames := 16, cells := 1, slots := 6, locals := 395 }) (dC, dI) (dk_T cI cII) [.ref (aX 0), .int x0] (dk_X cI cII aX (aN 0) (aC 0) (aB 0) ch ep ol ++ dk_N cI cII aN fr le fi ne fl (nI d) ar pr (nI z) sp ++ dk_C cI cII aC cf cp (nI k) ++ dk_SW cI cII aB (aN 0) F li en st) hz (fun (r : Int32) (_ : Unit) => dk_kIn 1 d x0 = 0 ∧ r = (if (dk_bS ol d z fr le fi fl ar pr sp cf cp k ep F st).2.2.2.2.1 = 0 then (-1) else (dk_bS ol d z fr le fi fl ar pr sp cf cp k ep F st).2.2.1 x0.toNatClampNeg)) (fun _ => dk_X cI cII aX (aN 0) (aC 0) (aB 0) ch ep 0 ++ dk_N cI cII aN fr le fi ne fl (nI d) ar pr (nI z) sp ++ dk_C cI cII aC cf cp (nI k) ++ dk_SW cI cII aB (aN 0) (dk_bF ol d z le fi fl ar sp F) (dk_bL ol cf cp k fl li) (dk_bE ol ep en) (dk_bS ol d z fr le fi fl ar pr sp cf cp k ep F st)) (dk_px (dk_kIn 1 d x0)) 1 6 := by
  refine dk_ofXi (cc := cX3_chosen) (maxL := 3) (by decide) rfl (Nat.le_of_ble_eq_true rfl) ?_
  intro p e s m args below meth c A ls Q ⟨hx, hb, hml, hts, hown, hnm⟩ hlocks hno hsz hK hP hD hA hS hl hE hQ hret hthr
  have hT : ∀ w ∈ dk_tbl, w.before args s = true := fun w h => hts w (List.mem_cons_of_mem _ h)
  have hown : s.vm.findClass RX3 = some m.cls := hown
  have hl : lv_has ls 3 [(0, .ref (aX 0)), (1, .int x0)] := hl
  refine lv_iload_n hx hb dX3_chosen_0 rfl (lv_at hl 1 rfl) ?_
  refine lv_iconst (v := 1) hx hb dX3_chosen_1 (by decide) ?_
  refine lv_aload_n hx hb dX3_chosen_2 rfl (lv_at hl 0 rfl) ?_
  refine va_get (D := (dC, dI)) (ci := 3) (v := .ref (aN 0)) (C := RX3) (T := TX3) (N := 6) hx hb hT in_X3 hown hK hP 0 rfl rfl 0 (by decide) (hT _ mw_152) (fun _ h9 => h9) rfl dX3_chosen_3 ?_
  refine va_get (D := (dC, dI)) (ci := 1) (v := .int (nI d)) (C := RX1) (T := TX1) (N := 10) hx hb hT in_X1 hown hK hP 1 rfl rfl 5 (by decide) (hT _ mw_58) (fun _ h9 => h9) rfl dX3_chosen_6 ?_
  refine dk_xdem (vx_runS (As := [.int x0, .int 1, .int (nI d)]) (rest := []) ⟨hx, hb, hml, hown, hT⟩ (c_X3_demand l hlt x0 1 (nI d)) (va_cwS 3 hT (dk_gS mw_254 mw_255 mw_23 mw_256) rfl rfl rfl (by decide +kernel) ⟨Nat.le_of_ble_eq_true rfl, Nat.le_of_ble_eq_true rfl⟩) (dk_preD hE hS hA) rfl rfl hl.1 rfl (lv_room (Nat.le_of_ble_eq_true rfl)) dX3_chosen_9 ⟨Nat.le_of_ble_eq_true rfl, Nat.le_of_ble_eq_true rfl⟩) (fun ce q9 H1 hc hz hk h1 h2 h3 => hthr dk_IAE ce q9 H1 _ _ _ _ _ _ (Or.inl ⟨rfl, by unfold dk_kIn; rw [if_pos hc]⟩) (hP.kept (fun k q hq => hk q.1 (hP k q hq).lt)) hD ⟨Nat.le_trans hS.1 hz, fun q h1 h2 => (hk q (Nat.lt_of_lt_of_le h1 hS.1)).trans (hS.2.1 q h1 h2), hS.2.2⟩ h1 h2 h3 (Nat.le_of_ble_eq_true rfl) (Nat.le_of_ble_eq_true rfl)) (fun hd_9 => ?_)
  obtain ⟨j, hj1, hj2, rfl⟩ := dk_of (lo := 1) hd_9 rfl (by omega) (by omega)
  simp only [nI_clamp (show j < 2 ^ 31 by omega)] at hret
  refine lv_aload_n hx hb dX3_chosen_12 rfl (lv_at hl 0 rfl) ?_
  refine dk_callr (wr := []) (va_runV (As := []) (rest := []) ⟨hx, hb, hml, hown, hT⟩ (c_X3_bestChoice l dC dI cI cII aX ch ep ol aN fr le fi ne fl ar pr sp aC cf cp aB F li en d z k st _ hz1 hd1 hfr har har2 hk1 hcv) (cwV 0 hT (dk_gV mw_187 mw_189 mw_1 mw_23 mw_190) rfl rfl rfl (by decide +kernel) ⟨Nat.le_of_ble_eq_true rfl, Nat.le_of_ble_eq_true rfl⟩) (dk_preV hK hP hD [0, 1, 2, 3, 4, 5, 6, 7, 8, 9, 10, 11, 12, 13, 14, 15, 16, 17, 18, 19, 20, 21, 22, 23, 24] rfl rfl (q0 := 0) (ci := 3) rfl rfl) rfl rfl hl.1 rfl (lv_room (Nat.le_of_ble_eq_true rfl)) dX3_chosen_13 ⟨Nat.le_of_ble_eq_true rfl, Nat.le_of_ble_eq_true rfl⟩) hP hD hS hA [0, 1, 2, 3, 4, 5, 6, 7, 8, 9, 10, 11, 12, 13, 14, 15, 16, 17, 18, 19, 20, 21, 22, 23, 24] [] rfl rfl rfl (by decide) (fun H locs hP hD hS => ?_)
  have hP : va_P (dC, dI) vwCl (dk_X cI cII aX (aN 0) (aC 0) (aB 0) ch ep 0 ++ dk_N cI cII aN fr le fi ne fl (nI d) ar pr (nI z) sp ++ dk_C cI cII aC cf cp (nI k) ++ dk_SW cI cII aB (aN 0) (dk_bF ol d z le fi fl ar sp F) (dk_bL ol cf cp k fl li) (dk_bE ol ep en) (dk_bS ol d z fr le fi fl ar pr sp cf cp k ep F st)) H := hP
  have hD : va_D A (dk_X cI cII aX (aN 0) (aC 0) (aB 0) ch ep 0 ++ dk_N cI cII aN fr le fi ne fl (nI d) ar pr (nI z) sp ++ dk_C cI cII aC cf cp (nI k) ++ dk_SW cI cII aB (aN 0) (dk_bF ol d z le fi fl ar sp F) (dk_bL ol cf cp k fl li) (dk_bE ol ep en) (dk_bS ol d z fr le fi fl ar pr sp cf cp k ep F st)) := hD
  refine lv_astore_n (lv' := [(2, .ref (aB 0)), (0, .ref (aX 0)), (1, .int (nI j))]) hx hb dX3_chosen_16 rfl hl (by decide) rfl (fun ls hl => ?_)
  refine lv_aload_n hx hb dX3_chosen_17 rfl (lv_at hl 0 rfl) ?_
  refine va_get (D := (dC, dI)) (ci := 2) (v := .int ((dk_bS ol d z fr le fi fl ar pr sp cf cp k ep F st).2.2.2.2.1)) (C := RX2) (T := TX2) (N := 11) hx hb hT in_X2 hown hK hP 12 rfl rfl 8 (by decide) (hT _ mw_124) (fun _ h9 => h9) rfl dX3_chosen_18 ?_
  refine lv_if_eq (tgt := 33) hx hb dX3_chosen_21 (by decide) (fun c_21 => ?_) (fun c_21 => ?_)
  · refine lv_iconst (v := (-1)) hx hb dX3_chosen_33 (by decide) ?_
    refine W.widen (k := 1) (n := 6) (Nat.le_of_ble_eq_true rfl) (Nat.le_of_ble_eq_true rfl) ?_
    exact hret _ () _ _ _ _ ⟨(by unfold dk_kIn; rw [if_neg hd_9]), (by rw [if_pos c_21])⟩ hP hD hS dX3_chosen_34
  · refine lv_aload_n hx hb dX3_chosen_24 rfl (lv_at hl 0 rfl) ?_
    refine va_get (D := (dC, dI)) (ci := 2) (v := .ref (aB 4)) (C := RX2) (T := TX2) (N := 11) hx hb hT in_X2 hown hK hP 12 rfl rfl 6 (by decide) (hT _ mw_120) (fun _ h9 => h9) rfl dX3_chosen_25 ?_
    refine lv_iload_n hx hb dX3_chosen_28 rfl (lv_at hl 2 rfl) ?_
    refine dk_iald (q0 := 16) (t0 := 0) (i := j) hx hb hK hP rfl rfl rfl (by omega) (by decide) dX3_chosen_29 ?_
    refine lv_goto (tgt := 34) hx hb dX3_chosen_30 (by decide) ?_
    refine W.widen (k := 1) (n := 6) (Nat.le_of_ble_eq_true rfl) (Nat.le_of_ble_eq_true rfl) ?_
    exact hret _ () _ _ _ _ ⟨(by unfold dk_kIn; rw [if_neg hd_9]), (by rw [if_neg c_21])⟩ hP hD hS dX3_chosen_34
