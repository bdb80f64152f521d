set_option maxHeartbeats 4000000 in
set_option maxRecDepth 100000 in
/-- DuctSizesModel.gives -/
theorem c_X4_gives (l : Launch) (dC : Nat → ClassId) (dI : Nat → Nat → Nat) (cI cII : ClassId) (aR : Nat → Nat) (cd : Int32) (fr : Nat → Int32) (le : Nat → Int32) (fi : Nat → Int32) (ne : Nat → Int32) (ar : Nat → Int32) (pr : Nat → Int32) (sp : Int32) (ep : Int32) (cf : Nat → Int32) (cp : Nat → Int32) (ch : Nat → Int32) (la : Nat → Int64) (fd : Int32) (bc : Int64) (bp : Int64) (bh : Nat → Int32) (ba : Nat → Int64) (fs : Nat → Int64) (d : Nat) (z : Nat) (k : Nat) (frN : Nat → Nat) (leN : Nat → Nat) (fiN : Nat → Nat) (neN : Nat → Nat) (arN : Nat → Nat) (prN : Nat → Nat) (hz : Nat) (hd1 : d ≤ 6) (hz1 : z ≤ 4) (hO : rk_Ok d z fr le fi ne ar pr frN leN fiN neN arN prN) (hk1 : k ≤ 5) (hcv : ∀ i, 0 < i → i < k → ¬ cf i - cf (i - 1) = 0) : dk_Mi l yX4_gives wsX4_gives ({ frames := 1, cells := 0, slots := 0, locals := 24 }) (dC, dI) (dk_TR cI cII) [.ref (aR 0)] (dk_R cI cII aR cd (nI d) fr le fi ne (nI z) ar pr sp ep (nI k) cf cp ch la fd bc bp bh ba fs) hz (fun (r : Int32) (_ : Unit) => r = dk_gives cf cp k (nI (rk_tot neN d 1 0))) (fun _ => dk_R cI cII aR 0 (nI d) fr le fi ne (nI z) ar pr sp ep (nI k) cf cp ch la fd bc bp bh ba fs) 0 0 := by
  refine dk_ofMi (cc := cX4_gives) (maxL := 1) (by decide) rfl (Nat.le_of_ble_eq_true rfl) ?_
  intro p e s m args below meth c A ls Q ⟨hx, hb, hml, hts, hown, hnm⟩ hsz hK hP hD hA hS hl hret
  have hT : ∀ w ∈ dk_tbl, w.before args s = true := fun w h => hts w (List.mem_cons_of_mem _ h)
  have hown : s.vm.findClass RX4 = some m.cls := hown
  have hl : lv_has ls 1 [(0, .ref (aR 0))] := hl
  refine lv_aload_n hx hb dX4_gives_0 rfl (lv_at hl 0 rfl) ?_
  refine lv_iconst (v := 0) hx hb dX4_gives_1 (by decide) ?_
  refine va_put (D := (dC, dI)) (ci := 4) (v := .int 0) (ty := .int) (C := RX4) (T := TX4) (N := 22) hx hb hT in_X4 tyX4 tyX4_ok nmX4 hown hK hP hD hS 0 rfl rfl 0 (by decide) (hT _ mw_461) (fun _ h9 => h9) rfl (by decide +kernel) rfl rfl (Nat.le_of_ble_eq_true rfl) dX4_gives_2 (fun H locs hP hD hS => ?_)
  have hP : va_P (dC, dI) vwCl (dk_R cI cII aR 0 (nI d) fr le fi ne (nI z) ar pr sp ep (nI k) cf cp ch la fd bc bp bh ba fs) H := hP
  have hD : va_D A (dk_R cI cII aR 0 (nI d) fr le fi ne (nI z) ar pr sp ep (nI k) cf cp ch la fd bc bp bh ba fs) := hD
  refine lv_aload_n hx hb dX4_gives_5 rfl (lv_at hl 0 rfl) ?_
  refine dk_csi (va_runV (As := []) (rest := []) ⟨hx, hb, hml, hown, hT⟩ (c_X4_given l dC dI cI cII aR 0 fr le fi ne ar pr sp ep cf cp ch la fd bc bp bh ba fs d z k frN leN fiN neN arN prN hd1 hz1 hO hk1 hcv) (cwV 0 hT (dk_gV mw_570 mw_572 mw_12 mw_27 mw_573) rfl rfl rfl (by decide +kernel) ⟨(Nat.le_of_ble_eq_true rfl), (Nat.le_of_ble_eq_true rfl)⟩) (dk_preRV hK hP [0, 1, 2, 3, 4, 5, 6, 7, 8, 9, 10, 11, 12, 13] rfl (q0 := 0) (ci := 4) rfl rfl) rfl rfl hl.1 rfl (lv_room (Nat.le_of_ble_eq_true rfl)) dX4_gives_6 ⟨Nat.le_of_ble_eq_true rfl, Nat.le_of_ble_eq_true rfl⟩) (fun r9 h9 => ?_)
  subst h9
  exact hret _ () _ _ _ _ rfl hP hD hS dX4_gives_9
