set_option maxHeartbeats 4000000 in
set_option maxRecDepth 100000 in
/-- DuctSizes$Search.run -/
theorem c_X2_run (l : Launch) (dC : Nat → ClassId) (dI : Nat → Nat → Nat) (cI cII : ClassId) (aS : Nat → Nat) (F : Nat → Nat → Int32) (ts : Nat → Int32) (tp : Nat → Int32) (li : Int32) (en : Int32) (so : Nat → Int32) (pa : Nat → Int32) (fd : Int32) (co : Int32) (ps : Int32) (aN : Nat → Nat) (fr : Nat → Int32) (le : Nat → Int32) (fi : Nat → Int32) (ne : Nat → Int32) (fl : Nat → Int32) (ar : Nat → Int32) (pr : Nat → Int32) (sp : Int32) (d : Nat) (z : Nat) (x0 : Int32) (x1 : Int32) (hz : Nat) (hz1 : z ≤ 4) (hd1 : d ≤ 6) (hfr : ∀ k, k < 7 → vp_in (fr k) 7) (har : ∀ j, j < z → ¬ ar j = 0) (har2 : ∀ j, j < z → ¬ (ar j).toInt64 * (ar j).toInt64 = 0) : dk_Mv l yX2_run wsX2_run ({ frames := 14, cells := 0, slots := 0, locals := 353 }) (dC, dI) (dk_T cI cII) [.ref (aS 0), .int x0, .int x1] (dk_S cI cII aS (aN 0) F ts tp li en so pa fd co ps ++ dk_N cI cII aN fr le fi ne fl (nI d) ar pr (nI z) sp) hz (fun (_ : Unit) => True) (fun _ => dk_SW cI cII aS (aN 0) (dk_nr le fi fl ar sp z d 1 F) x0 x1 (dk_place d z fr le pr (dk_nr le fi fl ar sp z d 1 F) x0 x1 d 1 0 0 (ts, tp, so, pa, 0, co, ps)) ++ dk_N cI cII aN fr le fi ne fl (nI d) ar pr (nI z) sp) 0 0 := by
  refine dk_ofMv (cc := cX2_run) (maxL := 3) (by decide) rfl (Nat.le_of_ble_eq_true rfl) ?_
  intro p e s m args below meth c A ls Q ⟨hx, hb, hml, hts, hown, hnm⟩ hsz hK hP hD hA hS hl hret
  have hT : ∀ w ∈ dk_tbl, w.before args s = true := fun w h => hts w (List.mem_cons_of_mem _ h)
  have hown : s.vm.findClass RX2 = some m.cls := hown
  have hl : lv_has ls 3 [(0, .ref (aS 0)), (1, .int x0), (2, .int x1)] := hl
  refine lv_aload_n hx hb dX2_run_0 rfl (lv_at hl 0 rfl) ?_
  refine lv_iload_n hx hb dX2_run_1 rfl (lv_at hl 1 rfl) ?_
  refine va_put (D := (dC, dI)) (ci := 2) (v := .int x0) (ty := .int) (C := RX2) (T := TX2) (N := 11) hx hb hT in_X2 tyX2 tyX2_ok nmX2 hown hK hP hD hS 0 rfl rfl 4 (by decide) (hT _ mw_117) (fun _ h9 => h9) rfl (by decide +kernel) rfl rfl (Nat.le_of_ble_eq_true rfl) dX2_run_2 (fun H locs hP hD hS => ?_)
  have hP : va_P (dC, dI) vwCl (dk_S cI cII aS (aN 0) F ts tp x0 en so pa fd co ps ++ dk_N cI cII aN fr le fi ne fl (nI d) ar pr (nI z) sp) H := hP
  have hD : va_D A (dk_S cI cII aS (aN 0) F ts tp x0 en so pa fd co ps ++ dk_N cI cII aN fr le fi ne fl (nI d) ar pr (nI z) sp) := hD
  refine lv_aload_n hx hb dX2_run_5 rfl (lv_at hl 0 rfl) ?_
  refine lv_iload_n hx hb dX2_run_6 rfl (lv_at hl 2 rfl) ?_
  refine va_put (D := (dC, dI)) (ci := 2) (v := .int x1) (ty := .int) (C := RX2) (T := TX2) (N := 11) hx hb hT in_X2 tyX2 tyX2_ok nmX2 hown hK hP hD hS 0 rfl rfl 5 (by decide) (hT _ mw_118) (fun _ h9 => h9) rfl (by decide +kernel) rfl rfl (Nat.le_of_ble_eq_true rfl) dX2_run_7 (fun H locs hP hD hS => ?_)
  have hP : va_P (dC, dI) vwCl (dk_S cI cII aS (aN 0) F ts tp x0 x1 so pa fd co ps ++ dk_N cI cII aN fr le fi ne fl (nI d) ar pr (nI z) sp) H := hP
  have hD : va_D A (dk_S cI cII aS (aN 0) F ts tp x0 x1 so pa fd co ps ++ dk_N cI cII aN fr le fi ne fl (nI d) ar pr (nI z) sp) := hD
  refine lv_aload_n hx hb dX2_run_10 rfl (lv_at hl 0 rfl) ?_
  refine lv_iconst (v := 0) hx hb dX2_run_11 (by decide) ?_
  refine va_put (D := (dC, dI)) (ci := 2) (v := .int 0) (ty := .boolean) (C := RX2) (T := TX2) (N := 11) hx hb hT in_X2 tyX2 tyX2_ok nmX2 hown hK hP hD hS 0 rfl rfl 8 (by decide) (hT _ mw_123) (fun _ h9 => h9) rfl (by decide +kernel) rfl rfl (Nat.le_of_ble_eq_true rfl) dX2_run_12 (fun H locs hP hD hS => ?_)
  have hP : va_P (dC, dI) vwCl (dk_S cI cII aS (aN 0) F ts tp x0 x1 so pa 0 co ps ++ dk_N cI cII aN fr le fi ne fl (nI d) ar pr (nI z) sp) H := hP
  have hD : va_D A (dk_S cI cII aS (aN 0) F ts tp x0 x1 so pa 0 co ps ++ dk_N cI cII aN fr le fi ne fl (nI d) ar pr (nI z) sp) := hD
  refine lv_aload_n hx hb dX2_run_15 rfl (lv_at hl 0 rfl) ?_
  refine dk_callv (wr := []) (va_runV (As := []) (rest := []) ⟨hx, hb, hml, hown, hT⟩ (c_X2_noteFalls l dC dI cI cII aS F ts tp x0 x1 so pa 0 co ps aN fr le fi ne fl ar pr sp d z _ hz1 hd1 hfr har har2) (cwV 0 hT (dk_gV mw_196 mw_198 mw_2 mw_26 mw_199) rfl rfl rfl (by decide +kernel) ⟨(by first | exact Nat.le_of_ble_eq_true rfl | (dsimp only; omega)), (by first | exact Nat.le_of_ble_eq_true rfl | (dsimp only; omega))⟩) (dk_preV hK hP hD [0, 1, 2, 3, 4, 5, 6, 7, 8, 9, 10, 11, 12, 13, 14, 15, 16, 17, 18, 19, 20] rfl rfl (q0 := 0) (ci := 2) rfl rfl) rfl rfl hl.1 rfl (lv_room (Nat.le_of_ble_eq_true rfl)) dX2_run_16 ⟨Nat.le_of_ble_eq_true rfl, Nat.le_of_ble_eq_true rfl⟩) hP hD hS hA [0, 1, 2, 3, 4, 5, 6, 7, 8, 9, 10, 11, 12, 13, 14, 15, 16, 17, 18, 19, 20] [] rfl rfl rfl (by decide) (fun _ H locs h9 hP hD hS => ?_)
  have hP : va_P (dC, dI) vwCl (dk_S cI cII aS (aN 0) (dk_nr le fi fl ar sp z d 1 F) ts tp x0 x1 so pa 0 co ps ++ dk_N cI cII aN fr le fi ne fl (nI d) ar pr (nI z) sp) H := hP
  have hD : va_D A (dk_S cI cII aS (aN 0) (dk_nr le fi fl ar sp z d 1 F) ts tp x0 x1 so pa 0 co ps ++ dk_N cI cII aN fr le fi ne fl (nI d) ar pr (nI z) sp) := hD
  refine lv_aload_n hx hb dX2_run_19 rfl (lv_at hl 0 rfl) ?_
  refine lv_iconst (v := 1) hx hb dX2_run_20 (by decide) ?_
  refine lv_iconst (v := 0) hx hb dX2_run_21 (by decide) ?_
  refine lv_iconst (v := 0) hx hb dX2_run_22 (by decide) ?_
  refine dk_callv (wr := []) (va_runV (As := [.int 1, .int 0, .int 0]) (rest := []) ⟨hx, hb, hml, hown, hT⟩ (c_X2_placeFrom_all l dC dI cI cII aS (dk_nr le fi fl ar sp z d 1 F) x0 x1 aN fr le fi ne fl ar pr sp d z hz1 hd1 hfr d 1 (ts, tp, so, pa, 0, co, ps) 0 0 _ (by omega) (by omega)) (cwV 3 hT (dk_gV mw_218 mw_220 mw_3 mw_26 mw_221) rfl rfl rfl (by decide +kernel) ⟨(by first | exact Nat.le_of_ble_eq_true rfl | (dsimp only; omega)), (by first | exact Nat.le_of_ble_eq_true rfl | (dsimp only; omega))⟩) (dk_preV hK hP hD [0, 1, 2, 3, 4, 5, 6, 7, 8, 9, 10, 11, 12, 13, 14, 15, 16, 17, 18, 19, 20] rfl rfl (q0 := 0) (ci := 2) rfl rfl) rfl rfl hl.1 rfl (lv_room (Nat.le_of_ble_eq_true rfl)) dX2_run_23 ⟨Nat.le_of_ble_eq_true rfl, Nat.le_of_ble_eq_true rfl⟩) hP hD hS hA [0, 1, 2, 3, 4, 5, 6, 7, 8, 9, 10, 11, 12, 13, 14, 15, 16, 17, 18, 19, 20] [] rfl rfl rfl (by decide) (fun _ H locs h9 hP hD hS => ?_)
  have hP : va_P (dC, dI) vwCl (dk_SW cI cII aS (aN 0) (dk_nr le fi fl ar sp z d 1 F) x0 x1 (dk_place d z fr le pr (dk_nr le fi fl ar sp z d 1 F) x0 x1 d 1 0 0 (ts, tp, so, pa, 0, co, ps)) ++ dk_N cI cII aN fr le fi ne fl (nI d) ar pr (nI z) sp) H := hP
  have hD : va_D A (dk_SW cI cII aS (aN 0) (dk_nr le fi fl ar sp z d 1 F) x0 x1 (dk_place d z fr le pr (dk_nr le fi fl ar sp z d 1 F) x0 x1 d 1 0 0 (ts, tp, so, pa, 0, co, ps)) ++ dk_N cI cII aN fr le fi ne fl (nI d) ar pr (nI z) sp) := hD
  exact hret () _ _ _ _ trivial hP hD hS dX2_run_26
