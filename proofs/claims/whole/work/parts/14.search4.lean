set_option maxHeartbeats 4000000 in
set_option maxRecDepth 100000 in
/-- placeSize, over placeFrom behind it -/
theorem c_X2_placeSize (l : Launch) (dC : Nat → ClassId) (dI : Nat → Nat → Nat) (cI cII : ClassId) (aS : Nat → Nat) (F : Nat → Nat → Int32) (li : Int32) (en : Int32) (aN : Nat → Nat) (fr : Nat → Int32) (le : Nat → Int32) (fi : Nat → Int32) (ne : Nat → Int32) (fl : Nat → Int32) (ar : Nat → Int32) (pr : Nat → Int32) (sp : Int32) (d : Nat) (z : Nat) (st : dk_SS) (k : Nat) (i : Nat) (j : Nat) (x : Int32) (g : Int32) (hz : Nat) (hz1 : z ≤ 4) (hd1 : d ≤ 6) (hfr : ∀ k, k < 7 → vp_in (fr k) 7) (hi : i ≤ d) (hi1 : 0 < i) (hj : j < z) (hgo : ∀ (st : dk_SS) (x g : Int32) (hz : Nat), dk_Mv l yX2_placeFrom wsX2_placeFrom ({ frames := 2 * k + 1, cells := 0, slots := 0, locals := 51 * k + 23 }) (dC, dI) (dk_T cI cII) [.ref (aS 0), .int (nI (i + 1)), .int x, .int g] (dk_SW cI cII aS (aN 0) F li en st ++ dk_N cI cII aN fr le fi ne fl (nI d) ar pr (nI z) sp) hz (fun (_ : Unit) => True) (fun _ => dk_SW cI cII aS (aN 0) F li en (dk_place d z fr le pr F li en k (i + 1) x g st) ++ dk_N cI cII aN fr le fi ne fl (nI d) ar pr (nI z) sp) 0 0) : dk_Mv l yX2_placeSize wsX2_placeSize ({ frames := 2 * k + 2, cells := 0, slots := 0, locals := 51 * k + 47 }) (dC, dI) (dk_T cI cII) [.ref (aS 0), .int (nI i), .int (nI j), .int x, .int g] (dk_SW cI cII aS (aN 0) F li en st ++ dk_N cI cII aN fr le fi ne fl (nI d) ar pr (nI z) sp) hz (fun (_ : Unit) => True) (fun _ => dk_SW cI cII aS (aN 0) F li en (dk_step fr le pr F li en (dk_place d z fr le pr F li en k (i + 1)) i x g j st) ++ dk_N cI cII aN fr le fi ne fl (nI d) ar pr (nI z) sp) 0 0 := by
  refine dk_ofMv (cc := cX2_placeSize) (maxL := 8) (by decide) rfl (Nat.le_of_ble_eq_true rfl) ?_
  intro p e s m args below meth c A ls Q ⟨hx, hb, hml, hts, hown, hnm⟩ hsz hK hP hD hA hS hl hret
  have hT : ∀ w ∈ dk_tbl, w.before args s = true := fun w h => hts w (List.mem_cons_of_mem _ h)
  have hown : s.vm.findClass RX2 = some m.cls := hown
  have hl : lv_has ls 8 [(0, .ref (aS 0)), (1, .int (nI i)), (2, .int (nI j)), (3, .int x), (4, .int g)] := hl
  refine lv_aload_n hx hb dX2_placeSize_0 rfl (lv_at hl 0 rfl) ?_
  refine va_get (D := (dC, dI)) (ci := 2) (v := .ref (aS 3)) (C := RX2) (T := TX2) (N := 11) hx hb hT in_X2 hown hK hP 0 rfl rfl 3 (by decide) (hT _ mw_116) (fun _ h9 => h9) rfl dX2_placeSize_1 ?_
  refine lv_aload_n hx hb dX2_placeSize_4 rfl (lv_at hl 0 rfl) ?_
  refine va_get (D := (dC, dI)) (ci := 2) (v := .ref (aN 0)) (C := RX2) (T := TX2) (N := 11) hx hb hT in_X2 hown hK hP 0 rfl rfl 0 (by decide) (hT _ mw_113) (fun _ h9 => h9) rfl dX2_placeSize_5 ?_
  refine va_get (D := (dC, dI)) (ci := 1) (v := .ref (aN 1)) (C := RX1) (T := TX1) (N := 10) hx hb hT in_X1 hown hK hP 13 rfl rfl 0 (by decide) (hT _ mw_50) (fun _ h9 => h9) rfl dX2_placeSize_8 ?_
  refine lv_iload_n hx hb dX2_placeSize_11 rfl (lv_at hl 1 rfl) ?_
  refine dk_iald (q0 := 14) (t0 := 0) (i := i) hx hb hK hP rfl rfl rfl (by omega) (by decide) dX2_placeSize_12 ?_
  refine va_iald hx hb hK hP 3 0 rfl rfl (hfr i (by omega)) dX2_placeSize_13 ?_
  refine lv_aload_n hx hb dX2_placeSize_14 rfl (lv_at hl 0 rfl) ?_
  refine va_get (D := (dC, dI)) (ci := 2) (v := .ref (aS 1)) (C := RX2) (T := TX2) (N := 11) hx hb hT in_X2 hown hK hP 0 rfl rfl 1 (by decide) (hT _ mw_114) (fun _ h9 => h9) rfl dX2_placeSize_15 ?_
  refine lv_iload_n hx hb dX2_placeSize_18 rfl (lv_at hl 1 rfl) ?_
  refine dk_aald (q0 := 1) (t0 := 1) (i := i) (r := aS (i + 6)) hx hb hK hP rfl rfl rfl (by omega) (by decide) (if_pos (by omega)) dX2_placeSize_19 ?_
  refine lv_iload_n hx hb dX2_placeSize_20 rfl (lv_at hl 2 rfl) ?_
  refine dk_iald (q0 := 6 + i) (t0 := 0) (i := j) hx hb hK hP (dk_rowA (by omega)) rfl rfl (by omega) (by decide) dX2_placeSize_21 ?_
  refine lv_iadd hx hb dX2_placeSize_22 ?_
  refine lv_istore (lv' := [(5, .int ((st.2.1 ((fr i)).toNatClampNeg) + (F i j))), (0, .ref (aS 0)), (1, .int (nI i)), (2, .int (nI j)), (3, .int x), (4, .int g)]) hx hb dX2_placeSize_23 hl (by decide) rfl (fun ls hl => ?_)
  refine lv_iload hx hb dX2_placeSize_25 (lv_at hl 5 rfl) ?_
  refine lv_iload hx hb dX2_placeSize_27 (lv_at hl 0 rfl) ?_
  refine va_mmax hx hb (by rw [hml]; exact hl.1.symm) hown (hT _ mw_230) (hT _ mw_231) (hT _ mw_33) (hT _ mw_232) (by dsimp only; omega) (by simp [Value.category] <;> omega) (by dsimp only; omega) (by dsimp only; omega) dX2_placeSize_29 ?_
  refine lv_istore (lv' := [(6, .int (if g < ((st.2.1 ((fr i)).toNatClampNeg) + (F i j)) then ((st.2.1 ((fr i)).toNatClampNeg) + (F i j)) else g)), (5, .int ((st.2.1 ((fr i)).toNatClampNeg) + (F i j))), (0, .ref (aS 0)), (1, .int (nI i)), (2, .int (nI j)), (3, .int x), (4, .int g)]) hx hb dX2_placeSize_32 hl (by decide) rfl (fun ls hl => ?_)
  refine lv_iload_n hx hb dX2_placeSize_34 rfl (lv_at hl 5 rfl) ?_
  refine lv_aload_n hx hb dX2_placeSize_35 rfl (lv_at hl 2 rfl) ?_
  refine va_get (D := (dC, dI)) (ci := 2) (v := .ref (aN 0)) (C := RX2) (T := TX2) (N := 11) hx hb hT in_X2 hown hK hP 0 rfl rfl 0 (by decide) (hT _ mw_113) (fun _ h9 => h9) rfl dX2_placeSize_36 ?_
  refine lv_iload_n hx hb dX2_placeSize_39 rfl (lv_at hl 3 rfl) ?_
  refine lv_iload_n hx hb dX2_placeSize_40 rfl (lv_at hl 4 rfl) ?_
  refine dk_csi (va_runV (As := [.int (nI i), .int (nI j)]) (rest := [.int x]) ⟨hx, hb, hml, hown, hT⟩ (c_X1_priceOf l dC dI cI cII aN fr le fi ne fl (nI d) ar pr (nI z) sp i j (by omega) (by omega)) (cwV 2 hT (dk_gV mw_233 mw_234 mw_235 mw_24 mw_236) rfl rfl rfl (by decide +kernel) ⟨(by dsimp only; omega), (by dsimp only; omega)⟩) (dk_preRV hK hP [13, 14, 15, 16, 17, 18, 19, 20] rfl (q0 := 13) (ci := 1) rfl rfl) rfl rfl hl.1 rfl (lv_room (Nat.le_of_ble_eq_true rfl)) dX2_placeSize_41 ⟨Nat.le_of_ble_eq_true rfl, Nat.le_of_ble_eq_true rfl⟩) (fun r9 h9 => ?_)
  subst h9
  refine lv_iadd hx hb dX2_placeSize_44 ?_
  refine lv_istore (lv' := [(7, .int (x + (dk_price le pr i j))), (6, .int (if g < ((st.2.1 ((fr i)).toNatClampNeg) + (F i j)) then ((st.2.1 ((fr i)).toNatClampNeg) + (F i j)) else g)), (5, .int ((st.2.1 ((fr i)).toNatClampNeg) + (F i j))), (0, .ref (aS 0)), (1, .int (nI i)), (2, .int (nI j)), (3, .int x), (4, .int g)]) hx hb dX2_placeSize_45 hl (by decide) rfl (fun ls hl => ?_)
  refine lv_iload hx hb dX2_placeSize_47 (lv_at hl 1 rfl) ?_
  refine lv_aload_n hx hb dX2_placeSize_49 rfl (lv_at hl 3 rfl) ?_
  refine va_get (D := (dC, dI)) (ci := 2) (v := .int li) (C := RX2) (T := TX2) (N := 11) hx hb hT in_X2 hown hK hP 0 rfl rfl 4 (by decide) (hT _ mw_117) (fun _ h9 => h9) rfl dX2_placeSize_50 ?_
  refine lv_icmp_gt (tgt := 67) hx hb dX2_placeSize_53 (by decide) (fun c_53 => ?_) (fun c_53 => ?_)
  · have hst : dk_step fr le pr F li en (dk_place d z fr le pr F li en k (i + 1)) i x g j st = _ := (by unfold dk_step; rw [if_pos c_53])
    rw [hst] at hret
    exact hret () _ _ _ _ trivial hP hD hS dX2_placeSize_67
  · refine lv_aload_n hx hb dX2_placeSize_56 rfl (lv_at hl 3 rfl) ?_
    refine lv_iload hx hb dX2_placeSize_57 (lv_at hl 0 rfl) ?_
    refine lv_iload hx hb dX2_placeSize_59 (lv_at hl 1 rfl) ?_
    refine dk_csi (va_runV (As := [.int (x + (dk_price le pr i j)), .int (if g < ((st.2.1 ((fr i)).toNatClampNeg) + (F i j)) then ((st.2.1 ((fr i)).toNatClampNeg) + (F i j)) else g)]) (rest := []) ⟨hx, hb, hml, hown, hT⟩ (c_X2_isBetter l dC dI cI cII aS (aN 0) F (st.1) (st.2.1) li en (st.2.2.1) (st.2.2.2.1) (st.2.2.2.2.1) (st.2.2.2.2.2.1) (st.2.2.2.2.2.2) (x + (dk_price le pr i j)) (if g < ((st.2.1 ((fr i)).toNatClampNeg) + (F i j)) then ((st.2.1 ((fr i)).toNatClampNeg) + (F i j)) else g)) (cwV 2 hT (dk_gV mw_237 mw_239 mw_6 mw_26 mw_240) rfl rfl rfl (by decide +kernel) ⟨(by dsimp only; omega), (by dsimp only; omega)⟩) (dk_preRV hK hP [0, 1, 2, 3, 4, 5, 6, 7, 8, 9, 10, 11, 12] rfl (q0 := 0) (ci := 2) rfl rfl) rfl rfl hl.1 rfl (lv_room (Nat.le_of_ble_eq_true rfl)) dX2_placeSize_61 ⟨Nat.le_of_ble_eq_true rfl, Nat.le_of_ble_eq_true rfl⟩) (fun r9 h9 => ?_)
    subst h9
    refine lv_if_ne (tgt := 68) hx hb dX2_placeSize_64 (by decide) (fun c_64 => ?_) (fun c_64 => ?_)
    · refine lv_aload_n hx hb dX2_placeSize_68 rfl (lv_at hl 3 rfl) ?_
      refine va_get (D := (dC, dI)) (ci := 2) (v := .ref (aS 2)) (C := RX2) (T := TX2) (N := 11) hx hb hT in_X2 hown hK hP 0 rfl rfl 2 (by decide) (hT _ mw_115) (fun _ h9 => h9) rfl dX2_placeSize_69 ?_
      refine lv_iload_n hx hb dX2_placeSize_72 rfl (lv_at hl 4 rfl) ?_
      refine lv_iload_n hx hb dX2_placeSize_73 rfl (lv_at hl 5 rfl) ?_
      refine dk_iast (q0 := 2) (t0 := 0) (i := i) hx hb hK hP hD hS rfl rfl rfl (by omega) (by decide) dX2_placeSize_74 (fun H locs hP hD hS => ?_)
      have hP : va_P (dC, dI) vwCl (dk_S cI cII aS (aN 0) F (upd (st.1) i (nI j)) (st.2.1) li en (st.2.2.1) (st.2.2.2.1) (st.2.2.2.2.1) (st.2.2.2.2.2.1) (st.2.2.2.2.2.2) ++ dk_N cI cII aN fr le fi ne fl (nI d) ar pr (nI z) sp) H := hP
      have hD : va_D A (dk_S cI cII aS (aN 0) F (upd (st.1) i (nI j)) (st.2.1) li en (st.2.2.1) (st.2.2.2.1) (st.2.2.2.2.1) (st.2.2.2.2.2.1) (st.2.2.2.2.2.2) ++ dk_N cI cII aN fr le fi ne fl (nI d) ar pr (nI z) sp) := hD
      refine lv_aload_n hx hb dX2_placeSize_75 rfl (lv_at hl 3 rfl) ?_
      refine va_get (D := (dC, dI)) (ci := 2) (v := .ref (aS 3)) (C := RX2) (T := TX2) (N := 11) hx hb hT in_X2 hown hK hP 0 rfl rfl 3 (by decide) (hT _ mw_116) (fun _ h9 => h9) rfl dX2_placeSize_76 ?_
      refine lv_iload_n hx hb dX2_placeSize_79 rfl (lv_at hl 4 rfl) ?_
      refine lv_iload hx hb dX2_placeSize_80 (lv_at hl 2 rfl) ?_
      refine dk_iast (q0 := 3) (t0 := 0) (i := i) hx hb hK hP hD hS rfl rfl rfl (by omega) (by decide) dX2_placeSize_82 (fun H locs hP hD hS => ?_)
      have hP : va_P (dC, dI) vwCl (dk_S cI cII aS (aN 0) F (upd (st.1) i (nI j)) (upd (st.2.1) i ((st.2.1 ((fr i)).toNatClampNeg) + (F i j))) li en (st.2.2.1) (st.2.2.2.1) (st.2.2.2.2.1) (st.2.2.2.2.2.1) (st.2.2.2.2.2.2) ++ dk_N cI cII aN fr le fi ne fl (nI d) ar pr (nI z) sp) H := hP
      have hD : va_D A (dk_S cI cII aS (aN 0) F (upd (st.1) i (nI j)) (upd (st.2.1) i ((st.2.1 ((fr i)).toNatClampNeg) + (F i j))) li en (st.2.2.1) (st.2.2.2.1) (st.2.2.2.2.1) (st.2.2.2.2.2.1) (st.2.2.2.2.2.2) ++ dk_N cI cII aN fr le fi ne fl (nI d) ar pr (nI z) sp) := hD
      refine lv_aload_n hx hb dX2_placeSize_83 rfl (lv_at hl 3 rfl) ?_
      refine lv_iload_n hx hb dX2_placeSize_84 rfl (lv_at hl 4 rfl) ?_
      refine lv_iconst (v := 1) hx hb dX2_placeSize_85 (by decide) ?_
      refine lv_iadd hx hb dX2_placeSize_86 ?_
      refine lv_topi (fun y9 e9 => ?_)
      obtain rfl : y9 = nI (i + 1) := by rw [e9]; exact nI_1 i
      refine lv_iload hx hb dX2_placeSize_87 (lv_at hl 0 rfl) ?_
      refine lv_iload hx hb dX2_placeSize_89 (lv_at hl 1 rfl) ?_
      refine dk_callv (wr := []) (va_runV (As := [.int (nI (i + 1)), .int (x + (dk_price le pr i j)), .int (if g < ((st.2.1 ((fr i)).toNatClampNeg) + (F i j)) then ((st.2.1 ((fr i)).toNatClampNeg) + (F i j)) else g)]) (rest := []) ⟨hx, hb, hml, hown, hT⟩ (hgo ((upd (st.1) i (nI j)), (upd (st.2.1) i ((st.2.1 ((fr i)).toNatClampNeg) + (F i j))), st.2.2.1, st.2.2.2.1, st.2.2.2.2.1, st.2.2.2.2.2.1, st.2.2.2.2.2.2) (x + (dk_price le pr i j)) (if g < ((st.2.1 ((fr i)).toNatClampNeg) + (F i j)) then ((st.2.1 ((fr i)).toNatClampNeg) + (F i j)) else g) _) (cwV 3 hT (dk_gV mw_218 mw_220 mw_3 mw_26 mw_221) rfl rfl rfl (by decide +kernel) ⟨(by dsimp only; omega), (by dsimp only; omega)⟩) (dk_preV hK hP hD [0, 1, 2, 3, 4, 5, 6, 7, 8, 9, 10, 11, 12, 13, 14, 15, 16, 17, 18, 19, 20] rfl rfl (q0 := 0) (ci := 2) rfl rfl) rfl rfl hl.1 rfl (lv_room (Nat.le_of_ble_eq_true rfl)) dX2_placeSize_91 ⟨Nat.le_of_ble_eq_true rfl, Nat.le_of_ble_eq_true rfl⟩) hP hD hS hA [0, 1, 2, 3, 4, 5, 6, 7, 8, 9, 10, 11, 12, 13, 14, 15, 16, 17, 18, 19, 20] [] rfl rfl rfl (by decide) (fun _ H locs h9 hP hD hS => ?_)
      have hP : va_P (dC, dI) vwCl (dk_SW cI cII aS (aN 0) F li en (dk_place d z fr le pr F li en k (i + 1) (x + (dk_price le pr i j)) (if g < ((st.2.1 ((fr i)).toNatClampNeg) + (F i j)) then ((st.2.1 ((fr i)).toNatClampNeg) + (F i j)) else g) ((upd (st.1) i (nI j)), (upd (st.2.1) i ((st.2.1 ((fr i)).toNatClampNeg) + (F i j))), st.2.2.1, st.2.2.2.1, st.2.2.2.2.1, st.2.2.2.2.2.1, st.2.2.2.2.2.2)) ++ dk_N cI cII aN fr le fi ne fl (nI d) ar pr (nI z) sp) H := hP
      have hD : va_D A (dk_SW cI cII aS (aN 0) F li en (dk_place d z fr le pr F li en k (i + 1) (x + (dk_price le pr i j)) (if g < ((st.2.1 ((fr i)).toNatClampNeg) + (F i j)) then ((st.2.1 ((fr i)).toNatClampNeg) + (F i j)) else g) ((upd (st.1) i (nI j)), (upd (st.2.1) i ((st.2.1 ((fr i)).toNatClampNeg) + (F i j))), st.2.2.1, st.2.2.2.1, st.2.2.2.2.1, st.2.2.2.2.2.1, st.2.2.2.2.2.2)) ++ dk_N cI cII aN fr le fi ne fl (nI d) ar pr (nI z) sp) := hD
      have hst : dk_step fr le pr F li en (dk_place d z fr le pr F li en k (i + 1)) i x g j st = _ := (by unfold dk_step; rw [if_neg c_53, if_neg c_64])
      rw [hst] at hret
      exact hret () _ _ _ _ trivial hP hD hS dX2_placeSize_94
    · have hst : dk_step fr le pr F li en (dk_place d z fr le pr F li en k (i + 1)) i x g j st = _ := (by unfold dk_step; rw [if_neg c_53, if_pos c_64])
      rw [hst] at hret
      exact hret () _ _ _ _ trivial hP hD hS dX2_placeSize_67
