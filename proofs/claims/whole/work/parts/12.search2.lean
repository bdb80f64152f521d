set_option maxHeartbeats 4000000 in
set_option maxRecDepth 100000 in
/-- DuctSizes$Search.noteFalls -/
theorem c_X2_noteFalls (l : Launch) (dC : Nat → ClassId) (dI : Nat → Nat → Nat) (cI cII : ClassId) (aS : Nat → Nat) (F : Nat → Nat → Int32) (ts : Nat → Int32) (tp : Nat → Int32) (li : Int32) (en : Int32) (so : Nat → Int32) (pa : Nat → Int32) (fd : Int32) (co : Int32) (ps : Int32) (aN : Nat → Nat) (fr : Nat → Int32) (le : Nat → Int32) (fi : Nat → Int32) (ne : Nat → Int32) (fl : Nat → Int32) (ar : Nat → Int32) (pr : Nat → Int32) (sp : Int32) (d : Nat) (z : Nat) (hz : Nat) (hz1 : z ≤ 4) (hd1 : d ≤ 6) (hfr : ∀ k, k < 7 → vp_in (fr k) 7) (har : ∀ j, j < z → ¬ ar j = 0) (har2 : ∀ j, j < z → ¬ (ar j).toInt64 * (ar j).toInt64 = 0) : dk_Mv l yX2_noteFalls wsX2_noteFalls ({ frames := 2, cells := 0, slots := 0, locals := 45 }) (dC, dI) (dk_T cI cII) [.ref (aS 0)] (dk_S cI cII aS (aN 0) F ts tp li en so pa fd co ps ++ dk_N cI cII aN fr le fi ne fl (nI d) ar pr (nI z) sp) hz (fun (_ : Unit) => True) (fun _ => dk_S cI cII aS (aN 0) (dk_nr le fi fl ar sp z d 1 F) ts tp li en so pa fd co ps ++ dk_N cI cII aN fr le fi ne fl (nI d) ar pr (nI z) sp) 0 0 := by
  refine dk_ofMv (cc := cX2_noteFalls) (maxL := 3) (by decide) rfl (Nat.le_of_ble_eq_true rfl) ?_
  intro p e s m args below meth c A ls Q ⟨hx, hb, hml, hts, hown, hnm⟩ hsz hK hP hD hA hS hl hret
  have hT : ∀ w ∈ dk_tbl, w.before args s = true := fun w h => hts w (List.mem_cons_of_mem _ h)
  have hown : s.vm.findClass RX2 = some m.cls := hown
  have hl : lv_has ls 3 [(0, .ref (aS 0))] := hl
  refine lv_iconst (v := 1) hx hb dX2_noteFalls_0 (by decide) ?_
  refine lv_istore_n (lv' := [(1, .int 1), (0, .ref (aS 0))]) hx hb dX2_noteFalls_1 rfl hl (by decide) rfl (fun ls hl => ?_)
  have lp2 : ∀ (n i : Nat) (G : Nat → Nat → Int32) (H : Heap) (locs : List Loc) (ls : Array Slot), i + n = d + 1 → dk_nr le fi fl ar sp z n i G = (dk_nr le fi fl ar sp z d 1 F) → va_P (dC, dI) vwCl (dk_S cI cII aS (aN 0) G ts tp li en so pa fd co ps ++ dk_N cI cII aN fr le fi ne fl (nI d) ar pr (nI z) sp) H → va_D A (dk_S cI cII aS (aN 0) G ts tp li en so pa fd co ps ++ dk_N cI cII aN fr le fi ne fl (nI d) ar pr (nI z) sp) → va_S A s.heap H locs → lv_has ls 3 [(1, .int (nI i)), (0, .ref (aS 0))] → W p l e ({ frames := 2, cells := 0, slots := 0, locals := 45 }) s m args below meth c H locs 0 0 Q (F0 m 2 ls []) := by
    intro n
    induction n with
    | zero =>
      intro i G H locs ls hin2 hf2_0 hP hD hS hl
      have hf2_0 : G = (dk_nr le fi fl ar sp z d 1 F) := hf2_0
      subst hf2_0
      refine lv_iload_n hx hb dX2_noteFalls_2 rfl (lv_at hl 0 rfl) ?_
      refine lv_aload_n hx hb dX2_noteFalls_3 rfl (lv_at hl 1 rfl) ?_
      refine va_get (D := (dC, dI)) (ci := 2) (v := .ref (aN 0)) (C := RX2) (T := TX2) (N := 11) hx hb hT in_X2 hown hK hP 0 rfl rfl 0 (by decide) (hT _ mw_113) (fun _ h9 => h9) rfl dX2_noteFalls_4 ?_
      refine va_get (D := (dC, dI)) (ci := 1) (v := .int (nI d)) (C := RX1) (T := TX1) (N := 10) hx hb hT in_X1 hown hK hP 13 rfl rfl 5 (by decide) (hT _ mw_59) (fun _ h9 => h9) rfl dX2_noteFalls_7 ?_
      refine lv_icmp_gt (tgt := 71) hx hb dX2_noteFalls_10 (by decide) (fun c_10 => ?_) (fun c_10 => ?_)
      · exact hret () _ _ _ _ trivial hP hD hS dX2_noteFalls_71
      · exact absurd (nI_lt (by omega) (by omega)) c_10
    | succ n ih2 =>
      intro i G H locs ls hin2 hf2_0 hP hD hS hl
      refine lv_iload_n hx hb dX2_noteFalls_2 rfl (lv_at hl 0 rfl) ?_
      refine lv_aload_n hx hb dX2_noteFalls_3 rfl (lv_at hl 1 rfl) ?_
      refine va_get (D := (dC, dI)) (ci := 2) (v := .ref (aN 0)) (C := RX2) (T := TX2) (N := 11) hx hb hT in_X2 hown hK hP 0 rfl rfl 0 (by decide) (hT _ mw_113) (fun _ h9 => h9) rfl dX2_noteFalls_4 ?_
      refine va_get (D := (dC, dI)) (ci := 1) (v := .int (nI d)) (C := RX1) (T := TX1) (N := 10) hx hb hT in_X1 hown hK hP 13 rfl rfl 5 (by decide) (hT _ mw_59) (fun _ h9 => h9) rfl dX2_noteFalls_7 ?_
      refine lv_icmp_gt (tgt := 71) hx hb dX2_noteFalls_10 (by decide) (fun c_10 => ?_) (fun c_10 => ?_)
      · exact absurd c_10 (nI_nlt (by omega) (by omega))
      · refine lv_iconst (v := 0) hx hb dX2_noteFalls_13 (by decide) ?_
        refine lv_istore_n (lv' := [(2, .int 0), (1, .int (nI i)), (0, .ref (aS 0))]) hx hb dX2_noteFalls_14 rfl hl (by decide) rfl (fun ls hl => ?_)
        have lp15 : ∀ (n2 j : Nat) (G2 : Nat → Nat → Int32) (H : Heap) (locs : List Loc) (ls : Array Slot), j + n2 = z → dk_nc le fi fl ar sp i n2 j G2 = (dk_nc le fi fl ar sp i z 0 G) → va_P (dC, dI) vwCl (dk_S cI cII aS (aN 0) G2 ts tp li en so pa fd co ps ++ dk_N cI cII aN fr le fi ne fl (nI d) ar pr (nI z) sp) H → va_D A (dk_S cI cII aS (aN 0) G2 ts tp li en so pa fd co ps ++ dk_N cI cII aN fr le fi ne fl (nI d) ar pr (nI z) sp) → va_S A s.heap H locs → lv_has ls 3 [(2, .int (nI j)), (1, .int (nI i)), (0, .ref (aS 0))] → W p l e ({ frames := 2, cells := 0, slots := 0, locals := 45 }) s m args below meth c H locs 0 0 Q (F0 m 15 ls []) := by
          intro n2
          induction n2 with
          | zero =>
            intro j G2 H locs ls hin15 hf15_0 hP hD hS hl
            have hf15_0 : G2 = (dk_nc le fi fl ar sp i z 0 G) := hf15_0
            subst hf15_0
            refine lv_iload_n hx hb dX2_noteFalls_15 rfl (lv_at hl 0 rfl) ?_
            refine lv_aload_n hx hb dX2_noteFalls_16 rfl (lv_at hl 2 rfl) ?_
            refine va_get (D := (dC, dI)) (ci := 2) (v := .ref (aN 0)) (C := RX2) (T := TX2) (N := 11) hx hb hT in_X2 hown hK hP 0 rfl rfl 0 (by decide) (hT _ mw_113) (fun _ h9 => h9) rfl dX2_noteFalls_17 ?_
            refine va_get (D := (dC, dI)) (ci := 1) (v := .int (nI z)) (C := RX1) (T := TX1) (N := 10) hx hb hT in_X1 hown hK hP 13 rfl rfl 8 (by decide) (hT _ mw_64) (fun _ h9 => h9) rfl dX2_noteFalls_20 ?_
            refine lv_icmp_ge (tgt := 65) hx hb dX2_noteFalls_23 (by decide) (fun c_23 => ?_) (fun c_23 => ?_)
            · refine lv_iinc (v := (nI (i + 1))) (lv' := [(1, .int (nI (i + 1))), (2, .int (nI j)), (0, .ref (aS 0))]) hx hb dX2_noteFalls_65 hl (k := 1) rfl (nI_1 i) (by decide) rfl (fun ls hl => ?_)
              refine lv_goto (tgt := 2) hx hb dX2_noteFalls_68 (by decide) ?_
              exact ih2 (i + 1) (dk_nc le fi fl ar sp i z 0 G) _ _ _ (by omega) (by rw [← hf2_0]; rfl) hP hD hS (lv_sub hl [0, 2] rfl)
            · exact absurd (nI_le (by omega) (by omega)) c_23
          | succ n2 ih15 =>
            intro j G2 H locs ls hin15 hf15_0 hP hD hS hl
            refine lv_iload_n hx hb dX2_noteFalls_15 rfl (lv_at hl 0 rfl) ?_
            refine lv_aload_n hx hb dX2_noteFalls_16 rfl (lv_at hl 2 rfl) ?_
            refine va_get (D := (dC, dI)) (ci := 2) (v := .ref (aN 0)) (C := RX2) (T := TX2) (N := 11) hx hb hT in_X2 hown hK hP 0 rfl rfl 0 (by decide) (hT _ mw_113) (fun _ h9 => h9) rfl dX2_noteFalls_17 ?_
            refine va_get (D := (dC, dI)) (ci := 1) (v := .int (nI z)) (C := RX1) (T := TX1) (N := 10) hx hb hT in_X1 hown hK hP 13 rfl rfl 8 (by decide) (hT _ mw_64) (fun _ h9 => h9) rfl dX2_noteFalls_20 ?_
            refine lv_icmp_ge (tgt := 65) hx hb dX2_noteFalls_23 (by decide) (fun c_23 => ?_) (fun c_23 => ?_)
            · exact absurd c_23 (nI_ge (by omega) (by omega))
            · refine lv_aload_n hx hb dX2_noteFalls_26 rfl (lv_at hl 2 rfl) ?_
              refine va_get (D := (dC, dI)) (ci := 2) (v := .ref (aS 1)) (C := RX2) (T := TX2) (N := 11) hx hb hT in_X2 hown hK hP 0 rfl rfl 1 (by decide) (hT _ mw_114) (fun _ h9 => h9) rfl dX2_noteFalls_27 ?_
              refine lv_iload_n hx hb dX2_noteFalls_30 rfl (lv_at hl 1 rfl) ?_
              refine dk_aald (q0 := 1) (t0 := 1) (i := i) (r := aS (i + 6)) hx hb hK hP rfl rfl rfl (by omega) (by decide) (if_pos (by omega)) dX2_noteFalls_31 ?_
              refine lv_iload_n hx hb dX2_noteFalls_32 rfl (lv_at hl 0 rfl) ?_
              refine lv_aload_n hx hb dX2_noteFalls_33 rfl (lv_at hl 2 rfl) ?_
              refine va_get (D := (dC, dI)) (ci := 2) (v := .ref (aN 0)) (C := RX2) (T := TX2) (N := 11) hx hb hT in_X2 hown hK hP 0 rfl rfl 0 (by decide) (hT _ mw_113) (fun _ h9 => h9) rfl dX2_noteFalls_34 ?_
              refine lv_iload_n hx hb dX2_noteFalls_37 rfl (lv_at hl 1 rfl) ?_
              refine lv_iload_n hx hb dX2_noteFalls_38 rfl (lv_at hl 0 rfl) ?_
              refine dk_csi (va_runV (As := [.int (nI i), .int (nI j)]) (rest := [.int (nI j), .ref (aS (i + 6))]) ⟨hx, hb, hml, hown, hT⟩ (c_X1_allows l dC dI cI cII aN fr le fi ne fl (nI d) ar pr (nI z) sp i j (by omega) (by omega) (har j (by omega))) (cwV 2 hT (dk_gV mw_200 mw_201 mw_202 mw_24 mw_203) rfl rfl rfl (by decide +kernel) ⟨(Nat.le_of_ble_eq_true rfl), (Nat.le_of_ble_eq_true rfl)⟩) (dk_preRV hK hP [13, 14, 15, 16, 17, 18, 19, 20] rfl (q0 := 13) (ci := 1) rfl rfl) rfl rfl hl.1 rfl (lv_room (Nat.le_of_ble_eq_true rfl)) dX2_noteFalls_39 ⟨Nat.le_of_ble_eq_true rfl, Nat.le_of_ble_eq_true rfl⟩) (fun r9 h9 => ?_)
              subst h9
              refine lv_if_eq (tgt := 57) hx hb dX2_noteFalls_42 (by decide) (fun c_42 => ?_) (fun c_42 => ?_)
              · refine lv_iconst (v := (-1)) hx hb dX2_noteFalls_57 (by decide) ?_
                refine dk_iast (q0 := 6 + i) (t0 := 0) (i := j) hx hb hK hP hD hS (dk_rowA (by omega)) rfl rfl (by omega) (by decide) dX2_noteFalls_58 (fun H locs hP hD hS => ?_)
                rw [dk_rowSetA (by omega)] at hP hD
                have hP : va_P (dC, dI) vwCl (dk_S cI cII aS (aN 0) (dk_updF G2 i j (-1)) ts tp li en so pa fd co ps ++ dk_N cI cII aN fr le fi ne fl (nI d) ar pr (nI z) sp) H := hP
                have hD : va_D A (dk_S cI cII aS (aN 0) (dk_updF G2 i j (-1)) ts tp li en so pa fd co ps ++ dk_N cI cII aN fr le fi ne fl (nI d) ar pr (nI z) sp) := hD
                refine lv_iinc (v := (nI (j + 1))) (lv' := [(2, .int (nI (j + 1))), (1, .int (nI i)), (0, .ref (aS 0))]) hx hb dX2_noteFalls_59 hl (k := 0) rfl (nI_1 j) (by decide) rfl (fun ls hl => ?_)
                refine lv_goto (tgt := 15) hx hb dX2_noteFalls_62 (by decide) ?_
                exact ih15 (j + 1) (dk_updF G2 i j (-1)) _ _ _ (by omega) (by rw [← hf15_0]; show _ = dk_nc le fi fl ar sp i n2 (j + 1) (dk_updF G2 i j (dk_fallAt le fi fl ar sp i j)); unfold dk_fallAt; rw [if_pos c_42]) hP hD hS (lv_sub hl [0, 1, 2] rfl)
              · refine lv_aload_n hx hb dX2_noteFalls_45 rfl (lv_at hl 2 rfl) ?_
                refine va_get (D := (dC, dI)) (ci := 2) (v := .ref (aN 0)) (C := RX2) (T := TX2) (N := 11) hx hb hT in_X2 hown hK hP 0 rfl rfl 0 (by decide) (hT _ mw_113) (fun _ h9 => h9) rfl dX2_noteFalls_46 ?_
                refine lv_iload_n hx hb dX2_noteFalls_49 rfl (lv_at hl 1 rfl) ?_
                refine lv_iload_n hx hb dX2_noteFalls_50 rfl (lv_at hl 0 rfl) ?_
                refine dk_csi (va_runV (As := [.int (nI i), .int (nI j)]) (rest := [.int (nI j), .ref (aS (i + 6))]) ⟨hx, hb, hml, hown, hT⟩ (c_X1_fallOf l dC dI cI cII aN fr le fi ne fl (nI d) ar pr (nI z) sp i j (by omega) (by omega) (har2 j (by omega))) (cwV 2 hT (dk_gV mw_208 mw_209 mw_210 mw_24 mw_211) rfl rfl rfl (by decide +kernel) ⟨(Nat.le_of_ble_eq_true rfl), (Nat.le_of_ble_eq_true rfl)⟩) (dk_preRV hK hP [13, 14, 15, 16, 17, 18, 19, 20] rfl (q0 := 13) (ci := 1) rfl rfl) rfl rfl hl.1 rfl (lv_room (Nat.le_of_ble_eq_true rfl)) dX2_noteFalls_51 ⟨Nat.le_of_ble_eq_true rfl, Nat.le_of_ble_eq_true rfl⟩) (fun r9 h9 => ?_)
                subst h9
                refine lv_goto (tgt := 58) hx hb dX2_noteFalls_54 (by decide) ?_
                refine dk_iast (q0 := 6 + i) (t0 := 0) (i := j) hx hb hK hP hD hS (dk_rowA (by omega)) rfl rfl (by omega) (by decide) dX2_noteFalls_58 (fun H locs hP hD hS => ?_)
                rw [dk_rowSetA (by omega)] at hP hD
                have hP : va_P (dC, dI) vwCl (dk_S cI cII aS (aN 0) (dk_updF G2 i j (dk_fall le fi fl ar i j)) ts tp li en so pa fd co ps ++ dk_N cI cII aN fr le fi ne fl (nI d) ar pr (nI z) sp) H := hP
                have hD : va_D A (dk_S cI cII aS (aN 0) (dk_updF G2 i j (dk_fall le fi fl ar i j)) ts tp li en so pa fd co ps ++ dk_N cI cII aN fr le fi ne fl (nI d) ar pr (nI z) sp) := hD
                refine lv_iinc (v := (nI (j + 1))) (lv' := [(2, .int (nI (j + 1))), (1, .int (nI i)), (0, .ref (aS 0))]) hx hb dX2_noteFalls_59 hl (k := 0) rfl (nI_1 j) (by decide) rfl (fun ls hl => ?_)
                refine lv_goto (tgt := 15) hx hb dX2_noteFalls_62 (by decide) ?_
                exact ih15 (j + 1) (dk_updF G2 i j (dk_fall le fi fl ar i j)) _ _ _ (by omega) (by rw [← hf15_0]; show _ = dk_nc le fi fl ar sp i n2 (j + 1) (dk_updF G2 i j (dk_fallAt le fi fl ar sp i j)); unfold dk_fallAt; rw [if_neg c_42]) hP hD hS (lv_sub hl [0, 1, 2] rfl)
        exact lp15 z 0 G _ _ _ (by omega) rfl hP hD hS (lv_sub hl [0, 1, 2] rfl)
  exact lp2 d 1 F _ _ _ (by omega) rfl hP hD hS (lv_sub hl [0, 1] rfl)
