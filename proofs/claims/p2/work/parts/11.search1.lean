set_option maxHeartbeats 4000000 in
set_option maxRecDepth 100000 in
/-- DuctSizes$Search.firstNodeOfGreatestPressure -/
theorem c_X2_firstNodeOfGreatestPressure (l : Launch) (dC : Nat → ClassId) (dI : Nat → Nat → Nat) (cI cII : ClassId) (aS : Nat → Nat) (F : Nat → Nat → Int32) (ts : Nat → Int32) (tp : Nat → Int32) (li : Int32) (en : Int32) (so : Nat → Int32) (pa : Nat → Int32) (fd : Int32) (co : Int32) (ps : Int32) (aN : Nat → Nat) (fr : Nat → Int32) (le : Nat → Int32) (fi : Nat → Int32) (ne : Nat → Int32) (fl : Nat → Int32) (ar : Nat → Int32) (pr : Nat → Int32) (sz : Int32) (sp : Int32) (d : Nat) (hd1 : d ≤ 6) : dk_Ri l yX2_firstNodeOfGreatestPressure wsX2_firstNodeOfGreatestPressure ({ frames := 0, cells := 0, slots := 0, locals := 0 }) (dC, dI) (dk_T cI cII) [.ref (aS 0)] (dk_S cI cII aS (aN 0) F ts tp li en so pa fd co ps ++ dk_N cI cII aN fr le fi ne fl (nI d) ar pr sz sp) (fun r => r = dk_first pa ps d 1) := by
  refine dk_ofRi (cc := cX2_firstNodeOfGreatestPressure) (maxL := 2) (by decide) rfl (Nat.le_of_ble_eq_true rfl) ?_
  intro p e s m args below meth c ls Q H ⟨hx, hb, hml, hts, hown, hnm⟩ hK hP hl hret
  have hT : ∀ w ∈ dk_tbl, w.before args s = true := fun w h => hts w (List.mem_cons_of_mem _ h)
  have hown : s.vm.findClass RX2 = some m.cls := hown
  have hl : lv_has ls 2 [(0, .ref (aS 0))] := hl
  refine lv_iconst (v := 1) hx hb dX2_firstNodeOfGreatestPressure_0 (by decide) ?_
  refine lv_istore_n (lv' := [(1, .int 1), (0, .ref (aS 0))]) hx hb dX2_firstNodeOfGreatestPressure_1 rfl hl (by decide) rfl (fun ls hl => ?_)
  have lp2 : ∀ (n i : Nat) (ls : Array Slot), i + n = d + 1 → dk_first pa ps n i = (dk_first pa ps d 1) → lv_has ls 2 [(1, .int (nI i)), (0, .ref (aS 0))] → W p l e ({ frames := 0, cells := 0, slots := 0, locals := 0 }) s m args below meth c H [] 0 0 Q (F0 m 2 ls []) := by
    intro n
    induction n with
    | zero =>
      intro i ls hin2 hf2_0 hl
      refine lv_iload_n hx hb dX2_firstNodeOfGreatestPressure_2 rfl (lv_at hl 0 rfl) ?_
      refine lv_aload_n hx hb dX2_firstNodeOfGreatestPressure_3 rfl (lv_at hl 1 rfl) ?_
      refine va_get (D := (dC, dI)) (ci := 2) (v := .ref (aN 0)) (C := RX2) (T := TX2) (N := 11) hx hb hT in_X2 hown hK hP 0 rfl rfl 0 (by decide) (hT _ mw_113) (fun _ h9 => h9) rfl dX2_firstNodeOfGreatestPressure_4 ?_
      refine va_get (D := (dC, dI)) (ci := 1) (v := .int (nI d)) (C := RX1) (T := TX1) (N := 10) hx hb hT in_X1 hown hK hP 13 rfl rfl 5 (by decide) (hT _ mw_59) (fun _ h9 => h9) rfl dX2_firstNodeOfGreatestPressure_7 ?_
      refine lv_icmp_gt (tgt := 34) hx hb dX2_firstNodeOfGreatestPressure_10 (by decide) (fun c_10 => ?_) (fun c_10 => ?_)
      · refine lv_iconst (v := 0) hx hb dX2_firstNodeOfGreatestPressure_34 (by decide) ?_
        exact hret _ _ _ hf2_0 dX2_firstNodeOfGreatestPressure_35
      · exact absurd (nI_lt (by omega) (by omega)) c_10
    | succ n ih2 =>
      intro i ls hin2 hf2_0 hl
      refine lv_iload_n hx hb dX2_firstNodeOfGreatestPressure_2 rfl (lv_at hl 0 rfl) ?_
      refine lv_aload_n hx hb dX2_firstNodeOfGreatestPressure_3 rfl (lv_at hl 1 rfl) ?_
      refine va_get (D := (dC, dI)) (ci := 2) (v := .ref (aN 0)) (C := RX2) (T := TX2) (N := 11) hx hb hT in_X2 hown hK hP 0 rfl rfl 0 (by decide) (hT _ mw_113) (fun _ h9 => h9) rfl dX2_firstNodeOfGreatestPressure_4 ?_
      refine va_get (D := (dC, dI)) (ci := 1) (v := .int (nI d)) (C := RX1) (T := TX1) (N := 10) hx hb hT in_X1 hown hK hP 13 rfl rfl 5 (by decide) (hT _ mw_59) (fun _ h9 => h9) rfl dX2_firstNodeOfGreatestPressure_7 ?_
      refine lv_icmp_gt (tgt := 34) hx hb dX2_firstNodeOfGreatestPressure_10 (by decide) (fun c_10 => ?_) (fun c_10 => ?_)
      · exact absurd c_10 (nI_nlt (by omega) (by omega))
      · refine lv_aload_n hx hb dX2_firstNodeOfGreatestPressure_13 rfl (lv_at hl 1 rfl) ?_
        refine va_get (D := (dC, dI)) (ci := 2) (v := .ref (aS 5)) (C := RX2) (T := TX2) (N := 11) hx hb hT in_X2 hown hK hP 0 rfl rfl 7 (by decide) (hT _ mw_121) (fun _ h9 => h9) rfl dX2_firstNodeOfGreatestPressure_14 ?_
        refine lv_iload_n hx hb dX2_firstNodeOfGreatestPressure_17 rfl (lv_at hl 0 rfl) ?_
        refine dk_iald (q0 := 5) (t0 := 0) (i := i) hx hb hK hP rfl rfl rfl (by omega) (by decide) dX2_firstNodeOfGreatestPressure_18 ?_
        refine lv_aload_n hx hb dX2_firstNodeOfGreatestPressure_19 rfl (lv_at hl 1 rfl) ?_
        refine va_get (D := (dC, dI)) (ci := 2) (v := .int ps) (C := RX2) (T := TX2) (N := 11) hx hb hT in_X2 hown hK hP 0 rfl rfl 10 (by decide) (hT _ mw_127) (fun _ h9 => h9) rfl dX2_firstNodeOfGreatestPressure_20 ?_
        refine lv_icmp_ne (tgt := 28) hx hb dX2_firstNodeOfGreatestPressure_23 (by decide) (fun c_23 => ?_) (fun c_23 => ?_)
        · refine lv_iinc (v := (nI (i + 1))) (lv' := [(1, .int (nI (i + 1))), (0, .ref (aS 0))]) hx hb dX2_firstNodeOfGreatestPressure_28 hl (k := 0) rfl (nI_1 i) (by decide) rfl (fun ls hl => ?_)
          refine lv_goto (tgt := 2) hx hb dX2_firstNodeOfGreatestPressure_31 (by decide) ?_
          exact ih2 (i + 1) _ (by omega) (by rw [← hf2_0]; show _ = (if pa i = ps then nI i else dk_first pa ps n (i + 1)); rw [if_neg c_23])  (lv_sub hl [0, 1] rfl)
        · refine lv_iload_n hx hb dX2_firstNodeOfGreatestPressure_26 rfl (lv_at hl 0 rfl) ?_
          exact hret _ _ _ (by rw [← hf2_0]; unfold dk_first; rw [if_pos c_23]) dX2_firstNodeOfGreatestPressure_27
  exact lp2 d 1 _ (by omega) rfl (lv_sub hl [0, 1] rfl)
