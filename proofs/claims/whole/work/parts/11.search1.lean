set_option maxHeartbeats 4000000 in
set_option maxRecDepth 100000 in
/-- DuctSizes$Search.firstNodeOfGreatestPressure -/
theorem c_X2_firstNodeOfGreatestPressure (l : Launch) (dC : Nat → ClassId) (dI : Nat → Nat → Nat) (cI cII : ClassId) (aS : Nat → Nat) (F : Nat → Nat → Int32) (ts : Nat → Int32) (tp : Nat → Int32) (li : Int32) (en : Int32) (so : Nat → Int32) (pa : Nat → Int32) (fd : Int32) (co : Int32) (ps : Int32) (aN : Nat → Nat) (fr : Nat → Int32) (le : Nat → Int32) (fi : Nat → Int32) (ne : Nat → Int32) (fl : Nat → Int32) (ar : Nat → Int32) (pr : Nat → Int32) (sz : Int32) (sp : Int32) (d : Nat) (hd1 : d ≤ 6) : dk_Ri l yX2_firstNodeOfGreatestPressure wsX2_firstNodeOfGreatestPressure ({ frames := 0, cells := 0, slots := 0, locals := 0 }) (dC, dI) (dk_T cI cII) [.ref (aS 0)] (dk_S cI cII aS (aN 0) F ts tp li en so pa fd co ps ++ dk_N cI cII aN fr le fi ne fl (nI d) ar pr sz sp) (fun r => r = nI (dk_first pa d 1 0)) := by
  refine dk_ofRi (cc := cX2_firstNodeOfGreatestPressure) (maxL := 3) (by decide) rfl (Nat.le_of_ble_eq_true rfl) ?_
  intro p e s m args below meth c ls Q H ⟨hx, hb, hml, hts, hown, hnm⟩ hK hP hl hret
  have hT : ∀ w ∈ dk_tbl, w.before args s = true := fun w h => hts w (List.mem_cons_of_mem _ h)
  have hown : s.vm.findClass RX2 = some m.cls := hown
  have hl : lv_has ls 3 [(0, .ref (aS 0))] := hl
  refine lv_iconst (v := 0) hx hb dX2_firstNodeOfGreatestPressure_0 (by decide) ?_
  refine lv_istore_n (lv' := [(1, .int 0), (0, .ref (aS 0))]) hx hb dX2_firstNodeOfGreatestPressure_1 rfl hl (by decide) rfl (fun ls hl => ?_)
  refine lv_iconst (v := 1) hx hb dX2_firstNodeOfGreatestPressure_2 (by decide) ?_
  refine lv_istore_n (lv' := [(2, .int 1), (1, .int 0), (0, .ref (aS 0))]) hx hb dX2_firstNodeOfGreatestPressure_3 rfl hl (by decide) rfl (fun ls hl => ?_)
  have lp4 : ∀ (n i : Nat) (b : Nat) (ls : Array Slot), i + n = d + 1 ∧ b < i → dk_first pa n i b = (dk_first pa d 1 0) → lv_has ls 3 [(2, .int (nI i)), (1, .int (nI b)), (0, .ref (aS 0))] → W p l e ({ frames := 0, cells := 0, slots := 0, locals := 0 }) s m args below meth c H [] 0 0 Q (F0 m 4 ls []) := by
    intro n
    induction n with
    | zero =>
      intro i b ls hin4 hf4_0 hl
      refine lv_iload_n hx hb dX2_firstNodeOfGreatestPressure_4 rfl (lv_at hl 0 rfl) ?_
      refine lv_aload_n hx hb dX2_firstNodeOfGreatestPressure_5 rfl (lv_at hl 2 rfl) ?_
      refine va_get (D := (dC, dI)) (ci := 2) (v := .ref (aN 0)) (C := RX2) (T := TX2) (N := 11) hx hb hT in_X2 hown hK hP 0 rfl rfl 0 (by decide) (hT _ mw_113) (fun _ h9 => h9) rfl dX2_firstNodeOfGreatestPressure_6 ?_
      refine va_get (D := (dC, dI)) (ci := 1) (v := .int (nI d)) (C := RX1) (T := TX1) (N := 10) hx hb hT in_X1 hown hK hP 13 rfl rfl 5 (by decide) (hT _ mw_59) (fun _ h9 => h9) rfl dX2_firstNodeOfGreatestPressure_9 ?_
      refine lv_icmp_gt (tgt := 38) hx hb dX2_firstNodeOfGreatestPressure_12 (by decide) (fun c_12 => ?_) (fun c_12 => ?_)
      · refine lv_iload_n hx hb dX2_firstNodeOfGreatestPressure_38 rfl (lv_at hl 1 rfl) ?_
        exact hret _ _ _ (congrArg nI hf4_0) dX2_firstNodeOfGreatestPressure_39
      · exact absurd (nI_lt (by omega) (by omega)) c_12
    | succ n ih4 =>
      intro i b ls hin4 hf4_0 hl
      refine lv_iload_n hx hb dX2_firstNodeOfGreatestPressure_4 rfl (lv_at hl 0 rfl) ?_
      refine lv_aload_n hx hb dX2_firstNodeOfGreatestPressure_5 rfl (lv_at hl 2 rfl) ?_
      refine va_get (D := (dC, dI)) (ci := 2) (v := .ref (aN 0)) (C := RX2) (T := TX2) (N := 11) hx hb hT in_X2 hown hK hP 0 rfl rfl 0 (by decide) (hT _ mw_113) (fun _ h9 => h9) rfl dX2_firstNodeOfGreatestPressure_6 ?_
      refine va_get (D := (dC, dI)) (ci := 1) (v := .int (nI d)) (C := RX1) (T := TX1) (N := 10) hx hb hT in_X1 hown hK hP 13 rfl rfl 5 (by decide) (hT _ mw_59) (fun _ h9 => h9) rfl dX2_firstNodeOfGreatestPressure_9 ?_
      refine lv_icmp_gt (tgt := 38) hx hb dX2_firstNodeOfGreatestPressure_12 (by decide) (fun c_12 => ?_) (fun c_12 => ?_)
      · exact absurd c_12 (nI_nlt (by omega) (by omega))
      · refine lv_aload_n hx hb dX2_firstNodeOfGreatestPressure_15 rfl (lv_at hl 2 rfl) ?_
        refine va_get (D := (dC, dI)) (ci := 2) (v := .ref (aS 5)) (C := RX2) (T := TX2) (N := 11) hx hb hT in_X2 hown hK hP 0 rfl rfl 7 (by decide) (hT _ mw_121) (fun _ h9 => h9) rfl dX2_firstNodeOfGreatestPressure_16 ?_
        refine lv_iload_n hx hb dX2_firstNodeOfGreatestPressure_19 rfl (lv_at hl 0 rfl) ?_
        refine dk_iald (q0 := 5) (t0 := 0) (i := i) hx hb hK hP rfl rfl rfl (by omega) (by decide) dX2_firstNodeOfGreatestPressure_20 ?_
        refine lv_aload_n hx hb dX2_firstNodeOfGreatestPressure_21 rfl (lv_at hl 2 rfl) ?_
        refine va_get (D := (dC, dI)) (ci := 2) (v := .ref (aS 5)) (C := RX2) (T := TX2) (N := 11) hx hb hT in_X2 hown hK hP 0 rfl rfl 7 (by decide) (hT _ mw_121) (fun _ h9 => h9) rfl dX2_firstNodeOfGreatestPressure_22 ?_
        refine lv_iload_n hx hb dX2_firstNodeOfGreatestPressure_25 rfl (lv_at hl 1 rfl) ?_
        refine dk_iald (q0 := 5) (t0 := 0) (i := b) hx hb hK hP rfl rfl rfl (by omega) (by decide) dX2_firstNodeOfGreatestPressure_26 ?_
        refine lv_icmp_le (tgt := 32) hx hb dX2_firstNodeOfGreatestPressure_27 (by decide) (fun c_27 => ?_) (fun c_27 => ?_)
        · refine lv_iinc (v := (nI (i + 1))) (lv' := [(2, .int (nI (i + 1))), (1, .int (nI b)), (0, .ref (aS 0))]) hx hb dX2_firstNodeOfGreatestPressure_32 hl (k := 0) rfl (nI_1 i) (by decide) rfl (fun ls hl => ?_)
          refine lv_goto (tgt := 4) hx hb dX2_firstNodeOfGreatestPressure_35 (by decide) ?_
          exact ih4 (i + 1) b _ (by omega) (by rw [← hf4_0]; show _ = dk_first pa n (i + 1) (if pa i ≤ pa b then b else i); rw [if_pos c_27])  (lv_sub hl [0, 1, 2] rfl)
        · refine lv_iload_n hx hb dX2_firstNodeOfGreatestPressure_30 rfl (lv_at hl 0 rfl) ?_
          refine lv_istore_n (lv' := [(1, .int (nI i)), (2, .int (nI i)), (0, .ref (aS 0))]) hx hb dX2_firstNodeOfGreatestPressure_31 rfl hl (by decide) rfl (fun ls hl => ?_)
          refine lv_iinc (v := (nI (i + 1))) (lv' := [(2, .int (nI (i + 1))), (1, .int (nI i)), (0, .ref (aS 0))]) hx hb dX2_firstNodeOfGreatestPressure_32 hl (k := 1) rfl (nI_1 i) (by decide) rfl (fun ls hl => ?_)
          refine lv_goto (tgt := 4) hx hb dX2_firstNodeOfGreatestPressure_35 (by decide) ?_
          exact ih4 (i + 1) i _ (by omega) (by rw [← hf4_0]; show _ = dk_first pa n (i + 1) (if pa i ≤ pa b then b else i); rw [if_neg c_27])  (lv_sub hl [0, 1, 2] rfl)
  exact lp4 d 1 0 _ (by omega) rfl (lv_sub hl [0, 1, 2] rfl)
