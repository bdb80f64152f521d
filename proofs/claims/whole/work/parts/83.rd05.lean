set_option maxHeartbeats 4000000 in
set_option maxRecDepth 100000 in
/-- DuctSizesModel.flowOf -/
theorem c_X4_flowOf (l : Launch) (dC : Nat → ClassId) (dI : Nat → Nat → Nat) (cI cII : ClassId) (aR : Nat → Nat) (cd : Int32) (fr : Nat → Int32) (le : Nat → Int32) (fi : Nat → Int32) (ne : Nat → Int32) (ar : Nat → Int32) (pr : Nat → Int32) (sp : Int32) (ep : Int32) (pt : Int32) (cf : Nat → Int32) (cp : Nat → Int32) (ch : Nat → Int32) (la : Nat → Int64) (fd : Int32) (bc : Int64) (bp : Int64) (bh : Nat → Int32) (ba : Nat → Int64) (fs : Nat → Int64) (d : Nat) (z : Nat) (frN : Nat → Nat) (leN : Nat → Nat) (fiN : Nat → Nat) (neN : Nat → Nat) (arN : Nat → Nat) (prN : Nat → Nat) (t : Nat) (hd1 : d ≤ 6) (hz1 : z ≤ 4) (hO : rk_Ok d z fr le fi ne ar pr frN leN fiN neN arN prN) (h2 : t ≤ 6) : dk_Rl l yX4_flowOf wsX4_flowOf ({ frames := 1, cells := 0, slots := 0, locals := 23 }) (dC, dI) (dk_TR cI cII) [.ref (aR 0), .int (nI t)] (dk_R cI cII aR cd (nI d) fr le fi ne (nI z) ar pr sp ep pt cf cp ch la fd bc bp bh ba fs) (fun r => r = lN (rk_flow frN neN d t)) := by
  refine dk_ofRl (cc := cX4_flowOf) (maxL := 5) (by decide) rfl (Nat.le_of_ble_eq_true rfl) ?_
  intro p e s m args below meth c ls Q H ⟨hx, hb, hml, hts, hown, hnm⟩ hK hP hl hret
  have hT : ∀ w ∈ dk_tbl, w.before args s = true := fun w h => hts w (List.mem_cons_of_mem _ h)
  have hown : s.vm.findClass RX4 = some m.cls := hown
  have hl : lv_has ls 5 [(0, .ref (aR 0)), (1, .int (nI t))] := hl
  refine lv_lconst (v := 0) hx hb dX4_flowOf_0 (by decide) ?_
  refine lv_lstore_n (lv' := [(2, .long 0), (0, .ref (aR 0)), (1, .int (nI t))]) hx hb dX4_flowOf_1 rfl hl (by decide) rfl (fun ls hl => ?_)
  refine lv_iconst (v := 1) hx hb dX4_flowOf_2 (by decide) ?_
  refine lv_istore (lv' := [(4, .int 1), (2, .long 0), (0, .ref (aR 0)), (1, .int (nI t))]) hx hb dX4_flowOf_3 hl (by decide) rfl (fun ls hl => ?_)
  have lp5 : ∀ (n i : Nat) (s0 : Nat) (ls : Array Slot), i + n = d + 1 ∧ 1 ≤ i → rk_fs frN neN t n i s0 = (rk_flow frN neN d t) → lv_has ls 5 [(4, .int (nI i)), (2, .long (lN s0)), (0, .ref (aR 0)), (1, .int (nI t))] → W p l e ({ frames := 1, cells := 0, slots := 0, locals := 23 }) s m args below meth c H [] 0 0 Q (F0 m 5 ls []) := by
    intro n
    induction n with
    | zero =>
      intro i s0 ls hin5 hf5_0 hl
      have hf5_0 : s0 = (rk_flow frN neN d t) := hf5_0
      subst hf5_0
      refine lv_iload hx hb dX4_flowOf_5 (lv_at hl 0 rfl) ?_
      refine lv_aload_n hx hb dX4_flowOf_7 rfl (lv_at hl 2 rfl) ?_
      refine va_get (D := (dC, dI)) (ci := 4) (v := .int (nI d)) (C := RX4) (T := TX4) (N := 22) hx hb hT in_X4 hown hK hP 0 rfl rfl 1 (by decide) (hT _ mw_462) (fun _ h9 => h9) rfl dX4_flowOf_8 ?_
      refine lv_icmp_gt (tgt := 45) hx hb dX4_flowOf_11 (by decide) (fun c_11 => ?_) (fun c_11 => ?_)
      · refine lv_lload_n hx hb dX4_flowOf_45 rfl (lv_at hl 1 rfl) ?_
        exact hret _ _ _ rfl dX4_flowOf_46
      · exact absurd (nI_lt (by omega) (by omega)) c_11
    | succ n ih5 =>
      intro i s0 ls hin5 hf5_0 hl
      refine lv_iload hx hb dX4_flowOf_5 (lv_at hl 0 rfl) ?_
      refine lv_aload_n hx hb dX4_flowOf_7 rfl (lv_at hl 2 rfl) ?_
      refine va_get (D := (dC, dI)) (ci := 4) (v := .int (nI d)) (C := RX4) (T := TX4) (N := 22) hx hb hT in_X4 hown hK hP 0 rfl rfl 1 (by decide) (hT _ mw_462) (fun _ h9 => h9) rfl dX4_flowOf_8 ?_
      refine lv_icmp_gt (tgt := 45) hx hb dX4_flowOf_11 (by decide) (fun c_11 => ?_) (fun c_11 => ?_)
      · exact absurd c_11 (nI_nlt (by omega) (by omega))
      · refine lv_lload_n hx hb dX4_flowOf_14 rfl (lv_at hl 1 rfl) ?_
        refine lv_aload_n hx hb dX4_flowOf_15 rfl (lv_at hl 2 rfl) ?_
        refine lv_iload hx hb dX4_flowOf_16 (lv_at hl 0 rfl) ?_
        refine lv_iload_n hx hb dX4_flowOf_18 rfl (lv_at hl 3 rfl) ?_
        refine dk_csi (va_runV (As := [.int (nI i), .int (nI t)]) (rest := [.long (lN s0)]) ⟨hx, hb, hml, hown, hT⟩ (c_X4_isBelow l dC dI cI cII aR cd fr le fi ne ar pr sp ep pt cf cp ch la fd bc bp bh ba fs d z frN leN fiN neN arN prN i t hd1 hz1 hO (by omega) h2) (cwV 2 hT (dk_gV mw_582 mw_584 mw_14 mw_27 mw_585) rfl rfl rfl (by decide +kernel) ⟨(Nat.le_of_ble_eq_true rfl), (Nat.le_of_ble_eq_true rfl)⟩) (dk_preRV hK hP [0, 1, 2, 3, 4, 5, 6, 7, 8, 9, 10, 11, 12, 13] rfl (q0 := 0) (ci := 4) rfl rfl) rfl rfl hl.1 rfl (lv_room (Nat.le_of_ble_eq_true rfl)) dX4_flowOf_19 ⟨Nat.le_of_ble_eq_true rfl, Nat.le_of_ble_eq_true rfl⟩) (fun r9 h9 => ?_)
        subst h9
        refine lv_if_eq (tgt := 36) hx hb dX4_flowOf_22 (by decide) (fun c_22 => ?_) (fun c_22 => ?_)
        · refine lv_lconst (v := 0) hx hb dX4_flowOf_36 (by decide) ?_
          refine lv_ladd hx hb dX4_flowOf_37 ?_
          refine dk_topl (fun y9 e9 => ?_)
          obtain rfl : y9 = lN (s0 + 0) := by rw [e9]; exact (lN_add s0 0)
          refine lv_lstore_n (lv' := [(2, .long (lN (s0 + 0))), (4, .int (nI i)), (0, .ref (aR 0)), (1, .int (nI t))]) hx hb dX4_flowOf_38 rfl hl (by decide) rfl (fun ls hl => ?_)
          refine lv_iinc (v := (nI (i + 1))) (lv' := [(4, .int (nI (i + 1))), (2, .long (lN (s0 + 0))), (0, .ref (aR 0)), (1, .int (nI t))]) hx hb dX4_flowOf_39 hl (k := 1) rfl (nI_1 i) (by decide) rfl (fun ls hl => ?_)
          refine lv_goto (tgt := 5) hx hb dX4_flowOf_42 (by decide) ?_
          exact ih5 (i + 1) (s0 + 0) _ (by omega) (by rw [← hf5_0]; show _ = rk_fs frN neN t n (i + 1) (s0 + if rk_bl frN i t = 0 then 0 else neN i); rw [if_pos c_22])  (lv_sub hl [0, 1, 2, 3] rfl)
        · refine lv_aload_n hx hb dX4_flowOf_25 rfl (lv_at hl 2 rfl) ?_
          refine va_get (D := (dC, dI)) (ci := 4) (v := .ref (aR 4)) (C := RX4) (T := TX4) (N := 22) hx hb hT in_X4 hown hK hP 0 rfl rfl 5 (by decide) (hT _ mw_466) (fun _ h9 => h9) rfl dX4_flowOf_26 ?_
          refine lv_iload hx hb dX4_flowOf_29 (lv_at hl 0 rfl) ?_
          refine dk_iald (q0 := 4) (t0 := 0) (i := i) hx hb hK hP rfl rfl rfl (by omega) (by decide) dX4_flowOf_31 ?_
          refine lv_i2l (v := ((ne i)).toInt64) hx hb dX4_flowOf_32 rfl ?_
          refine lv_goto (tgt := 37) hx hb dX4_flowOf_33 (by decide) ?_
          refine lv_ladd hx hb dX4_flowOf_37 ?_
          refine dk_topl (fun y9 e9 => ?_)
          obtain rfl : y9 = lN (s0 + neN i) := by rw [e9]; exact (by rw [(hO.ne (i := i) (by omega) (by omega)).1, nI_l (Nat.lt_of_le_of_lt (hO.ne (i := i) (by omega) (by omega)).2 (by decide)), lN_add])
          refine lv_lstore_n (lv' := [(2, .long (lN (s0 + neN i))), (4, .int (nI i)), (0, .ref (aR 0)), (1, .int (nI t))]) hx hb dX4_flowOf_38 rfl hl (by decide) rfl (fun ls hl => ?_)
          refine lv_iinc (v := (nI (i + 1))) (lv' := [(4, .int (nI (i + 1))), (2, .long (lN (s0 + neN i))), (0, .ref (aR 0)), (1, .int (nI t))]) hx hb dX4_flowOf_39 hl (k := 1) rfl (nI_1 i) (by decide) rfl (fun ls hl => ?_)
          refine lv_goto (tgt := 5) hx hb dX4_flowOf_42 (by decide) ?_
          exact ih5 (i + 1) (s0 + neN i) _ (by omega) (by rw [← hf5_0]; show _ = rk_fs frN neN t n (i + 1) (s0 + if rk_bl frN i t = 0 then 0 else neN i); rw [if_neg c_22])  (lv_sub hl [0, 1, 2, 3] rfl)
  exact lp5 d 1 0 _ (by omega) rfl (lv_sub hl [0, 1, 2, 3] rfl)
