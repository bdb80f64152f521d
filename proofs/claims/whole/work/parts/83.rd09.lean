set_option maxHeartbeats 4000000 in
set_option maxRecDepth 100000 in
/-- DuctSizesModel.price -/
theorem c_X4_price (l : Launch) (dC : Nat → ClassId) (dI : Nat → Nat → Nat) (cI cII : ClassId) (aR : Nat → Nat) (cd : Int32) (fr : Nat → Int32) (le : Nat → Int32) (fi : Nat → Int32) (ne : Nat → Int32) (ar : Nat → Int32) (pr : Nat → Int32) (sp : Int32) (ep : Int32) (pt : Int32) (cf : Nat → Int32) (cp : Nat → Int32) (ch : Nat → Int32) (la : Nat → Int64) (fd : Int32) (bc : Int64) (bp : Int64) (bh : Nat → Int32) (ba : Nat → Int64) (fs : Nat → Int64) (d : Nat) (z : Nat) (frN : Nat → Nat) (leN : Nat → Nat) (fiN : Nat → Nat) (neN : Nat → Nat) (arN : Nat → Nat) (prN : Nat → Nat) (cN : Nat → Nat) (hd1 : d ≤ 6) (hz1 : z ≤ 4) (hO : rk_Ok d z fr le fi ne ar pr frN leN fiN neN arN prN) (hch : ∀ i, 1 ≤ i → i ≤ d → ch i = nI (cN i) ∧ cN i < z) : dk_Rl l yX4_price wsX4_price ({ frames := 0, cells := 0, slots := 0, locals := 0 }) (dC, dI) (dk_TR cI cII) [.ref (aR 0)] (dk_R cI cII aR cd (nI d) fr le fi ne (nI z) ar pr sp ep pt cf cp ch la fd bc bp bh ba fs) (fun r => r = lN (rk_pr leN prN cN d 1 0)) := by
  refine dk_ofRl (cc := cX4_price) (maxL := 4) (by decide) rfl (Nat.le_of_ble_eq_true rfl) ?_
  intro p e s m args below meth c ls Q H ⟨hx, hb, hml, hts, hown, hnm⟩ hK hP hl hret
  have hT : ∀ w ∈ dk_tbl, w.before args s = true := fun w h => hts w (List.mem_cons_of_mem _ h)
  have hown : s.vm.findClass RX4 = some m.cls := hown
  have hl : lv_has ls 4 [(0, .ref (aR 0))] := hl
  refine lv_lconst (v := 0) hx hb dX4_price_0 (by decide) ?_
  refine lv_lstore_n (lv' := [(1, .long 0), (0, .ref (aR 0))]) hx hb dX4_price_1 rfl hl (by decide) rfl (fun ls hl => ?_)
  refine lv_iconst (v := 1) hx hb dX4_price_2 (by decide) ?_
  refine lv_istore_n (lv' := [(3, .int 1), (1, .long 0), (0, .ref (aR 0))]) hx hb dX4_price_3 rfl hl (by decide) rfl (fun ls hl => ?_)
  have lp4 : ∀ (n i : Nat) (s0 : Nat) (ls : Array Slot), i + n = d + 1 ∧ 1 ≤ i → rk_pr leN prN cN n i s0 = (rk_pr leN prN cN d 1 0) → lv_has ls 4 [(3, .int (nI i)), (1, .long (lN s0)), (0, .ref (aR 0))] → W p l e ({ frames := 0, cells := 0, slots := 0, locals := 0 }) s m args below meth c H [] 0 0 Q (F0 m 4 ls []) := by
    intro n
    induction n with
    | zero =>
      intro i s0 ls hin4 hf4_0 hl
      have hf4_0 : s0 = (rk_pr leN prN cN d 1 0) := hf4_0
      subst hf4_0
      refine lv_iload_n hx hb dX4_price_4 rfl (lv_at hl 0 rfl) ?_
      refine lv_aload_n hx hb dX4_price_5 rfl (lv_at hl 2 rfl) ?_
      refine va_get (D := (dC, dI)) (ci := 4) (v := .int (nI d)) (C := RX4) (T := TX4) (N := 22) hx hb hT in_X4 hown hK hP 0 rfl rfl 1 (by decide) (hT _ mw_462) (fun _ h9 => h9) rfl dX4_price_6 ?_
      refine lv_icmp_gt (tgt := 40) hx hb dX4_price_9 (by decide) (fun c_9 => ?_) (fun c_9 => ?_)
      · refine lv_lload_n hx hb dX4_price_40 rfl (lv_at hl 1 rfl) ?_
        exact hret _ _ _ rfl dX4_price_41
      · exact absurd (nI_lt (by omega) (by omega)) c_9
    | succ n ih4 =>
      intro i s0 ls hin4 hf4_0 hl
      refine lv_iload_n hx hb dX4_price_4 rfl (lv_at hl 0 rfl) ?_
      refine lv_aload_n hx hb dX4_price_5 rfl (lv_at hl 2 rfl) ?_
      refine va_get (D := (dC, dI)) (ci := 4) (v := .int (nI d)) (C := RX4) (T := TX4) (N := 22) hx hb hT in_X4 hown hK hP 0 rfl rfl 1 (by decide) (hT _ mw_462) (fun _ h9 => h9) rfl dX4_price_6 ?_
      refine lv_icmp_gt (tgt := 40) hx hb dX4_price_9 (by decide) (fun c_9 => ?_) (fun c_9 => ?_)
      · exact absurd c_9 (nI_nlt (by omega) (by omega))
      · obtain ⟨hc1, hc2⟩ := hch i (by omega) (by omega)
        refine lv_lload_n hx hb dX4_price_12 rfl (lv_at hl 1 rfl) ?_
        refine lv_aload_n hx hb dX4_price_13 rfl (lv_at hl 2 rfl) ?_
        refine va_get (D := (dC, dI)) (ci := 4) (v := .ref (aR 2)) (C := RX4) (T := TX4) (N := 22) hx hb hT in_X4 hown hK hP 0 rfl rfl 3 (by decide) (hT _ mw_464) (fun _ h9 => h9) rfl dX4_price_14 ?_
        refine lv_iload_n hx hb dX4_price_17 rfl (lv_at hl 0 rfl) ?_
        refine dk_iald (q0 := 2) (t0 := 0) (i := i) hx hb hK hP rfl rfl rfl (by omega) (by decide) dX4_price_18 ?_
        refine lv_aload_n hx hb dX4_price_19 rfl (lv_at hl 2 rfl) ?_
        refine va_get (D := (dC, dI)) (ci := 4) (v := .ref (aR 6)) (C := RX4) (T := TX4) (N := 22) hx hb hT in_X4 hown hK hP 0 rfl rfl 8 (by decide) (hT _ mw_469) (fun _ h9 => h9) rfl dX4_price_20 ?_
        refine lv_aload_n hx hb dX4_price_23 rfl (lv_at hl 2 rfl) ?_
        refine va_get (D := (dC, dI)) (ci := 4) (v := .ref (aR 9)) (C := RX4) (T := TX4) (N := 22) hx hb hT in_X4 hown hK hP 0 rfl rfl 14 (by decide) (hT _ mw_475) (fun _ h9 => h9) rfl dX4_price_24 ?_
        refine lv_iload_n hx hb dX4_price_27 rfl (lv_at hl 0 rfl) ?_
        refine dk_iald (q0 := 9) (t0 := 0) (i := i) hx hb hK hP rfl rfl rfl (by omega) (by decide) dX4_price_28 ?_
        refine lv_topi (fun y9 e9 => ?_)
        obtain rfl : y9 = nI (cN i) := by rw [e9]; exact hc1
        refine dk_iald (q0 := 6) (t0 := 0) (i := cN i) hx hb hK hP rfl rfl rfl (by omega) (by decide) dX4_price_29 ?_
        refine lv_imul hx hb dX4_price_30 ?_
        refine lv_i2l (v := (((le i) * (pr (cN i)))).toInt64) hx hb dX4_price_31 rfl ?_
        refine lv_ladd hx hb dX4_price_32 ?_
        refine dk_topl (fun y9 e9 => ?_)
        obtain rfl : y9 = lN (s0 + leN i * prN (cN i)) := by rw [e9]; exact (by rw [hO.prc (by omega) (by omega) hc2, lN_add])
        refine lv_lstore_n (lv' := [(1, .long (lN (s0 + leN i * prN (cN i)))), (3, .int (nI i)), (0, .ref (aR 0))]) hx hb dX4_price_33 rfl hl (by decide) rfl (fun ls hl => ?_)
        refine lv_iinc (v := (nI (i + 1))) (lv' := [(3, .int (nI (i + 1))), (1, .long (lN (s0 + leN i * prN (cN i)))), (0, .ref (aR 0))]) hx hb dX4_price_34 hl (k := 1) rfl (nI_1 i) (by decide) rfl (fun ls hl => ?_)
        refine lv_goto (tgt := 4) hx hb dX4_price_37 (by decide) ?_
        exact ih4 (i + 1) (s0 + leN i * prN (cN i)) _ (by omega) (by rw [← hf4_0]; rfl)  (lv_sub hl [0, 1, 2] rfl)
  exact lp4 d 1 0 _ (by omega) rfl (lv_sub hl [0, 1, 2] rfl)
