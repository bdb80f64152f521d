set_option maxHeartbeats 4000000 in
set_option maxRecDepth 100000 in
/-- DuctSizesModel.ways -/
theorem c_X4_ways (l : Launch) (dC : Nat → ClassId) (dI : Nat → Nat → Nat) (cI cII : ClassId) (aR : Nat → Nat) (cd : Int32) (fr : Nat → Int32) (le : Nat → Int32) (fi : Nat → Int32) (ne : Nat → Int32) (ar : Nat → Int32) (pr : Nat → Int32) (sp : Int32) (ep : Int32) (pt : Int32) (cf : Nat → Int32) (cp : Nat → Int32) (ch : Nat → Int32) (la : Nat → Int64) (fd : Int32) (bc : Int64) (bp : Int64) (bh : Nat → Int32) (ba : Nat → Int64) (fs : Nat → Int64) (d : Nat) (z : Nat) (hd1 : d ≤ 6) : dk_Ri l yX4_ways wsX4_ways ({ frames := 0, cells := 0, slots := 0, locals := 0 }) (dC, dI) (dk_TR cI cII) [.ref (aR 0)] (dk_R cI cII aR cd (nI d) fr le fi ne (nI z) ar pr sp ep pt cf cp ch la fd bc bp bh ba fs) (fun r => r = nI (z ^ d)) := by
  refine dk_ofRi (cc := cX4_ways) (maxL := 3) (by decide) rfl (Nat.le_of_ble_eq_true rfl) ?_
  intro p e s m args below meth c ls Q H ⟨hx, hb, hml, hts, hown, hnm⟩ hK hP hl hret
  have hT : ∀ w ∈ dk_tbl, w.before args s = true := fun w h => hts w (List.mem_cons_of_mem _ h)
  have hown : s.vm.findClass RX4 = some m.cls := hown
  have hl : lv_has ls 3 [(0, .ref (aR 0))] := hl
  refine lv_iconst (v := 1) hx hb dX4_ways_0 (by decide) ?_
  refine lv_istore_n (lv' := [(1, .int 1), (0, .ref (aR 0))]) hx hb dX4_ways_1 rfl hl (by decide) rfl (fun ls hl => ?_)
  refine lv_iconst (v := 1) hx hb dX4_ways_2 (by decide) ?_
  refine lv_istore_n (lv' := [(2, .int 1), (1, .int 1), (0, .ref (aR 0))]) hx hb dX4_ways_3 rfl hl (by decide) rfl (fun ls hl => ?_)
  have lp4 : ∀ (n i : Nat) (q : Nat) (ls : Array Slot), i + n = d + 1 → q * z ^ n = (z ^ d) → lv_has ls 3 [(2, .int (nI i)), (1, .int (nI q)), (0, .ref (aR 0))] → W p l e ({ frames := 0, cells := 0, slots := 0, locals := 0 }) s m args below meth c H [] 0 0 Q (F0 m 4 ls []) := by
    intro n
    induction n with
    | zero =>
      intro i q ls hin4 hf4_0 hl
      refine lv_iload_n hx hb dX4_ways_4 rfl (lv_at hl 0 rfl) ?_
      refine lv_aload_n hx hb dX4_ways_5 rfl (lv_at hl 2 rfl) ?_
      refine va_get (D := (dC, dI)) (ci := 4) (v := .int (nI d)) (C := RX4) (T := TX4) (N := 22) hx hb hT in_X4 hown hK hP 0 rfl rfl 1 (by decide) (hT _ mw_462) (fun _ h9 => h9) rfl dX4_ways_6 ?_
      refine lv_icmp_gt (tgt := 25) hx hb dX4_ways_9 (by decide) (fun c_9 => ?_) (fun c_9 => ?_)
      · refine lv_iload_n hx hb dX4_ways_25 rfl (lv_at hl 1 rfl) ?_
        exact hret _ _ _ (by rw [← hf4_0, Nat.pow_zero, Nat.mul_one]) dX4_ways_26
      · exact absurd (nI_lt (by omega) (by omega)) c_9
    | succ n ih4 =>
      intro i q ls hin4 hf4_0 hl
      refine lv_iload_n hx hb dX4_ways_4 rfl (lv_at hl 0 rfl) ?_
      refine lv_aload_n hx hb dX4_ways_5 rfl (lv_at hl 2 rfl) ?_
      refine va_get (D := (dC, dI)) (ci := 4) (v := .int (nI d)) (C := RX4) (T := TX4) (N := 22) hx hb hT in_X4 hown hK hP 0 rfl rfl 1 (by decide) (hT _ mw_462) (fun _ h9 => h9) rfl dX4_ways_6 ?_
      refine lv_icmp_gt (tgt := 25) hx hb dX4_ways_9 (by decide) (fun c_9 => ?_) (fun c_9 => ?_)
      · exact absurd c_9 (nI_nlt (by omega) (by omega))
      · refine lv_iload_n hx hb dX4_ways_12 rfl (lv_at hl 1 rfl) ?_
        refine lv_aload_n hx hb dX4_ways_13 rfl (lv_at hl 2 rfl) ?_
        refine va_get (D := (dC, dI)) (ci := 4) (v := .int (nI z)) (C := RX4) (T := TX4) (N := 22) hx hb hT in_X4 hown hK hP 0 rfl rfl 6 (by decide) (hT _ mw_467) (fun _ h9 => h9) rfl dX4_ways_14 ?_
        refine lv_imul hx hb dX4_ways_17 ?_
        refine lv_topi (fun y9 e9 => ?_)
        obtain rfl : y9 = nI (q * z) := by rw [e9]; exact (pk_mul q z)
        refine lv_istore_n (lv' := [(1, .int (nI (q * z))), (2, .int (nI i)), (0, .ref (aR 0))]) hx hb dX4_ways_18 rfl hl (by decide) rfl (fun ls hl => ?_)
        refine lv_iinc (v := (nI (i + 1))) (lv' := [(2, .int (nI (i + 1))), (1, .int (nI (q * z))), (0, .ref (aR 0))]) hx hb dX4_ways_19 hl (k := 1) rfl (nI_1 i) (by decide) rfl (fun ls hl => ?_)
        refine lv_goto (tgt := 4) hx hb dX4_ways_22 (by decide) ?_
        exact ih4 (i + 1) (q * z) _ (by omega) (by rw [← hf4_0, Nat.pow_succ, Nat.mul_assoc, Nat.mul_comm z])  (lv_sub hl [0, 1, 2] rfl)
  exact lp4 d 1 1 _ (by omega) (Nat.one_mul _) (lv_sub hl [0, 1, 2] rfl)
