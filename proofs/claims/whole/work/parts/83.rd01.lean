set_option maxHeartbeats 4000000 in
set_option maxRecDepth 100000 in
/-- DuctSizesModel.isIn -/
theorem c_X4_isIn (l : Launch) (dC : Nat → ClassId) (dI : Nat → Nat → Nat) (cI cII : ClassId) (v : Int64) (lo : Int64) (hi : Int64) : dk_Ri l yX4_isIn wsX4_isIn ({ frames := 0, cells := 0, slots := 0, locals := 0 }) (dC, dI) (dk_TR cI cII) [.long v, .long lo, .long hi] ([]) (fun r => r = rk_isIn v lo hi) := by
  refine dk_ofRz (cc := cX4_isIn) (maxL := 6) (by decide) rfl (Nat.le_of_ble_eq_true rfl) ?_
  intro p e s m args below meth c ls Q H ⟨hx, hb, hml, hts, hown, hnm⟩ hK hP hl hret
  have hT : ∀ w ∈ dk_tbl, w.before args s = true := fun w h => hts w (List.mem_cons_of_mem _ h)
  have hown : s.vm.findClass RX4 = some m.cls := hown
  have hl : lv_has ls 6 [(0, .long v), (2, .long lo), (4, .long hi)] := hl
  refine lv_lload_n hx hb dX4_isIn_0 rfl (lv_at hl 0 rfl) ?_
  refine lv_lload_n hx hb dX4_isIn_1 rfl (lv_at hl 1 rfl) ?_
  refine dk_lif_lt (tgt := 17) hx hb dX4_isIn_2 dX4_isIn_3 (by decide) (fun c_3 => ?_) (fun c_3 => ?_)
  · refine lv_iconst (v := 0) hx hb dX4_isIn_17 (by decide) ?_
    exact hret _ _ _ rfl (by unfold rk_isIn; rw [if_pos c_3]) dX4_isIn_18
  · refine lv_lload_n hx hb dX4_isIn_6 rfl (lv_at hl 0 rfl) ?_
    refine lv_lload hx hb dX4_isIn_7 (lv_at hl 2 rfl) ?_
    refine dk_lif_gt (tgt := 17) hx hb dX4_isIn_9 dX4_isIn_10 (by decide) (fun c_10 => ?_) (fun c_10 => ?_)
    · refine lv_iconst (v := 0) hx hb dX4_isIn_17 (by decide) ?_
      exact hret _ _ _ rfl (by unfold rk_isIn; rw [if_neg c_3, if_pos c_10]) dX4_isIn_18
    · refine lv_iconst (v := 1) hx hb dX4_isIn_13 (by decide) ?_
      refine lv_goto (tgt := 18) hx hb dX4_isIn_14 (by decide) ?_
      exact hret _ _ _ rfl (by unfold rk_isIn; rw [if_neg c_3, if_neg c_10]) dX4_isIn_18
