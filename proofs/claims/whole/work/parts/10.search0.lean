set_option maxHeartbeats 4000000 in
set_option maxRecDepth 100000 in
/-- DuctSizes$Search.isBetter -/
theorem c_X2_isBetter (l : Launch) (dC : Nat → ClassId) (dI : Nat → Nat → Nat) (cI cII : ClassId) (aS : Nat → Nat) (nw : Nat) (F : Nat → Nat → Int32) (ts : Nat → Int32) (tp : Nat → Int32) (li : Int32) (en : Int32) (so : Nat → Int32) (pa : Nat → Int32) (fd : Int32) (co : Int32) (ps : Int32) (x : Int32) (g : Int32) : dk_Ri l yX2_isBetter wsX2_isBetter ({ frames := 0, cells := 0, slots := 0, locals := 0 }) (dC, dI) (dk_T cI cII) [.ref (aS 0), .int x, .int g] (dk_S cI cII aS nw F ts tp li en so pa fd co ps) (fun r => r = dk_better en fd co ps x g) := by
  refine dk_ofRz (cc := cX2_isBetter) (maxL := 4) (by decide) rfl (Nat.le_of_ble_eq_true rfl) ?_
  intro p e s m args below meth c ls Q H ⟨hx, hb, hml, hts, hown, hnm⟩ hK hP hl hret
  have hT : ∀ w ∈ dk_tbl, w.before args s = true := fun w h => hts w (List.mem_cons_of_mem _ h)
  have hown : s.vm.findClass RX2 = some m.cls := hown
  have hl : lv_has ls 4 [(0, .ref (aS 0)), (1, .int x), (2, .int g)] := hl
  refine lv_iload_n hx hb dX2_isBetter_0 rfl (lv_at hl 1 rfl) ?_
  refine lv_aload_n hx hb dX2_isBetter_1 rfl (lv_at hl 0 rfl) ?_
  refine va_get (D := (dC, dI)) (ci := 2) (v := .int en) (C := RX2) (T := TX2) (N := 11) hx hb hT in_X2 hown hK hP 0 rfl rfl 5 (by decide) (hT _ mw_118) (fun _ h9 => h9) rfl dX2_isBetter_2 ?_
  refine lv_iload_n hx hb dX2_isBetter_5 rfl (lv_at hl 2 rfl) ?_
  refine lv_imul hx hb dX2_isBetter_6 ?_
  refine lv_iadd hx hb dX2_isBetter_7 ?_
  refine lv_istore_n (lv' := [(3, .int (x + (en * g))), (0, .ref (aS 0)), (1, .int x), (2, .int g)]) hx hb dX2_isBetter_8 rfl hl (by decide) rfl (fun ls hl => ?_)
  refine lv_aload_n hx hb dX2_isBetter_9 rfl (lv_at hl 1 rfl) ?_
  refine va_get (D := (dC, dI)) (ci := 2) (v := .int fd) (C := RX2) (T := TX2) (N := 11) hx hb hT in_X2 hown hK hP 0 rfl rfl 8 (by decide) (hT _ mw_123) (fun _ h9 => h9) rfl dX2_isBetter_10 ?_
  refine lv_if_eq (tgt := 40) hx hb dX2_isBetter_13 (by decide) (fun c_13 => ?_) (fun c_13 => ?_)
  · refine lv_iconst (v := 1) hx hb dX2_isBetter_40 (by decide) ?_
    refine lv_goto (tgt := 45) hx hb dX2_isBetter_41 (by decide) ?_
    exact hret _ _ _ rfl (by unfold dk_better; rw [if_pos c_13]) dX2_isBetter_45
  · refine lv_iload_n hx hb dX2_isBetter_16 rfl (lv_at hl 0 rfl) ?_
    refine lv_aload_n hx hb dX2_isBetter_17 rfl (lv_at hl 1 rfl) ?_
    refine va_get (D := (dC, dI)) (ci := 2) (v := .int co) (C := RX2) (T := TX2) (N := 11) hx hb hT in_X2 hown hK hP 0 rfl rfl 9 (by decide) (hT _ mw_125) (fun _ h9 => h9) rfl dX2_isBetter_18 ?_
    refine lv_icmp_lt (tgt := 40) hx hb dX2_isBetter_21 (by decide) (fun c_21 => ?_) (fun c_21 => ?_)
    · refine lv_iconst (v := 1) hx hb dX2_isBetter_40 (by decide) ?_
      refine lv_goto (tgt := 45) hx hb dX2_isBetter_41 (by decide) ?_
      exact hret _ _ _ rfl (by unfold dk_better; rw [if_neg c_13, if_pos c_21]) dX2_isBetter_45
    · refine lv_iload_n hx hb dX2_isBetter_24 rfl (lv_at hl 0 rfl) ?_
      refine lv_aload_n hx hb dX2_isBetter_25 rfl (lv_at hl 1 rfl) ?_
      refine va_get (D := (dC, dI)) (ci := 2) (v := .int co) (C := RX2) (T := TX2) (N := 11) hx hb hT in_X2 hown hK hP 0 rfl rfl 9 (by decide) (hT _ mw_125) (fun _ h9 => h9) rfl dX2_isBetter_26 ?_
      refine lv_icmp_ne (tgt := 44) hx hb dX2_isBetter_29 (by decide) (fun c_29 => ?_) (fun c_29 => ?_)
      · refine lv_iconst (v := 0) hx hb dX2_isBetter_44 (by decide) ?_
        exact hret _ _ _ rfl (by unfold dk_better; rw [if_neg c_13, if_neg c_21, if_neg c_29]) dX2_isBetter_45
      · refine lv_iload_n hx hb dX2_isBetter_32 rfl (lv_at hl 3 rfl) ?_
        refine lv_aload_n hx hb dX2_isBetter_33 rfl (lv_at hl 1 rfl) ?_
        refine va_get (D := (dC, dI)) (ci := 2) (v := .int ps) (C := RX2) (T := TX2) (N := 11) hx hb hT in_X2 hown hK hP 0 rfl rfl 10 (by decide) (hT _ mw_127) (fun _ h9 => h9) rfl dX2_isBetter_34 ?_
        refine lv_icmp_ge (tgt := 44) hx hb dX2_isBetter_37 (by decide) (fun c_37 => ?_) (fun c_37 => ?_)
        · refine lv_iconst (v := 0) hx hb dX2_isBetter_44 (by decide) ?_
          exact hret _ _ _ rfl (by unfold dk_better; rw [if_neg c_13, if_neg c_21, if_pos c_29, if_pos c_37]) dX2_isBetter_45
        · refine lv_iconst (v := 1) hx hb dX2_isBetter_40 (by decide) ?_
          refine lv_goto (tgt := 45) hx hb dX2_isBetter_41 (by decide) ?_
          exact hret _ _ _ rfl (by unfold dk_better; rw [if_neg c_13, if_neg c_21, if_pos c_29, if_neg c_37]) dX2_isBetter_45
