set_option maxHeartbeats 4000000 in
set_option maxRecDepth 100000 in
/-- DuctSizesModel.isBelow -/
theorem c_X4_isBelow (l : Launch) (dC : Nat → ClassId) (dI : Nat → Nat → Nat) (cI cII : ClassId) (aR : Nat → Nat) (cd : Int32) (fr : Nat → Int32) (le : Nat → Int32) (fi : Nat → Int32) (ne : Nat → Int32) (ar : Nat → Int32) (pr : Nat → Int32) (sp : Int32) (ep : Int32) (pt : Int32) (cf : Nat → Int32) (cp : Nat → Int32) (ch : Nat → Int32) (la : Nat → Int64) (fd : Int32) (bc : Int64) (bp : Int64) (bh : Nat → Int32) (ba : Nat → Int64) (fs : Nat → Int64) (d : Nat) (z : Nat) (frN : Nat → Nat) (leN : Nat → Nat) (fiN : Nat → Nat) (neN : Nat → Nat) (arN : Nat → Nat) (prN : Nat → Nat) (v : Nat) (t : Nat) (hd1 : d ≤ 6) (hz1 : z ≤ 4) (hO : rk_Ok d z fr le fi ne ar pr frN leN fiN neN arN prN) (h1 : v ≤ d) (h2 : t ≤ 6) : dk_Ri l yX4_isBelow wsX4_isBelow ({ frames := 0, cells := 0, slots := 0, locals := 0 }) (dC, dI) (dk_TR cI cII) [.ref (aR 0), .int (nI v), .int (nI t)] (dk_R cI cII aR cd (nI d) fr le fi ne (nI z) ar pr sp ep pt cf cp ch la fd bc bp bh ba fs) (fun r => r = rk_bl frN v t) := by
  refine dk_ofRz (cc := cX4_isBelow) (maxL := 4) (by decide) rfl (Nat.le_of_ble_eq_true rfl) ?_
  intro p e s m args below meth c ls Q H ⟨hx, hb, hml, hts, hown, hnm⟩ hK hP hl hret
  have hT : ∀ w ∈ dk_tbl, w.before args s = true := fun w h => hts w (List.mem_cons_of_mem _ h)
  have hown : s.vm.findClass RX4 = some m.cls := hown
  have hl : lv_has ls 4 [(0, .ref (aR 0)), (1, .int (nI v)), (2, .int (nI t))] := hl
  refine lv_iload_n hx hb dX4_isBelow_0 rfl (lv_at hl 1 rfl) ?_
  refine lv_istore_n (lv' := [(3, .int (nI v)), (0, .ref (aR 0)), (1, .int (nI v)), (2, .int (nI t))]) hx hb dX4_isBelow_1 rfl hl (by decide) rfl (fun ls hl => ?_)
  have lp2 : ∀ (n : Nat) (k : Nat) (ls : Array Slot), k ≤ n ∧ k ≤ d → rk_cl frN t n k = (rk_cl frN t v v) → lv_has ls 4 [(3, .int (nI k)), (0, .ref (aR 0)), (1, .int (nI v)), (2, .int (nI t))] → W p l e ({ frames := 0, cells := 0, slots := 0, locals := 0 }) s m args below meth c H [] 0 0 Q (F0 m 2 ls []) := by
    intro n
    induction n with
    | zero =>
      intro k ls hin2 hf2_0 hl
      refine lv_iload_n hx hb dX4_isBelow_2 rfl (lv_at hl 0 rfl) ?_
      refine lv_if_le (tgt := 21) hx hb dX4_isBelow_3 (by decide) (fun c_3 => ?_) (fun c_3 => ?_)
      · refine lv_iload_n hx hb dX4_isBelow_21 rfl (lv_at hl 0 rfl) ?_
        refine lv_iload_n hx hb dX4_isBelow_22 rfl (lv_at hl 3 rfl) ?_
        refine lv_icmp_ne (tgt := 30) hx hb dX4_isBelow_23 (by decide) (fun c_23 => ?_) (fun c_23 => ?_)
        · refine lv_iconst (v := 0) hx hb dX4_isBelow_30 (by decide) ?_
          exact hret _ _ _ rfl (rk_bl0 (k := k) hf2_0.symm (by omega) (by omega) c_23) dX4_isBelow_31
        · refine lv_iconst (v := 1) hx hb dX4_isBelow_26 (by decide) ?_
          refine lv_goto (tgt := 31) hx hb dX4_isBelow_27 (by decide) ?_
          exact hret _ _ _ rfl (rk_bl1 (k := k) hf2_0.symm (by omega) (by omega) c_23) dX4_isBelow_31
      · exact absurd (nI_le (a := k) (b := 0) (by omega) (by omega)) c_3
    | succ n ih2 =>
      intro k ls hin2 hf2_0 hl
      refine lv_iload_n hx hb dX4_isBelow_2 rfl (lv_at hl 0 rfl) ?_
      refine lv_if_le (tgt := 21) hx hb dX4_isBelow_3 (by decide) (fun c_3 => ?_) (fun c_3 => ?_)
      · refine lv_iload_n hx hb dX4_isBelow_21 rfl (lv_at hl 0 rfl) ?_
        refine lv_iload_n hx hb dX4_isBelow_22 rfl (lv_at hl 3 rfl) ?_
        refine lv_icmp_ne (tgt := 30) hx hb dX4_isBelow_23 (by decide) (fun c_23 => ?_) (fun c_23 => ?_)
        · refine lv_iconst (v := 0) hx hb dX4_isBelow_30 (by decide) ?_
          exact hret _ _ _ rfl (rk_bl0 (k := k) (by rw [← hf2_0]; show (if k = 0 then k else _) = k; rw [if_pos ((nI_leI (a := k) (b := 0) (by omega) (by omega)).mp c_3 |> Nat.le_zero.mp)]) (by omega) (by omega) c_23) dX4_isBelow_31
        · refine lv_iconst (v := 1) hx hb dX4_isBelow_26 (by decide) ?_
          refine lv_goto (tgt := 31) hx hb dX4_isBelow_27 (by decide) ?_
          exact hret _ _ _ rfl (rk_bl1 (k := k) (by rw [← hf2_0]; show (if k = 0 then k else _) = k; rw [if_pos ((nI_leI (a := k) (b := 0) (by omega) (by omega)).mp c_3 |> Nat.le_zero.mp)]) (by omega) (by omega) c_23) dX4_isBelow_31
      · refine lv_iload_n hx hb dX4_isBelow_6 rfl (lv_at hl 0 rfl) ?_
        refine lv_iload_n hx hb dX4_isBelow_7 rfl (lv_at hl 3 rfl) ?_
        refine lv_icmp_eq (tgt := 21) hx hb dX4_isBelow_8 (by decide) (fun c_8 => ?_) (fun c_8 => ?_)
        · refine lv_iload_n hx hb dX4_isBelow_21 rfl (lv_at hl 0 rfl) ?_
          refine lv_iload_n hx hb dX4_isBelow_22 rfl (lv_at hl 3 rfl) ?_
          refine lv_icmp_ne (tgt := 30) hx hb dX4_isBelow_23 (by decide) (fun c_23 => ?_) (fun c_23 => ?_)
          · refine lv_iconst (v := 0) hx hb dX4_isBelow_30 (by decide) ?_
            exact hret _ _ _ rfl (rk_bl0 (k := k) (by rw [← hf2_0]; show (if k = 0 then k else if k = t then k else _) = k; rw [if_neg (fun q => c_3 (by rw [q]; exact Int32.le_refl _)), if_pos ((nI_eq (by omega) (by omega)).mp c_8)]) (by omega) (by omega) c_23) dX4_isBelow_31
          · refine lv_iconst (v := 1) hx hb dX4_isBelow_26 (by decide) ?_
            refine lv_goto (tgt := 31) hx hb dX4_isBelow_27 (by decide) ?_
            exact hret _ _ _ rfl (rk_bl1 (k := k) (by rw [← hf2_0]; show (if k = 0 then k else if k = t then k else _) = k; rw [if_neg (fun q => c_3 (by rw [q]; exact Int32.le_refl _)), if_pos ((nI_eq (by omega) (by omega)).mp c_8)]) (by omega) (by omega) c_23) dX4_isBelow_31
        · have hk0 : 0 < k := Nat.pos_of_ne_zero (fun h => c_3 (by rw [h]; exact Int32.le_refl _))
          obtain ⟨hq1, hq2⟩ := hO.fr (i := k) hk0 (by omega)
          refine lv_aload_n hx hb dX4_isBelow_11 rfl (lv_at hl 1 rfl) ?_
          refine va_get (D := (dC, dI)) (ci := 4) (v := .ref (aR 1)) (C := RX4) (T := TX4) (N := 22) hx hb hT in_X4 hown hK hP 0 rfl rfl 2 (by decide) (hT _ mw_463) (fun _ h9 => h9) rfl dX4_isBelow_12 ?_
          refine lv_iload_n hx hb dX4_isBelow_15 rfl (lv_at hl 0 rfl) ?_
          refine dk_iald (q0 := 1) (t0 := 0) (i := k) hx hb hK hP rfl rfl rfl (by omega) (by decide) dX4_isBelow_16 ?_
          refine lv_topi (fun y9 e9 => ?_)
          obtain rfl : y9 = nI (frN k) := by rw [e9]; exact hq1
          refine lv_istore_n (lv' := [(3, .int (nI (frN k))), (0, .ref (aR 0)), (1, .int (nI v)), (2, .int (nI t))]) hx hb dX4_isBelow_17 rfl hl (by decide) rfl (fun ls hl => ?_)
          refine lv_goto (tgt := 2) hx hb dX4_isBelow_18 (by decide) ?_
          exact ih2 (frN k) _ (by omega) (by rw [← hf2_0]; show _ = (if k = 0 then k else if k = t then k else rk_cl frN t n (frN k)); rw [if_neg (by omega), if_neg (fun q => c_8 (by rw [q]))])  (lv_sub hl [0, 1, 2, 3] rfl)
  exact lp2 v v _ (by omega) rfl (lv_sub hl [0, 1, 2, 3] rfl)
