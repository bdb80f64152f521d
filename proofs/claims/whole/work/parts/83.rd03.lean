set_option maxHeartbeats 4000000 in
set_option maxRecDepth 100000 in
/-- DuctSizesModel.given -/
theorem c_X4_given (l : Launch) (dC : Nat → ClassId) (dI : Nat → Nat → Nat) (cI cII : ClassId) (aR : Nat → Nat) (cd : Int32) (fr : Nat → Int32) (le : Nat → Int32) (fi : Nat → Int32) (ne : Nat → Int32) (ar : Nat → Int32) (pr : Nat → Int32) (sp : Int32) (ep : Int32) (cf : Nat → Int32) (cp : Nat → Int32) (ch : Nat → Int32) (la : Nat → Int64) (fd : Int32) (bc : Int64) (bp : Int64) (bh : Nat → Int32) (ba : Nat → Int64) (fs : Nat → Int64) (d : Nat) (z : Nat) (k : Nat) (frN : Nat → Nat) (leN : Nat → Nat) (fiN : Nat → Nat) (neN : Nat → Nat) (arN : Nat → Nat) (prN : Nat → Nat) (hd1 : d ≤ 6) (hz1 : z ≤ 4) (hO : rk_Ok d z fr le fi ne ar pr frN leN fiN neN arN prN) (hk1 : k ≤ 5) (hcv : ∀ i, 0 < i → i < k → ¬ cf i - cf (i - 1) = 0) : dk_Ri l yX4_given wsX4_given ({ frames := 0, cells := 0, slots := 0, locals := 0 }) (dC, dI) (dk_TR cI cII) [.ref (aR 0)] (dk_R cI cII aR cd (nI d) fr le fi ne (nI z) ar pr sp ep (nI k) cf cp ch la fd bc bp bh ba fs) (fun r => r = dk_gives cf cp k (nI (rk_tot neN d 1 0))) := by
  refine dk_ofRi (cc := cX4_given) (maxL := 5) (by decide) rfl (Nat.le_of_ble_eq_true rfl) ?_
  intro p e s m args below meth c ls Q H ⟨hx, hb, hml, hts, hown, hnm⟩ hK hP hl hret
  have hT : ∀ w ∈ dk_tbl, w.before args s = true := fun w h => hts w (List.mem_cons_of_mem _ h)
  have hown : s.vm.findClass RX4 = some m.cls := hown
  have hl : lv_has ls 5 [(0, .ref (aR 0))] := hl
  refine lv_aload_n hx hb dX4_given_0 rfl (lv_at hl 0 rfl) ?_
  refine va_get (D := (dC, dI)) (ci := 4) (v := .int (nI k)) (C := RX4) (T := TX4) (N := 22) hx hb hT in_X4 hown hK hP 0 rfl rfl 11 (by decide) (hT _ mw_472) (fun _ h9 => h9) rfl dX4_given_1 ?_
  refine lv_if_ne (tgt := 11) hx hb dX4_given_4 (by decide) (fun c_4 => ?_) (fun c_4 => ?_)
  · refine lv_iconst (v := 0) hx hb dX4_given_11 (by decide) ?_
    refine lv_istore_n (lv' := [(1, .int 0), (0, .ref (aR 0))]) hx hb dX4_given_12 rfl hl (by decide) rfl (fun ls hl => ?_)
    refine lv_iconst (v := 1) hx hb dX4_given_13 (by decide) ?_
    refine lv_istore_n (lv' := [(2, .int 1), (1, .int 0), (0, .ref (aR 0))]) hx hb dX4_given_14 rfl hl (by decide) rfl (fun ls hl => ?_)
    have lp15 : ∀ (n i : Nat) (s0 : Nat) (ls : Array Slot), i + n = d + 1 ∧ 1 ≤ i → rk_tot neN n i s0 = (rk_tot neN d 1 0) → lv_has ls 5 [(2, .int (nI i)), (1, .int (nI s0)), (0, .ref (aR 0))] → W p l e ({ frames := 0, cells := 0, slots := 0, locals := 0 }) s m args below meth c H [] 0 0 Q (F0 m 15 ls []) := by
      intro n
      induction n with
      | zero =>
        intro i s0 ls hin15 hf15_0 hl
        have hf15_0 : s0 = (rk_tot neN d 1 0) := hf15_0
        subst hf15_0
        refine lv_iload_n hx hb dX4_given_15 rfl (lv_at hl 0 rfl) ?_
        refine lv_aload_n hx hb dX4_given_16 rfl (lv_at hl 2 rfl) ?_
        refine va_get (D := (dC, dI)) (ci := 4) (v := .int (nI d)) (C := RX4) (T := TX4) (N := 22) hx hb hT in_X4 hown hK hP 0 rfl rfl 1 (by decide) (hT _ mw_462) (fun _ h9 => h9) rfl dX4_given_17 ?_
        refine lv_icmp_gt (tgt := 38) hx hb dX4_given_20 (by decide) (fun c_20 => ?_) (fun c_20 => ?_)
        · have hk0 : 0 < k := Nat.pos_of_ne_zero (fun h => c_4 (by rw [h]; rfl))
          refine lv_iload_n hx hb dX4_given_38 rfl (lv_at hl 1 rfl) ?_
          refine lv_aload_n hx hb dX4_given_39 rfl (lv_at hl 2 rfl) ?_
          refine va_get (D := (dC, dI)) (ci := 4) (v := .ref (aR 7)) (C := RX4) (T := TX4) (N := 22) hx hb hT in_X4 hown hK hP 0 rfl rfl 12 (by decide) (hT _ mw_473) (fun _ h9 => h9) rfl dX4_given_40 ?_
          refine lv_iconst (v := 0) hx hb dX4_given_43 (by decide) ?_
          refine dk_iald (q0 := 7) (t0 := 0) (i := 0) hx hb hK hP rfl rfl (by decide) (by omega) (by decide) dX4_given_44 ?_
          refine lv_icmp_gt (tgt := 55) hx hb dX4_given_45 (by decide) (fun c_45 => ?_) (fun c_45 => ?_)
          · refine lv_iconst (v := 1) hx hb dX4_given_55 (by decide) ?_
            refine lv_istore_n (lv' := [(2, .int 1), (1, .int (nI (rk_tot neN d 1 0))), (0, .ref (aR 0))]) hx hb dX4_given_56 rfl hl (by decide) rfl (fun ls hl => ?_)
            have lp57 : ∀ (n2 j : Nat) (ls : Array Slot), j + n2 = k ∧ 0 < j → dk_at cf cp (nI (rk_tot neN d 1 0)) n2 j = (dk_at cf cp (nI (rk_tot neN d 1 0)) (k - 1) 1) → lv_has ls 5 [(2, .int (nI j)), (1, .int (nI (rk_tot neN d 1 0))), (0, .ref (aR 0))] → W p l e ({ frames := 0, cells := 0, slots := 0, locals := 0 }) s m args below meth c H [] 0 0 Q (F0 m 57 ls []) := by
              intro n2
              induction n2 with
              | zero =>
                intro j ls hin57 hf57_0 hl
                refine lv_iload_n hx hb dX4_given_57 rfl (lv_at hl 0 rfl) ?_
                refine lv_aload_n hx hb dX4_given_58 rfl (lv_at hl 2 rfl) ?_
                refine va_get (D := (dC, dI)) (ci := 4) (v := .int (nI k)) (C := RX4) (T := TX4) (N := 22) hx hb hT in_X4 hown hK hP 0 rfl rfl 11 (by decide) (hT _ mw_472) (fun _ h9 => h9) rfl dX4_given_59 ?_
                refine lv_icmp_ge (tgt := 138) hx hb dX4_given_62 (by decide) (fun c_62 => ?_) (fun c_62 => ?_)
                · refine lv_iconst (v := 0) hx hb dX4_given_138 (by decide) ?_
                  exact hret _ _ _ (by unfold dk_gives; rw [if_neg (show ¬ nI k = 0 from c_4)]; rw [if_pos c_45]; exact hf57_0) dX4_given_139
                · exact absurd (nI_le (by omega) (by omega)) c_62
              | succ n2 ih57 =>
                intro j ls hin57 hf57_0 hl
                refine lv_iload_n hx hb dX4_given_57 rfl (lv_at hl 0 rfl) ?_
                refine lv_aload_n hx hb dX4_given_58 rfl (lv_at hl 2 rfl) ?_
                refine va_get (D := (dC, dI)) (ci := 4) (v := .int (nI k)) (C := RX4) (T := TX4) (N := 22) hx hb hT in_X4 hown hK hP 0 rfl rfl 11 (by decide) (hT _ mw_472) (fun _ h9 => h9) rfl dX4_given_59 ?_
                refine lv_icmp_ge (tgt := 138) hx hb dX4_given_62 (by decide) (fun c_62 => ?_) (fun c_62 => ?_)
                · exact absurd c_62 (nI_ge (by omega) (by omega))
                · refine lv_iload_n hx hb dX4_given_65 rfl (lv_at hl 1 rfl) ?_
                  refine lv_aload_n hx hb dX4_given_66 rfl (lv_at hl 2 rfl) ?_
                  refine va_get (D := (dC, dI)) (ci := 4) (v := .ref (aR 7)) (C := RX4) (T := TX4) (N := 22) hx hb hT in_X4 hown hK hP 0 rfl rfl 12 (by decide) (hT _ mw_473) (fun _ h9 => h9) rfl dX4_given_67 ?_
                  refine lv_iload_n hx hb dX4_given_70 rfl (lv_at hl 0 rfl) ?_
                  refine dk_iald (q0 := 7) (t0 := 0) (i := j) hx hb hK hP rfl rfl rfl (by omega) (by decide) dX4_given_71 ?_
                  refine lv_icmp_gt (tgt := 132) hx hb dX4_given_72 (by decide) (fun c_72 => ?_) (fun c_72 => ?_)
                  · refine lv_iinc (v := (nI (j + 1))) (lv' := [(2, .int (nI (j + 1))), (1, .int (nI (rk_tot neN d 1 0))), (0, .ref (aR 0))]) hx hb dX4_given_132 hl (k := 0) rfl (nI_1 j) (by decide) rfl (fun ls hl => ?_)
                    refine lv_goto (tgt := 57) hx hb dX4_given_135 (by decide) ?_
                    exact ih57 (j + 1) _ (by omega) (by rw [← hf57_0]; show _ = (if cf j < nI (rk_tot neN d 1 0) then dk_at cf cp (nI (rk_tot neN d 1 0)) n2 (j + 1) else dk_pb cf cp j (nI (rk_tot neN d 1 0))); rw [if_pos c_72])  (lv_sub hl [0, 1, 2] rfl)
                  · refine lv_iload_n hx hb dX4_given_75 rfl (lv_at hl 0 rfl) ?_
                    refine lv_iconst (v := 1) hx hb dX4_given_76 (by decide) ?_
                    refine lv_isub hx hb dX4_given_77 ?_
                    refine lv_topi (fun y9 e9 => ?_)
                    obtain rfl : y9 = nI (j - 1) := by rw [e9]; exact (dk_m1 (by omega))
                    refine lv_istore_n (lv' := [(3, .int (nI (j - 1))), (2, .int (nI j)), (1, .int (nI (rk_tot neN d 1 0))), (0, .ref (aR 0))]) hx hb dX4_given_78 rfl hl (by decide) rfl (fun ls hl => ?_)
                    refine lv_aload_n hx hb dX4_given_79 rfl (lv_at hl 3 rfl) ?_
                    refine va_get (D := (dC, dI)) (ci := 4) (v := .ref (aR 7)) (C := RX4) (T := TX4) (N := 22) hx hb hT in_X4 hown hK hP 0 rfl rfl 12 (by decide) (hT _ mw_473) (fun _ h9 => h9) rfl dX4_given_80 ?_
                    refine lv_iload_n hx hb dX4_given_83 rfl (lv_at hl 1 rfl) ?_
                    refine dk_iald (q0 := 7) (t0 := 0) (i := j) hx hb hK hP rfl rfl rfl (by omega) (by decide) dX4_given_84 ?_
                    refine lv_aload_n hx hb dX4_given_85 rfl (lv_at hl 3 rfl) ?_
                    refine va_get (D := (dC, dI)) (ci := 4) (v := .ref (aR 7)) (C := RX4) (T := TX4) (N := 22) hx hb hT in_X4 hown hK hP 0 rfl rfl 12 (by decide) (hT _ mw_473) (fun _ h9 => h9) rfl dX4_given_86 ?_
                    refine lv_iload_n hx hb dX4_given_89 rfl (lv_at hl 0 rfl) ?_
                    refine dk_iald (q0 := 7) (t0 := 0) (i := j - 1) hx hb hK hP rfl rfl rfl (by omega) (by decide) dX4_given_90 ?_
                    refine lv_isub hx hb dX4_given_91 ?_
                    refine lv_istore (lv' := [(4, .int ((cf j) - (cf (j - 1)))), (3, .int (nI (j - 1))), (2, .int (nI j)), (1, .int (nI (rk_tot neN d 1 0))), (0, .ref (aR 0))]) hx hb dX4_given_92 hl (by decide) rfl (fun ls hl => ?_)
                    refine lv_aload_n hx hb dX4_given_94 rfl (lv_at hl 4 rfl) ?_
                    refine va_get (D := (dC, dI)) (ci := 4) (v := .ref (aR 8)) (C := RX4) (T := TX4) (N := 22) hx hb hT in_X4 hown hK hP 0 rfl rfl 13 (by decide) (hT _ mw_474) (fun _ h9 => h9) rfl dX4_given_95 ?_
                    refine lv_iload_n hx hb dX4_given_98 rfl (lv_at hl 1 rfl) ?_
                    refine dk_iald (q0 := 8) (t0 := 0) (i := j - 1) hx hb hK hP rfl rfl rfl (by omega) (by decide) dX4_given_99 ?_
                    refine lv_aload_n hx hb dX4_given_100 rfl (lv_at hl 4 rfl) ?_
                    refine va_get (D := (dC, dI)) (ci := 4) (v := .ref (aR 8)) (C := RX4) (T := TX4) (N := 22) hx hb hT in_X4 hown hK hP 0 rfl rfl 13 (by decide) (hT _ mw_474) (fun _ h9 => h9) rfl dX4_given_101 ?_
                    refine lv_iload_n hx hb dX4_given_104 rfl (lv_at hl 1 rfl) ?_
                    refine dk_iald (q0 := 8) (t0 := 0) (i := j - 1) hx hb hK hP rfl rfl rfl (by omega) (by decide) dX4_given_105 ?_
                    refine lv_aload_n hx hb dX4_given_106 rfl (lv_at hl 4 rfl) ?_
                    refine va_get (D := (dC, dI)) (ci := 4) (v := .ref (aR 8)) (C := RX4) (T := TX4) (N := 22) hx hb hT in_X4 hown hK hP 0 rfl rfl 13 (by decide) (hT _ mw_474) (fun _ h9 => h9) rfl dX4_given_107 ?_
                    refine lv_iload_n hx hb dX4_given_110 rfl (lv_at hl 2 rfl) ?_
                    refine dk_iald (q0 := 8) (t0 := 0) (i := j) hx hb hK hP rfl rfl rfl (by omega) (by decide) dX4_given_111 ?_
                    refine lv_isub hx hb dX4_given_112 ?_
                    refine lv_iload_n hx hb dX4_given_113 rfl (lv_at hl 3 rfl) ?_
                    refine lv_aload_n hx hb dX4_given_114 rfl (lv_at hl 4 rfl) ?_
                    refine va_get (D := (dC, dI)) (ci := 4) (v := .ref (aR 7)) (C := RX4) (T := TX4) (N := 22) hx hb hT in_X4 hown hK hP 0 rfl rfl 12 (by decide) (hT _ mw_473) (fun _ h9 => h9) rfl dX4_given_115 ?_
                    refine lv_iload_n hx hb dX4_given_118 rfl (lv_at hl 1 rfl) ?_
                    refine dk_iald (q0 := 7) (t0 := 0) (i := j - 1) hx hb hK hP rfl rfl rfl (by omega) (by decide) dX4_given_119 ?_
                    refine lv_isub hx hb dX4_given_120 ?_
                    refine lv_imul hx hb dX4_given_121 ?_
                    refine lv_iload hx hb dX4_given_122 (lv_at hl 0 rfl) ?_
                    refine lv_iadd hx hb dX4_given_124 ?_
                    refine lv_iconst (v := 1) hx hb dX4_given_125 (by decide) ?_
                    refine lv_isub hx hb dX4_given_126 ?_
                    refine lv_iload hx hb dX4_given_127 (lv_at hl 0 rfl) ?_
                    refine lv_idiv hx hb dX4_given_129 (hcv j (by omega) (by omega)) ?_
                    refine lv_isub hx hb dX4_given_130 ?_
                    exact hret _ _ _ (by unfold dk_gives; rw [if_neg (show ¬ nI k = 0 from c_4)]; rw [if_pos c_45, ← hf57_0]; unfold dk_at; rw [if_neg c_72]; rfl) dX4_given_131
            have hk0 : 0 < k := Nat.pos_of_ne_zero (fun h => c_4 (by rw [h]; rfl))
            exact lp57 (k - 1) 1 _ (by omega) rfl (lv_sub hl [0, 1, 2] rfl)
          · refine lv_aload_n hx hb dX4_given_48 rfl (lv_at hl 2 rfl) ?_
            refine va_get (D := (dC, dI)) (ci := 4) (v := .ref (aR 8)) (C := RX4) (T := TX4) (N := 22) hx hb hT in_X4 hown hK hP 0 rfl rfl 13 (by decide) (hT _ mw_474) (fun _ h9 => h9) rfl dX4_given_49 ?_
            refine lv_iconst (v := 0) hx hb dX4_given_52 (by decide) ?_
            refine dk_iald (q0 := 8) (t0 := 0) (i := 0) hx hb hK hP rfl rfl (by decide) (by omega) (by decide) dX4_given_53 ?_
            exact hret _ _ _ (by unfold dk_gives; rw [if_neg (show ¬ nI k = 0 from c_4)]; rw [if_neg c_45]) dX4_given_54
        · exact absurd (nI_lt (by omega) (by omega)) c_20
      | succ n ih15 =>
        intro i s0 ls hin15 hf15_0 hl
        refine lv_iload_n hx hb dX4_given_15 rfl (lv_at hl 0 rfl) ?_
        refine lv_aload_n hx hb dX4_given_16 rfl (lv_at hl 2 rfl) ?_
        refine va_get (D := (dC, dI)) (ci := 4) (v := .int (nI d)) (C := RX4) (T := TX4) (N := 22) hx hb hT in_X4 hown hK hP 0 rfl rfl 1 (by decide) (hT _ mw_462) (fun _ h9 => h9) rfl dX4_given_17 ?_
        refine lv_icmp_gt (tgt := 38) hx hb dX4_given_20 (by decide) (fun c_20 => ?_) (fun c_20 => ?_)
        · exact absurd c_20 (nI_nlt (by omega) (by omega))
        · refine lv_iload_n hx hb dX4_given_23 rfl (lv_at hl 1 rfl) ?_
          refine lv_aload_n hx hb dX4_given_24 rfl (lv_at hl 2 rfl) ?_
          refine va_get (D := (dC, dI)) (ci := 4) (v := .ref (aR 4)) (C := RX4) (T := TX4) (N := 22) hx hb hT in_X4 hown hK hP 0 rfl rfl 5 (by decide) (hT _ mw_466) (fun _ h9 => h9) rfl dX4_given_25 ?_
          refine lv_iload_n hx hb dX4_given_28 rfl (lv_at hl 0 rfl) ?_
          refine dk_iald (q0 := 4) (t0 := 0) (i := i) hx hb hK hP rfl rfl rfl (by omega) (by decide) dX4_given_29 ?_
          refine lv_iadd hx hb dX4_given_30 ?_
          refine lv_topi (fun y9 e9 => ?_)
          obtain rfl : y9 = nI (s0 + neN i) := by rw [e9]; exact (by rw [(hO.ne (by omega) (by omega)).1, nI_add])
          refine lv_istore_n (lv' := [(1, .int (nI (s0 + neN i))), (2, .int (nI i)), (0, .ref (aR 0))]) hx hb dX4_given_31 rfl hl (by decide) rfl (fun ls hl => ?_)
          refine lv_iinc (v := (nI (i + 1))) (lv' := [(2, .int (nI (i + 1))), (1, .int (nI (s0 + neN i))), (0, .ref (aR 0))]) hx hb dX4_given_32 hl (k := 1) rfl (nI_1 i) (by decide) rfl (fun ls hl => ?_)
          refine lv_goto (tgt := 15) hx hb dX4_given_35 (by decide) ?_
          exact ih15 (i + 1) (s0 + neN i) _ (by omega) (by rw [← hf15_0]; rfl)  (lv_sub hl [0, 1, 2] rfl)
    exact lp15 d 1 0 _ (by omega) rfl (lv_sub hl [0, 1, 2] rfl)
  · refine lv_sipush (v := 300) hx hb dX4_given_7 (by decide) ?_
    exact hret _ _ _ (by unfold dk_gives; rw [if_pos (show nI k = 0 from c_4)]) dX4_given_10
