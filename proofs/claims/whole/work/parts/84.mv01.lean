set_option maxHeartbeats 4000000 in
set_option maxRecDepth 100000 in
/-- DuctSizesModel.look -/
theorem c_X4_look (l : Launch) (dC : Nat → ClassId) (dI : Nat → Nat → Nat) (cI cII : ClassId) (aR : Nat → Nat) (cd : Int32) (fr : Nat → Int32) (le : Nat → Int32) (fi : Nat → Int32) (ne : Nat → Int32) (ar : Nat → Int32) (pr : Nat → Int32) (sp : Int32) (ep : Int32) (pt : Int32) (cf : Nat → Int32) (cp : Nat → Int32) (ch : Nat → Int32) (la : Nat → Int64) (fd : Int32) (bc : Int64) (bp : Int64) (bh : Nat → Int32) (ba : Nat → Int64) (fs : Nat → Int64) (d : Nat) (z : Nat) (frN : Nat → Nat) (leN : Nat → Nat) (fiN : Nat → Nat) (neN : Nat → Nat) (arN : Nat → Nat) (prN : Nat → Nat) (w : Nat) (hz : Nat) (hd1 : d ≤ 6) (hz1 : z ≤ 4) (hO : rk_Ok d z fr le fi ne ar pr frN leN fiN neN arN prN) (hz0 : 0 < d → 0 < z) (hw : w < 5000) : dk_Ml l yX4_look wsX4_look ({ frames := 0, cells := 0, slots := 0, locals := 0 }) (dC, dI) (dk_TR cI cII) [.ref (aR 0), .int (nI w)] (dk_R cI cII aR cd (nI d) fr le fi ne (nI z) ar pr sp ep pt cf cp ch la fd bc bp bh ba fs) hz (fun (r : Int64) (_ : Unit) => r = (rk_lk fs (rk_cN z d w) frN d 1 la 0).2) (fun _ => dk_R cI cII aR cd (nI d) fr le fi ne (nI z) ar pr sp ep pt cf cp (rk_dg z d ch w) ((rk_lk fs (rk_cN z d w) frN d 1 la 0).1) fd bc bp bh ba fs) 0 0 := by
  refine dk_ofMl (cc := cX4_look) (maxL := 8) (by decide) rfl (Nat.le_of_ble_eq_true rfl) ?_
  intro p e s m args below meth c A ls Q ⟨hx, hb, hml, hts, hown, hnm⟩ hsz hK hP hD hA hS hl hret
  have hT : ∀ w ∈ dk_tbl, w.before args s = true := fun w h => hts w (List.mem_cons_of_mem _ h)
  have hown : s.vm.findClass RX4 = some m.cls := hown
  have hl : lv_has ls 8 [(0, .ref (aR 0)), (1, .int (nI w))] := hl
  refine lv_iload_n hx hb dX4_look_0 rfl (lv_at hl 1 rfl) ?_
  refine lv_istore_n (lv' := [(2, .int (nI w)), (0, .ref (aR 0)), (1, .int (nI w))]) hx hb dX4_look_1 rfl hl (by decide) rfl (fun ls hl => ?_)
  refine lv_aload_n hx hb dX4_look_2 rfl (lv_at hl 1 rfl) ?_
  refine va_get (D := (dC, dI)) (ci := 4) (v := .int (nI d)) (C := RX4) (T := TX4) (N := 22) hx hb hT in_X4 hown hK hP 0 rfl rfl 1 (by decide) (hT _ mw_462) (fun _ h9 => h9) rfl dX4_look_3 ?_
  refine lv_istore_n (lv' := [(3, .int (nI d)), (2, .int (nI w)), (0, .ref (aR 0)), (1, .int (nI w))]) hx hb dX4_look_6 rfl hl (by decide) rfl (fun ls hl => ?_)
  have lp7 : ∀ (n : Nat) (f : Nat → Int32) (r : Nat) (H : Heap) (locs : List Loc) (ls : Array Slot), n ≤ d ∧ r < 5000 → rk_dg z n f r = (rk_dg z d ch w) → va_P (dC, dI) vwCl (dk_R cI cII aR cd (nI d) fr le fi ne (nI z) ar pr sp ep pt cf cp f la fd bc bp bh ba fs) H → va_D A (dk_R cI cII aR cd (nI d) fr le fi ne (nI z) ar pr sp ep pt cf cp f la fd bc bp bh ba fs) → va_S A s.heap H locs → lv_has ls 8 [(3, .int (nI n)), (2, .int (nI r)), (0, .ref (aR 0)), (1, .int (nI w))] → W p l e ({ frames := 0, cells := 0, slots := 0, locals := 0 }) s m args below meth c H locs 0 0 Q (F0 m 7 ls []) := by
    intro n
    induction n with
    | zero =>
      intro f r H locs ls hin7 hf7_0 hP hD hS hl
      have hf7_0 : f = (rk_dg z d ch w) := hf7_0
      subst hf7_0
      refine lv_iload_n hx hb dX4_look_7 rfl (lv_at hl 0 rfl) ?_
      refine lv_if_le (tgt := 36) hx hb dX4_look_8 (by decide) (fun c_8 => ?_) (fun c_8 => ?_)
      · have hcN := rk_dg_in (w := w) (f := ch) hz0
        refine lv_lconst (v := 0) hx hb dX4_look_36 (by decide) ?_
        refine lv_lstore_n (lv' := [(3, .long 0), (2, .int (nI r)), (0, .ref (aR 0)), (1, .int (nI w))]) hx hb dX4_look_37 rfl hl (by decide) rfl (fun ls hl => ?_)
        refine lv_iconst (v := 1) hx hb dX4_look_38 (by decide) ?_
        refine lv_istore (lv' := [(5, .int 1), (3, .long 0), (2, .int (nI r)), (0, .ref (aR 0)), (1, .int (nI w))]) hx hb dX4_look_39 hl (by decide) rfl (fun ls hl => ?_)
        have lp41 : ∀ (n2 i : Nat) (A1 : Nat → Int64) (g : Int64) (H : Heap) (locs : List Loc) (ls : Array Slot), i + n2 = d + 1 ∧ 1 ≤ i → rk_lk fs (rk_cN z d w) frN n2 i A1 g = (rk_lk fs (rk_cN z d w) frN d 1 la 0) → va_P (dC, dI) vwCl (dk_R cI cII aR cd (nI d) fr le fi ne (nI z) ar pr sp ep pt cf cp (rk_dg z d ch w) A1 fd bc bp bh ba fs) H → va_D A (dk_R cI cII aR cd (nI d) fr le fi ne (nI z) ar pr sp ep pt cf cp (rk_dg z d ch w) A1 fd bc bp bh ba fs) → va_S A s.heap H locs → lv_has ls 8 [(5, .int (nI i)), (3, .long g), (2, .int (nI r)), (0, .ref (aR 0)), (1, .int (nI w))] → W p l e ({ frames := 0, cells := 0, slots := 0, locals := 0 }) s m args below meth c H locs 0 0 Q (F0 m 41 ls []) := by
          intro n2
          induction n2 with
          | zero =>
            intro i A1 g H locs ls hin41 hf41_0 hP hD hS hl
            refine lv_iload hx hb dX4_look_41 (lv_at hl 0 rfl) ?_
            refine lv_aload_n hx hb dX4_look_43 rfl (lv_at hl 3 rfl) ?_
            refine va_get (D := (dC, dI)) (ci := 4) (v := .int (nI d)) (C := RX4) (T := TX4) (N := 22) hx hb hT in_X4 hown hK hP 0 rfl rfl 1 (by decide) (hT _ mw_462) (fun _ h9 => h9) rfl dX4_look_44 ?_
            refine lv_icmp_gt (tgt := 132) hx hb dX4_look_47 (by decide) (fun c_47 => ?_) (fun c_47 => ?_)
            · refine lv_lload_n hx hb dX4_look_132 rfl (lv_at hl 1 rfl) ?_
              have hf9 : (A1, g) = (rk_lk fs (rk_cN z d w) frN d 1 la 0) := hf41_0
              rw [← hf9] at hret
              exact hret _ () _ _ _ _ rfl hP hD hS dX4_look_133
            · exact absurd (nI_lt (by omega) (by omega)) c_47
          | succ n2 ih41 =>
            intro i A1 g H locs ls hin41 hf41_0 hP hD hS hl
            refine lv_iload hx hb dX4_look_41 (lv_at hl 0 rfl) ?_
            refine lv_aload_n hx hb dX4_look_43 rfl (lv_at hl 3 rfl) ?_
            refine va_get (D := (dC, dI)) (ci := 4) (v := .int (nI d)) (C := RX4) (T := TX4) (N := 22) hx hb hT in_X4 hown hK hP 0 rfl rfl 1 (by decide) (hT _ mw_462) (fun _ h9 => h9) rfl dX4_look_44 ?_
            refine lv_icmp_gt (tgt := 132) hx hb dX4_look_47 (by decide) (fun c_47 => ?_) (fun c_47 => ?_)
            · exact absurd c_47 (nI_nlt (by omega) (by omega))
            · obtain ⟨hc1, hc2⟩ := hcN i (by omega) (by omega)
              obtain ⟨hq1, hq2⟩ := hO.fr (i := i) (by omega) (by omega)
              refine lv_aload_n hx hb dX4_look_50 rfl (lv_at hl 3 rfl) ?_
              refine va_get (D := (dC, dI)) (ci := 4) (v := .ref (aR 13)) (C := RX4) (T := TX4) (N := 22) hx hb hT in_X4 hown hK hP 0 rfl rfl 21 (by decide) (hT _ mw_482) (fun _ h9 => h9) rfl dX4_look_51 ?_
              refine lv_iconst (v := 4) hx hb dX4_look_54 (by decide) ?_
              refine lv_iload hx hb dX4_look_55 (lv_at hl 0 rfl) ?_
              refine lv_imul hx hb dX4_look_57 ?_
              refine lv_aload_n hx hb dX4_look_58 rfl (lv_at hl 3 rfl) ?_
              refine va_get (D := (dC, dI)) (ci := 4) (v := .ref (aR 9)) (C := RX4) (T := TX4) (N := 22) hx hb hT in_X4 hown hK hP 0 rfl rfl 14 (by decide) (hT _ mw_475) (fun _ h9 => h9) rfl dX4_look_59 ?_
              refine lv_iload hx hb dX4_look_62 (lv_at hl 0 rfl) ?_
              refine dk_iald (q0 := 9) (t0 := 0) (i := i) hx hb hK hP rfl rfl rfl (by omega) (by decide) dX4_look_64 ?_
              refine lv_iadd hx hb dX4_look_65 ?_
              refine lv_topi (fun y9 e9 => ?_)
              obtain rfl : y9 = nI (4 * i + rk_cN z d w i) := by rw [e9]; exact (by rw [hc1, show (4 : Int32) = nI 4 from rfl, pk_mul, nI_add])
              refine dk_lald (q0 := 13) (t0 := 1) (i := 4 * i + rk_cN z d w i) hx hb hK hP rfl rfl rfl (by omega) (by decide) dX4_look_66 ?_
              refine lv_lstore (lv' := [(6, .long (fs (4 * i + rk_cN z d w i))), (5, .int (nI i)), (3, .long g), (2, .int (nI r)), (0, .ref (aR 0)), (1, .int (nI w))]) hx hb dX4_look_67 hl (by decide) rfl (fun ls hl => ?_)
              refine lv_lload hx hb dX4_look_69 (lv_at hl 0 rfl) ?_
              refine lv_lconst (v := 0) hx hb dX4_look_71 (by decide) ?_
              refine dk_lif_ge (tgt := 80) hx hb dX4_look_72 dX4_look_73 (by decide) (fun c_73 => ?_) (fun c_73 => ?_)
              · refine lv_aload_n hx hb dX4_look_80 rfl (lv_at hl 4 rfl) ?_
                refine va_get (D := (dC, dI)) (ci := 4) (v := .ref (aR 10)) (C := RX4) (T := TX4) (N := 22) hx hb hT in_X4 hown hK hP 0 rfl rfl 15 (by decide) (hT _ mw_476) (fun _ h9 => h9) rfl dX4_look_81 ?_
                refine lv_iload hx hb dX4_look_84 (lv_at hl 1 rfl) ?_
                refine lv_aload_n hx hb dX4_look_86 rfl (lv_at hl 4 rfl) ?_
                refine va_get (D := (dC, dI)) (ci := 4) (v := .ref (aR 10)) (C := RX4) (T := TX4) (N := 22) hx hb hT in_X4 hown hK hP 0 rfl rfl 15 (by decide) (hT _ mw_476) (fun _ h9 => h9) rfl dX4_look_87 ?_
                refine lv_aload_n hx hb dX4_look_90 rfl (lv_at hl 4 rfl) ?_
                refine va_get (D := (dC, dI)) (ci := 4) (v := .ref (aR 1)) (C := RX4) (T := TX4) (N := 22) hx hb hT in_X4 hown hK hP 0 rfl rfl 2 (by decide) (hT _ mw_463) (fun _ h9 => h9) rfl dX4_look_91 ?_
                refine lv_iload hx hb dX4_look_94 (lv_at hl 1 rfl) ?_
                refine dk_iald (q0 := 1) (t0 := 0) (i := i) hx hb hK hP rfl rfl rfl (by omega) (by decide) dX4_look_96 ?_
                refine lv_topi (fun y9 e9 => ?_)
                obtain rfl : y9 = nI (frN i) := by rw [e9]; exact hq1
                refine dk_lald (q0 := 10) (t0 := 1) (i := frN i) hx hb hK hP rfl rfl rfl (by omega) (by decide) dX4_look_97 ?_
                refine lv_lload hx hb dX4_look_98 (lv_at hl 0 rfl) ?_
                refine lv_ladd hx hb dX4_look_100 ?_
                refine dk_last (q0 := 10) (t0 := 1) (i := i) hx hb hK hP hD hS rfl rfl rfl (by omega) (by decide) dX4_look_101 (fun H locs hP hD hS => ?_)
                have hP : va_P (dC, dI) vwCl (dk_R cI cII aR cd (nI d) fr le fi ne (nI z) ar pr sp ep pt cf cp (rk_dg z d ch w) (vp_updL A1 i ((A1 (frN i)) + (fs (4 * i + rk_cN z d w i)))) fd bc bp bh ba fs) H := hP
                have hD : va_D A (dk_R cI cII aR cd (nI d) fr le fi ne (nI z) ar pr sp ep pt cf cp (rk_dg z d ch w) (vp_updL A1 i ((A1 (frN i)) + (fs (4 * i + rk_cN z d w i)))) fd bc bp bh ba fs) := hD
                refine lv_aload_n hx hb dX4_look_102 rfl (lv_at hl 4 rfl) ?_
                refine va_get (D := (dC, dI)) (ci := 4) (v := .ref (aR 10)) (C := RX4) (T := TX4) (N := 22) hx hb hT in_X4 hown hK hP 0 rfl rfl 15 (by decide) (hT _ mw_476) (fun _ h9 => h9) rfl dX4_look_103 ?_
                refine lv_iload hx hb dX4_look_106 (lv_at hl 1 rfl) ?_
                refine dk_lald (q0 := 10) (t0 := 1) (i := i) hx hb hK hP rfl rfl rfl (by omega) (by decide) dX4_look_108 ?_
                refine lv_lload_n hx hb dX4_look_109 rfl (lv_at hl 2 rfl) ?_
                refine dk_lif_le (tgt := 124) hx hb dX4_look_110 dX4_look_111 (by decide) (fun c_111 => ?_) (fun c_111 => ?_)
                · refine lv_lload_n hx hb dX4_look_124 rfl (lv_at hl 2 rfl) ?_
                  refine lv_lstore_n (lv' := [(3, .long g), (6, .long (fs (4 * i + rk_cN z d w i))), (5, .int (nI i)), (2, .int (nI r)), (0, .ref (aR 0)), (1, .int (nI w))]) hx hb dX4_look_125 rfl hl (by decide) rfl (fun ls hl => ?_)
                  refine lv_iinc (v := (nI (i + 1))) (lv' := [(5, .int (nI (i + 1))), (3, .long g), (6, .long (fs (4 * i + rk_cN z d w i))), (2, .int (nI r)), (0, .ref (aR 0)), (1, .int (nI w))]) hx hb dX4_look_126 hl (k := 2) rfl (nI_1 i) (by decide) rfl (fun ls hl => ?_)
                  refine lv_goto (tgt := 41) hx hb dX4_look_129 (by decide) ?_
                  exact ih41 (i + 1) (vp_updL A1 i ((A1 (frN i)) + (fs (4 * i + rk_cN z d w i)))) g _ _ _ (by omega) (by rw [← hf41_0]; show _ = (if 0 ≤ fs (4 * i + rk_cN z d w i) then rk_lk fs (rk_cN z d w) frN n2 (i + 1) (vp_updL A1 i (A1 (frN i) + fs (4 * i + rk_cN z d w i))) (if (vp_updL A1 i (A1 (frN i) + fs (4 * i + rk_cN z d w i))) i ≤ g then g else (vp_updL A1 i (A1 (frN i) + fs (4 * i + rk_cN z d w i))) i) else (A1, -1)); rw [if_pos c_73, if_pos c_111]) hP hD hS (lv_sub hl [0, 1, 3, 4, 5] rfl)
                · refine lv_aload_n hx hb dX4_look_114 rfl (lv_at hl 4 rfl) ?_
                  refine va_get (D := (dC, dI)) (ci := 4) (v := .ref (aR 10)) (C := RX4) (T := TX4) (N := 22) hx hb hT in_X4 hown hK hP 0 rfl rfl 15 (by decide) (hT _ mw_476) (fun _ h9 => h9) rfl dX4_look_115 ?_
                  refine lv_iload hx hb dX4_look_118 (lv_at hl 1 rfl) ?_
                  refine dk_lald (q0 := 10) (t0 := 1) (i := i) hx hb hK hP rfl rfl rfl (by omega) (by decide) dX4_look_120 ?_
                  refine lv_goto (tgt := 125) hx hb dX4_look_121 (by decide) ?_
                  refine lv_lstore_n (lv' := [(3, .long ((vp_updL A1 i ((A1 (frN i)) + (fs (4 * i + rk_cN z d w i)))) i)), (6, .long (fs (4 * i + rk_cN z d w i))), (5, .int (nI i)), (2, .int (nI r)), (0, .ref (aR 0)), (1, .int (nI w))]) hx hb dX4_look_125 rfl hl (by decide) rfl (fun ls hl => ?_)
                  refine lv_iinc (v := (nI (i + 1))) (lv' := [(5, .int (nI (i + 1))), (3, .long ((vp_updL A1 i ((A1 (frN i)) + (fs (4 * i + rk_cN z d w i)))) i)), (6, .long (fs (4 * i + rk_cN z d w i))), (2, .int (nI r)), (0, .ref (aR 0)), (1, .int (nI w))]) hx hb dX4_look_126 hl (k := 2) rfl (nI_1 i) (by decide) rfl (fun ls hl => ?_)
                  refine lv_goto (tgt := 41) hx hb dX4_look_129 (by decide) ?_
                  exact ih41 (i + 1) (vp_updL A1 i ((A1 (frN i)) + (fs (4 * i + rk_cN z d w i)))) ((vp_updL A1 i (A1 (frN i) + fs (4 * i + rk_cN z d w i))) i) _ _ _ (by omega) (by rw [← hf41_0]; show _ = (if 0 ≤ fs (4 * i + rk_cN z d w i) then rk_lk fs (rk_cN z d w) frN n2 (i + 1) (vp_updL A1 i (A1 (frN i) + fs (4 * i + rk_cN z d w i))) (if (vp_updL A1 i (A1 (frN i) + fs (4 * i + rk_cN z d w i))) i ≤ g then g else (vp_updL A1 i (A1 (frN i) + fs (4 * i + rk_cN z d w i))) i) else (A1, -1)); rw [if_pos c_73, if_neg c_111]) hP hD hS (lv_sub hl [0, 1, 3, 4, 5] rfl)
              · refine lv_ldc2 (v := (-1)) hx hb hown (hT _ mw_611) dX4_look_76 ?_
                have hf9 : (A1, (-1 : Int64)) = (rk_lk fs (rk_cN z d w) frN d 1 la 0) := by rw [← hf41_0]; show _ = (if 0 ≤ fs (4 * i + rk_cN z d w i) then _ else (A1, -1)); rw [if_neg c_73]
                rw [← hf9] at hret
                exact hret _ () _ _ _ _ rfl hP hD hS dX4_look_79
        exact lp41 d 1 la 0 _ _ _ (by omega) rfl hP hD hS (lv_sub hl [0, 1, 2, 3, 4] rfl)
      · exact absurd (by decide) c_8
    | succ n ih7 =>
      intro f r H locs ls hin7 hf7_0 hP hD hS hl
      refine lv_iload_n hx hb dX4_look_7 rfl (lv_at hl 0 rfl) ?_
      refine lv_if_le (tgt := 36) hx hb dX4_look_8 (by decide) (fun c_8 => ?_) (fun c_8 => ?_)
      · exact absurd c_8 (nI_nle (by omega) (by omega))
      · have hz2 : 0 < z := hz0 (by omega)
        have hrz : r / z ≤ r := Nat.div_le_self _ _
        refine lv_aload_n hx hb dX4_look_11 rfl (lv_at hl 2 rfl) ?_
        refine va_get (D := (dC, dI)) (ci := 4) (v := .ref (aR 9)) (C := RX4) (T := TX4) (N := 22) hx hb hT in_X4 hown hK hP 0 rfl rfl 14 (by decide) (hT _ mw_475) (fun _ h9 => h9) rfl dX4_look_12 ?_
        refine lv_iload_n hx hb dX4_look_15 rfl (lv_at hl 0 rfl) ?_
        refine lv_iload_n hx hb dX4_look_16 rfl (lv_at hl 1 rfl) ?_
        refine lv_aload_n hx hb dX4_look_17 rfl (lv_at hl 2 rfl) ?_
        refine va_get (D := (dC, dI)) (ci := 4) (v := .int (nI z)) (C := RX4) (T := TX4) (N := 22) hx hb hT in_X4 hown hK hP 0 rfl rfl 6 (by decide) (hT _ mw_467) (fun _ h9 => h9) rfl dX4_look_18 ?_
        refine lv_irem hx hb dX4_look_21 (nI_ne0 hz2 (by omega)) ?_
        refine lv_topi (fun y9 e9 => ?_)
        obtain rfl : y9 = nI (r % z) := by rw [e9]; exact (pk_rem (by omega) hz2 (by omega))
        refine dk_iast (q0 := 9) (t0 := 0) (i := n + 1) hx hb hK hP hD hS rfl rfl rfl (by omega) (by decide) dX4_look_22 (fun H locs hP hD hS => ?_)
        have hP : va_P (dC, dI) vwCl (dk_R cI cII aR cd (nI d) fr le fi ne (nI z) ar pr sp ep pt cf cp (upd f (n + 1) (nI (r % z))) la fd bc bp bh ba fs) H := hP
        have hD : va_D A (dk_R cI cII aR cd (nI d) fr le fi ne (nI z) ar pr sp ep pt cf cp (upd f (n + 1) (nI (r % z))) la fd bc bp bh ba fs) := hD
        refine lv_iload_n hx hb dX4_look_23 rfl (lv_at hl 1 rfl) ?_
        refine lv_aload_n hx hb dX4_look_24 rfl (lv_at hl 2 rfl) ?_
        refine va_get (D := (dC, dI)) (ci := 4) (v := .int (nI z)) (C := RX4) (T := TX4) (N := 22) hx hb hT in_X4 hown hK hP 0 rfl rfl 6 (by decide) (hT _ mw_467) (fun _ h9 => h9) rfl dX4_look_25 ?_
        refine lv_idiv hx hb dX4_look_28 (nI_ne0 hz2 (by omega)) ?_
        refine lv_topi (fun y9 e9 => ?_)
        obtain rfl : y9 = nI (r / z) := by rw [e9]; exact (pk_div (by omega) hz2 (by omega))
        refine lv_istore_n (lv' := [(2, .int (nI (r / z))), (3, .int (nI (n + 1))), (0, .ref (aR 0)), (1, .int (nI w))]) hx hb dX4_look_29 rfl hl (by decide) rfl (fun ls hl => ?_)
        refine lv_iinc (v := (nI n)) (lv' := [(3, .int (nI n)), (2, .int (nI (r / z))), (0, .ref (aR 0)), (1, .int (nI w))]) hx hb dX4_look_30 hl (k := 1) rfl (pk_m1 n) (by decide) rfl (fun ls hl => ?_)
        refine lv_goto (tgt := 7) hx hb dX4_look_33 (by decide) ?_
        exact ih7 (upd f (n + 1) (nI (r % z))) (r / z) _ _ _ (by omega) (by rw [← hf7_0]; rfl) hP hD hS (lv_sub hl [0, 1, 2, 3] rfl)
  exact lp7 d ch w _ _ _ (by omega) rfl hP hD hS (lv_sub hl [0, 1, 2, 3] rfl)
