set_option maxHeartbeats 4000000 in
set_option maxRecDepth 100000 in
/-- placeFrom, with k ducts left -/
theorem c_X2_placeFrom_all (l : Launch) (dC : Nat → ClassId) (dI : Nat → Nat → Nat) (cI cII : ClassId) (aS : Nat → Nat) (F : Nat → Nat → Int32) (li : Int32) (en : Int32) (aN : Nat → Nat) (fr : Nat → Int32) (le : Nat → Int32) (fi : Nat → Int32) (ne : Nat → Int32) (fl : Nat → Int32) (ar : Nat → Int32) (pr : Nat → Int32) (sp : Int32) (d : Nat) (z : Nat) (hz1 : z ≤ 4) (hd1 : d ≤ 6) (hfr : ∀ k, k < 7 → vp_in (fr k) 7)  : ∀ (k i : Nat) (st : dk_SS) (x g : Int32) (hz : Nat), i + k = d + 1 → 0 < i → dk_Mv l yX2_placeFrom wsX2_placeFrom ({ frames := 2 * k + 1, cells := 0, slots := 0, locals := 51 * k + 23 }) (dC, dI) (dk_T cI cII) [.ref (aS 0), .int (nI i), .int x, .int g] (dk_SW cI cII aS (aN 0) F li en st ++ dk_N cI cII aN fr le fi ne fl (nI d) ar pr (nI z) sp) hz (fun (_ : Unit) => True) (fun _ => dk_SW cI cII aS (aN 0) F li en (dk_place d z fr le pr F li en k i x g st) ++ dk_N cI cII aN fr le fi ne fl (nI d) ar pr (nI z) sp) 0 0 := by
  intro k
  induction k with
  | zero =>
    intro i st x g hz hik hi1
    refine dk_ofMv (cc := cX2_placeFrom) (maxL := 5) (by decide) rfl (Nat.le_of_ble_eq_true rfl) ?_
    intro p e s m args below meth c A ls Q ⟨hx, hb, hml, hts, hown, hnm⟩ hsz hK hP hD hA hS hl hret
    have hT : ∀ w ∈ dk_tbl, w.before args s = true := fun w h => hts w (List.mem_cons_of_mem _ h)
    have hown : s.vm.findClass RX2 = some m.cls := hown
    have hl : lv_has ls 5 [(0, .ref (aS 0)), (1, .int (nI i)), (2, .int x), (3, .int g)] := hl
    refine lv_iload_n hx hb dX2_placeFrom_0 rfl (lv_at hl 1 rfl) ?_
    refine lv_aload_n hx hb dX2_placeFrom_1 rfl (lv_at hl 0 rfl) ?_
    refine va_get (D := (dC, dI)) (ci := 2) (v := .ref (aN 0)) (C := RX2) (T := TX2) (N := 11) hx hb hT in_X2 hown hK hP 0 rfl rfl 0 (by decide) (hT _ mw_113) (fun _ h9 => h9) rfl dX2_placeFrom_2 ?_
    refine va_get (D := (dC, dI)) (ci := 1) (v := .int (nI d)) (C := RX1) (T := TX1) (N := 10) hx hb hT in_X1 hown hK hP 13 rfl rfl 5 (by decide) (hT _ mw_59) (fun _ h9 => h9) rfl dX2_placeFrom_5 ?_
    refine lv_icmp_le (tgt := 18) hx hb dX2_placeFrom_8 (by decide) (fun c_8 => ?_) (fun c_8 => ?_)
    · exact absurd c_8 (nI_ge (by omega) (by omega))
    · refine lv_aload_n hx hb dX2_placeFrom_11 rfl (lv_at hl 0 rfl) ?_
      refine lv_iload_n hx hb dX2_placeFrom_12 rfl (lv_at hl 2 rfl) ?_
      refine lv_iload_n hx hb dX2_placeFrom_13 rfl (lv_at hl 3 rfl) ?_
      refine dk_callv (wr := []) (va_runV (As := [.int x, .int g]) (rest := []) ⟨hx, hb, hml, hown, hT⟩ (c_X2_keepTrial l dC dI cI cII aS F (st.1) (st.2.1) li en (st.2.2.1) (st.2.2.2.1) (st.2.2.2.2.1) (st.2.2.2.2.2.1) (st.2.2.2.2.2.2) aN fr le fi ne fl ar pr (nI z) sp d x g _ hd1) (cwV 2 hT (dk_gV mw_222 mw_224 mw_4 mw_26 mw_225) rfl rfl rfl (by decide +kernel) ⟨(by dsimp only; omega), (by dsimp only; omega)⟩) (dk_preV hK hP hD [0, 1, 2, 3, 4, 5, 6, 7, 8, 9, 10, 11, 12, 13, 14, 15, 16, 17, 18, 19, 20] rfl rfl (q0 := 0) (ci := 2) rfl rfl) rfl rfl hl.1 rfl (lv_room (Nat.le_of_ble_eq_true rfl)) dX2_placeFrom_14 ⟨Nat.le_of_ble_eq_true rfl, Nat.le_of_ble_eq_true rfl⟩) hP hD hS hA [0, 1, 2, 3, 4, 5, 6, 7, 8, 9, 10, 11, 12, 13, 14, 15, 16, 17, 18, 19, 20] [] rfl rfl rfl (by decide) (fun _ H locs h9 hP hD hS => ?_)
      have hP : va_P (dC, dI) vwCl (dk_S cI cII aS (aN 0) F (st.1) (st.2.1) li en (dk_cpL (st.1) d 1 (st.2.2.1)) (dk_cpL (st.2.1) d 1 (st.2.2.2.1)) 1 (x + (en * g)) g ++ dk_N cI cII aN fr le fi ne fl (nI d) ar pr (nI z) sp) H := hP
      have hD : va_D A (dk_S cI cII aS (aN 0) F (st.1) (st.2.1) li en (dk_cpL (st.1) d 1 (st.2.2.1)) (dk_cpL (st.2.1) d 1 (st.2.2.2.1)) 1 (x + (en * g)) g ++ dk_N cI cII aN fr le fi ne fl (nI d) ar pr (nI z) sp) := hD
      exact hret () _ _ _ _ trivial hP hD hS dX2_placeFrom_17
  | succ k ih =>
    intro i st x g hz hik hi1
    refine dk_ofMv (cc := cX2_placeFrom) (maxL := 5) (by decide) rfl (Nat.le_of_ble_eq_true rfl) ?_
    intro p e s m args below meth c A ls Q ⟨hx, hb, hml, hts, hown, hnm⟩ hsz hK hP hD hA hS hl hret
    have hT : ∀ w ∈ dk_tbl, w.before args s = true := fun w h => hts w (List.mem_cons_of_mem _ h)
    have hown : s.vm.findClass RX2 = some m.cls := hown
    have hl : lv_has ls 5 [(0, .ref (aS 0)), (1, .int (nI i)), (2, .int x), (3, .int g)] := hl
    refine lv_iload_n hx hb dX2_placeFrom_0 rfl (lv_at hl 1 rfl) ?_
    refine lv_aload_n hx hb dX2_placeFrom_1 rfl (lv_at hl 0 rfl) ?_
    refine va_get (D := (dC, dI)) (ci := 2) (v := .ref (aN 0)) (C := RX2) (T := TX2) (N := 11) hx hb hT in_X2 hown hK hP 0 rfl rfl 0 (by decide) (hT _ mw_113) (fun _ h9 => h9) rfl dX2_placeFrom_2 ?_
    refine va_get (D := (dC, dI)) (ci := 1) (v := .int (nI d)) (C := RX1) (T := TX1) (N := 10) hx hb hT in_X1 hown hK hP 13 rfl rfl 5 (by decide) (hT _ mw_59) (fun _ h9 => h9) rfl dX2_placeFrom_5 ?_
    refine lv_icmp_le (tgt := 18) hx hb dX2_placeFrom_8 (by decide) (fun c_8 => ?_) (fun c_8 => ?_)
    · refine lv_iconst (v := 0) hx hb dX2_placeFrom_18 (by decide) ?_
      refine lv_istore (lv' := [(4, .int 0), (0, .ref (aS 0)), (1, .int (nI i)), (2, .int x), (3, .int g)]) hx hb dX2_placeFrom_19 hl (by decide) rfl (fun ls hl => ?_)
      have lp21 : ∀ (n j : Nat) (st1 : dk_SS) (H : Heap) (locs : List Loc) (ls : Array Slot), j + n = z → dk_loop (dk_try fr le pr F li en (dk_place d z fr le pr F li en k (i + 1)) i x g) n j st1 = (dk_loop (dk_try fr le pr F li en (dk_place d z fr le pr F li en k (i + 1)) i x g) z 0 st) → va_P (dC, dI) vwCl (dk_SW cI cII aS (aN 0) F li en st1 ++ dk_N cI cII aN fr le fi ne fl (nI d) ar pr (nI z) sp) H → va_D A (dk_SW cI cII aS (aN 0) F li en st1 ++ dk_N cI cII aN fr le fi ne fl (nI d) ar pr (nI z) sp) → va_S A s.heap H locs → lv_has ls 5 [(4, .int (nI j)), (0, .ref (aS 0)), (1, .int (nI i)), (2, .int x), (3, .int g)] → W p l e ({ frames := 2 * (k + 1) + 1, cells := 0, slots := 0, locals := 51 * (k + 1) + 23 }) s m args below meth c H locs 0 0 Q (F0 m 21 ls []) := by
        intro n
        induction n with
        | zero =>
          intro j st1 H locs ls hin21 hf21_0 hP hD hS hl
          have hf21_0 : st1 = (dk_loop (dk_try fr le pr F li en (dk_place d z fr le pr F li en k (i + 1)) i x g) z 0 st) := hf21_0
          subst hf21_0
          refine lv_iload hx hb dX2_placeFrom_21 (lv_at hl 0 rfl) ?_
          refine lv_aload_n hx hb dX2_placeFrom_23 rfl (lv_at hl 1 rfl) ?_
          refine va_get (D := (dC, dI)) (ci := 2) (v := .ref (aN 0)) (C := RX2) (T := TX2) (N := 11) hx hb hT in_X2 hown hK hP 0 rfl rfl 0 (by decide) (hT _ mw_113) (fun _ h9 => h9) rfl dX2_placeFrom_24 ?_
          refine va_get (D := (dC, dI)) (ci := 1) (v := .int (nI z)) (C := RX1) (T := TX1) (N := 10) hx hb hT in_X1 hown hK hP 13 rfl rfl 8 (by decide) (hT _ mw_64) (fun _ h9 => h9) rfl dX2_placeFrom_27 ?_
          refine lv_icmp_ge (tgt := 61) hx hb dX2_placeFrom_30 (by decide) (fun c_30 => ?_) (fun c_30 => ?_)
          · exact hret () _ _ _ _ trivial hP hD hS dX2_placeFrom_61
          · exact absurd (nI_le (by omega) (by omega)) c_30
        | succ n ih21 =>
          intro j st1 H locs ls hin21 hf21_0 hP hD hS hl
          refine lv_iload hx hb dX2_placeFrom_21 (lv_at hl 0 rfl) ?_
          refine lv_aload_n hx hb dX2_placeFrom_23 rfl (lv_at hl 1 rfl) ?_
          refine va_get (D := (dC, dI)) (ci := 2) (v := .ref (aN 0)) (C := RX2) (T := TX2) (N := 11) hx hb hT in_X2 hown hK hP 0 rfl rfl 0 (by decide) (hT _ mw_113) (fun _ h9 => h9) rfl dX2_placeFrom_24 ?_
          refine va_get (D := (dC, dI)) (ci := 1) (v := .int (nI z)) (C := RX1) (T := TX1) (N := 10) hx hb hT in_X1 hown hK hP 13 rfl rfl 8 (by decide) (hT _ mw_64) (fun _ h9 => h9) rfl dX2_placeFrom_27 ?_
          refine lv_icmp_ge (tgt := 61) hx hb dX2_placeFrom_30 (by decide) (fun c_30 => ?_) (fun c_30 => ?_)
          · exact absurd c_30 (nI_ge (by omega) (by omega))
          · refine lv_aload_n hx hb dX2_placeFrom_33 rfl (lv_at hl 1 rfl) ?_
            refine va_get (D := (dC, dI)) (ci := 2) (v := .ref (aS 1)) (C := RX2) (T := TX2) (N := 11) hx hb hT in_X2 hown hK hP 0 rfl rfl 1 (by decide) (hT _ mw_114) (fun _ h9 => h9) rfl dX2_placeFrom_34 ?_
            refine lv_iload_n hx hb dX2_placeFrom_37 rfl (lv_at hl 2 rfl) ?_
            refine dk_aald (q0 := 1) (t0 := 1) (i := i) (r := aS (i + 6)) hx hb hK hP rfl rfl rfl (by omega) (by decide) (if_pos (by omega)) dX2_placeFrom_38 ?_
            refine lv_iload hx hb dX2_placeFrom_39 (lv_at hl 0 rfl) ?_
            refine dk_iald (q0 := 6 + i) (t0 := 0) (i := j) hx hb hK hP (dk_rowA (by omega)) rfl rfl (by omega) (by decide) dX2_placeFrom_41 ?_
            refine lv_iconst (v := (-1)) hx hb dX2_placeFrom_42 (by decide) ?_
            refine lv_icmp_eq (tgt := 55) hx hb dX2_placeFrom_43 (by decide) (fun c_43 => ?_) (fun c_43 => ?_)
            · refine lv_iinc (v := (nI (j + 1))) (lv' := [(4, .int (nI (j + 1))), (0, .ref (aS 0)), (1, .int (nI i)), (2, .int x), (3, .int g)]) hx hb dX2_placeFrom_55 hl (k := 0) rfl (nI_1 j) (by decide) rfl (fun ls hl => ?_)
              refine lv_goto (tgt := 21) hx hb dX2_placeFrom_58 (by decide) ?_
              exact ih21 (j + 1) st1 _ _ _ (by omega) (by rw [← hf21_0]; show _ = dk_loop (dk_try fr le pr F li en (dk_place d z fr le pr F li en k (i + 1)) i x g) n (j + 1) ((dk_try fr le pr F li en (dk_place d z fr le pr F li en k (i + 1)) i x g) j st1); rw [show (dk_try fr le pr F li en (dk_place d z fr le pr F li en k (i + 1)) i x g) j st1 = _ from if_pos c_43]) hP hD hS (lv_sub hl [0, 1, 2, 3, 4] rfl)
            · refine lv_aload_n hx hb dX2_placeFrom_46 rfl (lv_at hl 1 rfl) ?_
              refine lv_iload_n hx hb dX2_placeFrom_47 rfl (lv_at hl 2 rfl) ?_
              refine lv_iload hx hb dX2_placeFrom_48 (lv_at hl 0 rfl) ?_
              refine lv_iload_n hx hb dX2_placeFrom_50 rfl (lv_at hl 3 rfl) ?_
              refine lv_iload_n hx hb dX2_placeFrom_51 rfl (lv_at hl 4 rfl) ?_
              refine dk_callv (wr := []) (va_runV (As := [.int (nI i), .int (nI j), .int x, .int g]) (rest := []) ⟨hx, hb, hml, hown, hT⟩ (c_X2_placeSize l dC dI cI cII aS F li en aN fr le fi ne fl ar pr sp d z st1 k i j x g _ hz1 hd1 hfr (by omega) hi1 (by omega) (fun st x g hz => ih (i + 1) st x g hz (by omega) (by omega))) (cwV 4 hT (dk_gV mw_226 mw_228 mw_5 mw_26 mw_229) rfl rfl rfl (by decide +kernel) ⟨(by dsimp only; omega), (by dsimp only; omega)⟩) (dk_preV hK hP hD [0, 1, 2, 3, 4, 5, 6, 7, 8, 9, 10, 11, 12, 13, 14, 15, 16, 17, 18, 19, 20] rfl rfl (q0 := 0) (ci := 2) rfl rfl) rfl rfl hl.1 rfl (lv_room (Nat.le_of_ble_eq_true rfl)) dX2_placeFrom_52 ⟨Nat.le_of_ble_eq_true rfl, Nat.le_of_ble_eq_true rfl⟩) hP hD hS hA [0, 1, 2, 3, 4, 5, 6, 7, 8, 9, 10, 11, 12, 13, 14, 15, 16, 17, 18, 19, 20] [] rfl rfl rfl (by decide) (fun _ H locs h9 hP hD hS => ?_)
              have hP : va_P (dC, dI) vwCl (dk_SW cI cII aS (aN 0) F li en (dk_step fr le pr F li en (dk_place d z fr le pr F li en k (i + 1)) i x g j st1) ++ dk_N cI cII aN fr le fi ne fl (nI d) ar pr (nI z) sp) H := hP
              have hD : va_D A (dk_SW cI cII aS (aN 0) F li en (dk_step fr le pr F li en (dk_place d z fr le pr F li en k (i + 1)) i x g j st1) ++ dk_N cI cII aN fr le fi ne fl (nI d) ar pr (nI z) sp) := hD
              refine lv_iinc (v := (nI (j + 1))) (lv' := [(4, .int (nI (j + 1))), (0, .ref (aS 0)), (1, .int (nI i)), (2, .int x), (3, .int g)]) hx hb dX2_placeFrom_55 hl (k := 0) rfl (nI_1 j) (by decide) rfl (fun ls hl => ?_)
              refine lv_goto (tgt := 21) hx hb dX2_placeFrom_58 (by decide) ?_
              exact ih21 (j + 1) (dk_step fr le pr F li en (dk_place d z fr le pr F li en k (i + 1)) i x g j st1) _ _ _ (by omega) (by rw [← hf21_0]; show _ = dk_loop (dk_try fr le pr F li en (dk_place d z fr le pr F li en k (i + 1)) i x g) n (j + 1) ((dk_try fr le pr F li en (dk_place d z fr le pr F li en k (i + 1)) i x g) j st1); rw [show (dk_try fr le pr F li en (dk_place d z fr le pr F li en k (i + 1)) i x g) j st1 = _ from if_neg c_43]) hP hD hS (lv_sub hl [0, 1, 2, 3, 4] rfl)
      exact lp21 z 0 st _ _ _ (by omega) rfl hP hD hS (lv_sub hl [0, 1, 2, 3, 4] rfl)
    · exact absurd (nI_le (by omega) (by omega)) c_8
