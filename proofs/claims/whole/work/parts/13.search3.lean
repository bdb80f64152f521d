set_option maxHeartbeats 4000000 in
set_option maxRecDepth 100000 in
/-- DuctSizes$Search.keepTrial -/
theorem c_X2_keepTrial (l : Launch) (dC : Nat → ClassId) (dI : Nat → Nat → Nat) (cI cII : ClassId) (aS : Nat → Nat) (F : Nat → Nat → Int32) (ts : Nat → Int32) (tp : Nat → Int32) (li : Int32) (en : Int32) (so : Nat → Int32) (pa : Nat → Int32) (fd : Int32) (co : Int32) (ps : Int32) (aN : Nat → Nat) (fr : Nat → Int32) (le : Nat → Int32) (fi : Nat → Int32) (ne : Nat → Int32) (fl : Nat → Int32) (ar : Nat → Int32) (pr : Nat → Int32) (sz : Int32) (sp : Int32) (d : Nat) (x : Int32) (g : Int32) (hz : Nat) (hd1 : d ≤ 6) : dk_Mv l yX2_keepTrial wsX2_keepTrial ({ frames := 0, cells := 0, slots := 0, locals := 0 }) (dC, dI) (dk_T cI cII) [.ref (aS 0), .int x, .int g] (dk_S cI cII aS (aN 0) F ts tp li en so pa fd co ps ++ dk_N cI cII aN fr le fi ne fl (nI d) ar pr sz sp) hz (fun (_ : Unit) => True) (fun _ => dk_S cI cII aS (aN 0) F ts tp li en (dk_cpL ts d 1 so) (dk_cpL tp d 1 pa) 1 (x + (en * g)) g ++ dk_N cI cII aN fr le fi ne fl (nI d) ar pr sz sp) 0 0 := by
  refine dk_ofMv (cc := cX2_keepTrial) (maxL := 4) (by decide) rfl (Nat.le_of_ble_eq_true rfl) ?_
  intro p e s m args below meth c A ls Q ⟨hx, hb, hml, hts, hown, hnm⟩ hsz hK hP hD hA hS hl hret
  have hT : ∀ w ∈ dk_tbl, w.before args s = true := fun w h => hts w (List.mem_cons_of_mem _ h)
  have hown : s.vm.findClass RX2 = some m.cls := hown
  have hl : lv_has ls 4 [(0, .ref (aS 0)), (1, .int x), (2, .int g)] := hl
  refine lv_aload_n hx hb dX2_keepTrial_0 rfl (lv_at hl 0 rfl) ?_
  refine lv_iconst (v := 1) hx hb dX2_keepTrial_1 (by decide) ?_
  refine va_put (D := (dC, dI)) (ci := 2) (v := .int 1) (ty := .boolean) (C := RX2) (T := TX2) (N := 11) hx hb hT in_X2 tyX2 tyX2_ok nmX2 hown hK hP hD hS 0 rfl rfl 8 (by decide) (hT _ mw_123) (fun _ h9 => h9) rfl (by decide +kernel) rfl rfl (Nat.le_of_ble_eq_true rfl) dX2_keepTrial_2 (fun H locs hP hD hS => ?_)
  have hP : va_P (dC, dI) vwCl (dk_S cI cII aS (aN 0) F ts tp li en so pa 1 co ps ++ dk_N cI cII aN fr le fi ne fl (nI d) ar pr sz sp) H := hP
  have hD : va_D A (dk_S cI cII aS (aN 0) F ts tp li en so pa 1 co ps ++ dk_N cI cII aN fr le fi ne fl (nI d) ar pr sz sp) := hD
  refine lv_aload_n hx hb dX2_keepTrial_5 rfl (lv_at hl 0 rfl) ?_
  refine lv_iload_n hx hb dX2_keepTrial_6 rfl (lv_at hl 1 rfl) ?_
  refine lv_aload_n hx hb dX2_keepTrial_7 rfl (lv_at hl 0 rfl) ?_
  refine va_get (D := (dC, dI)) (ci := 2) (v := .int en) (C := RX2) (T := TX2) (N := 11) hx hb hT in_X2 hown hK hP 0 rfl rfl 5 (by decide) (hT _ mw_118) (fun _ h9 => h9) rfl dX2_keepTrial_8 ?_
  refine lv_iload_n hx hb dX2_keepTrial_11 rfl (lv_at hl 2 rfl) ?_
  refine lv_imul hx hb dX2_keepTrial_12 ?_
  refine lv_iadd hx hb dX2_keepTrial_13 ?_
  refine va_put (D := (dC, dI)) (ci := 2) (v := .int (x + (en * g))) (ty := .int) (C := RX2) (T := TX2) (N := 11) hx hb hT in_X2 tyX2 tyX2_ok nmX2 hown hK hP hD hS 0 rfl rfl 9 (by decide) (hT _ mw_125) (fun _ h9 => h9) rfl (by decide +kernel) rfl rfl (Nat.le_of_ble_eq_true rfl) dX2_keepTrial_14 (fun H locs hP hD hS => ?_)
  have hP : va_P (dC, dI) vwCl (dk_S cI cII aS (aN 0) F ts tp li en so pa 1 (x + (en * g)) ps ++ dk_N cI cII aN fr le fi ne fl (nI d) ar pr sz sp) H := hP
  have hD : va_D A (dk_S cI cII aS (aN 0) F ts tp li en so pa 1 (x + (en * g)) ps ++ dk_N cI cII aN fr le fi ne fl (nI d) ar pr sz sp) := hD
  refine lv_aload_n hx hb dX2_keepTrial_17 rfl (lv_at hl 0 rfl) ?_
  refine lv_iload_n hx hb dX2_keepTrial_18 rfl (lv_at hl 2 rfl) ?_
  refine va_put (D := (dC, dI)) (ci := 2) (v := .int g) (ty := .int) (C := RX2) (T := TX2) (N := 11) hx hb hT in_X2 tyX2 tyX2_ok nmX2 hown hK hP hD hS 0 rfl rfl 10 (by decide) (hT _ mw_127) (fun _ h9 => h9) rfl (by decide +kernel) rfl rfl (Nat.le_of_ble_eq_true rfl) dX2_keepTrial_19 (fun H locs hP hD hS => ?_)
  have hP : va_P (dC, dI) vwCl (dk_S cI cII aS (aN 0) F ts tp li en so pa 1 (x + (en * g)) g ++ dk_N cI cII aN fr le fi ne fl (nI d) ar pr sz sp) H := hP
  have hD : va_D A (dk_S cI cII aS (aN 0) F ts tp li en so pa 1 (x + (en * g)) g ++ dk_N cI cII aN fr le fi ne fl (nI d) ar pr sz sp) := hD
  refine lv_iconst (v := 1) hx hb dX2_keepTrial_22 (by decide) ?_
  refine lv_istore_n (lv' := [(3, .int 1), (0, .ref (aS 0)), (1, .int x), (2, .int g)]) hx hb dX2_keepTrial_23 rfl hl (by decide) rfl (fun ls hl => ?_)
  have lp24 : ∀ (n i : Nat) (f1 : Nat → Int32) (f2 : Nat → Int32) (H : Heap) (locs : List Loc) (ls : Array Slot), i + n = d + 1 → dk_cpL ts n i f1 = (dk_cpL ts d 1 so) → dk_cpL tp n i f2 = (dk_cpL tp d 1 pa) → va_P (dC, dI) vwCl (dk_S cI cII aS (aN 0) F ts tp li en f1 f2 1 (x + (en * g)) g ++ dk_N cI cII aN fr le fi ne fl (nI d) ar pr sz sp) H → va_D A (dk_S cI cII aS (aN 0) F ts tp li en f1 f2 1 (x + (en * g)) g ++ dk_N cI cII aN fr le fi ne fl (nI d) ar pr sz sp) → va_S A s.heap H locs → lv_has ls 4 [(3, .int (nI i)), (0, .ref (aS 0)), (1, .int x), (2, .int g)] → W p l e ({ frames := 0, cells := 0, slots := 0, locals := 0 }) s m args below meth c H locs 0 0 Q (F0 m 24 ls []) := by
    intro n
    induction n with
    | zero =>
      intro i f1 f2 H locs ls hin24 hf24_0 hf24_1 hP hD hS hl
      have hf24_0 : f1 = (dk_cpL ts d 1 so) := hf24_0
      subst hf24_0
      have hf24_1 : f2 = (dk_cpL tp d 1 pa) := hf24_1
      subst hf24_1
      refine lv_iload_n hx hb dX2_keepTrial_24 rfl (lv_at hl 0 rfl) ?_
      refine lv_aload_n hx hb dX2_keepTrial_25 rfl (lv_at hl 1 rfl) ?_
      refine va_get (D := (dC, dI)) (ci := 2) (v := .ref (aN 0)) (C := RX2) (T := TX2) (N := 11) hx hb hT in_X2 hown hK hP 0 rfl rfl 0 (by decide) (hT _ mw_113) (fun _ h9 => h9) rfl dX2_keepTrial_26 ?_
      refine va_get (D := (dC, dI)) (ci := 1) (v := .int (nI d)) (C := RX1) (T := TX1) (N := 10) hx hb hT in_X1 hown hK hP 13 rfl rfl 5 (by decide) (hT _ mw_59) (fun _ h9 => h9) rfl dX2_keepTrial_29 ?_
      refine lv_icmp_gt (tgt := 65) hx hb dX2_keepTrial_32 (by decide) (fun c_32 => ?_) (fun c_32 => ?_)
      · exact hret () _ _ _ _ trivial hP hD hS dX2_keepTrial_65
      · exact absurd (nI_lt (by omega) (by omega)) c_32
    | succ n ih24 =>
      intro i f1 f2 H locs ls hin24 hf24_0 hf24_1 hP hD hS hl
      refine lv_iload_n hx hb dX2_keepTrial_24 rfl (lv_at hl 0 rfl) ?_
      refine lv_aload_n hx hb dX2_keepTrial_25 rfl (lv_at hl 1 rfl) ?_
      refine va_get (D := (dC, dI)) (ci := 2) (v := .ref (aN 0)) (C := RX2) (T := TX2) (N := 11) hx hb hT in_X2 hown hK hP 0 rfl rfl 0 (by decide) (hT _ mw_113) (fun _ h9 => h9) rfl dX2_keepTrial_26 ?_
      refine va_get (D := (dC, dI)) (ci := 1) (v := .int (nI d)) (C := RX1) (T := TX1) (N := 10) hx hb hT in_X1 hown hK hP 13 rfl rfl 5 (by decide) (hT _ mw_59) (fun _ h9 => h9) rfl dX2_keepTrial_29 ?_
      refine lv_icmp_gt (tgt := 65) hx hb dX2_keepTrial_32 (by decide) (fun c_32 => ?_) (fun c_32 => ?_)
      · exact absurd c_32 (nI_nlt (by omega) (by omega))
      · refine lv_aload_n hx hb dX2_keepTrial_35 rfl (lv_at hl 1 rfl) ?_
        refine va_get (D := (dC, dI)) (ci := 2) (v := .ref (aS 4)) (C := RX2) (T := TX2) (N := 11) hx hb hT in_X2 hown hK hP 0 rfl rfl 6 (by decide) (hT _ mw_119) (fun _ h9 => h9) rfl dX2_keepTrial_36 ?_
        refine lv_iload_n hx hb dX2_keepTrial_39 rfl (lv_at hl 0 rfl) ?_
        refine lv_aload_n hx hb dX2_keepTrial_40 rfl (lv_at hl 1 rfl) ?_
        refine va_get (D := (dC, dI)) (ci := 2) (v := .ref (aS 2)) (C := RX2) (T := TX2) (N := 11) hx hb hT in_X2 hown hK hP 0 rfl rfl 2 (by decide) (hT _ mw_115) (fun _ h9 => h9) rfl dX2_keepTrial_41 ?_
        refine lv_iload_n hx hb dX2_keepTrial_44 rfl (lv_at hl 0 rfl) ?_
        refine dk_iald (q0 := 2) (t0 := 0) (i := i) hx hb hK hP rfl rfl rfl (by omega) (by decide) dX2_keepTrial_45 ?_
        refine dk_iast (q0 := 4) (t0 := 0) (i := i) hx hb hK hP hD hS rfl rfl rfl (by omega) (by decide) dX2_keepTrial_46 (fun H locs hP hD hS => ?_)
        have hP : va_P (dC, dI) vwCl (dk_S cI cII aS (aN 0) F ts tp li en (upd f1 i (ts i)) f2 1 (x + (en * g)) g ++ dk_N cI cII aN fr le fi ne fl (nI d) ar pr sz sp) H := hP
        have hD : va_D A (dk_S cI cII aS (aN 0) F ts tp li en (upd f1 i (ts i)) f2 1 (x + (en * g)) g ++ dk_N cI cII aN fr le fi ne fl (nI d) ar pr sz sp) := hD
        refine lv_aload_n hx hb dX2_keepTrial_47 rfl (lv_at hl 1 rfl) ?_
        refine va_get (D := (dC, dI)) (ci := 2) (v := .ref (aS 5)) (C := RX2) (T := TX2) (N := 11) hx hb hT in_X2 hown hK hP 0 rfl rfl 7 (by decide) (hT _ mw_121) (fun _ h9 => h9) rfl dX2_keepTrial_48 ?_
        refine lv_iload_n hx hb dX2_keepTrial_51 rfl (lv_at hl 0 rfl) ?_
        refine lv_aload_n hx hb dX2_keepTrial_52 rfl (lv_at hl 1 rfl) ?_
        refine va_get (D := (dC, dI)) (ci := 2) (v := .ref (aS 3)) (C := RX2) (T := TX2) (N := 11) hx hb hT in_X2 hown hK hP 0 rfl rfl 3 (by decide) (hT _ mw_116) (fun _ h9 => h9) rfl dX2_keepTrial_53 ?_
        refine lv_iload_n hx hb dX2_keepTrial_56 rfl (lv_at hl 0 rfl) ?_
        refine dk_iald (q0 := 3) (t0 := 0) (i := i) hx hb hK hP rfl rfl rfl (by omega) (by decide) dX2_keepTrial_57 ?_
        refine dk_iast (q0 := 5) (t0 := 0) (i := i) hx hb hK hP hD hS rfl rfl rfl (by omega) (by decide) dX2_keepTrial_58 (fun H locs hP hD hS => ?_)
        have hP : va_P (dC, dI) vwCl (dk_S cI cII aS (aN 0) F ts tp li en (upd f1 i (ts i)) (upd f2 i (tp i)) 1 (x + (en * g)) g ++ dk_N cI cII aN fr le fi ne fl (nI d) ar pr sz sp) H := hP
        have hD : va_D A (dk_S cI cII aS (aN 0) F ts tp li en (upd f1 i (ts i)) (upd f2 i (tp i)) 1 (x + (en * g)) g ++ dk_N cI cII aN fr le fi ne fl (nI d) ar pr sz sp) := hD
        refine lv_iinc (v := (nI (i + 1))) (lv' := [(3, .int (nI (i + 1))), (0, .ref (aS 0)), (1, .int x), (2, .int g)]) hx hb dX2_keepTrial_59 hl (k := 0) rfl (nI_1 i) (by decide) rfl (fun ls hl => ?_)
        refine lv_goto (tgt := 24) hx hb dX2_keepTrial_62 (by decide) ?_
        exact ih24 (i + 1) (upd f1 i (ts i)) (upd f2 i (tp i)) _ _ _ (by omega) (by rw [← hf24_0]; rfl) (by rw [← hf24_1]; rfl) hP hD hS (lv_sub hl [0, 1, 2, 3] rfl)
  exact lp24 d 1 so pa _ _ _ (by omega) rfl rfl hP hD hS (lv_sub hl [0, 1, 2, 3] rfl)
