set_option maxHeartbeats 8000000 in
set_option maxRecDepth 100000 in
/-- the case of flow -/
theorem lo_flow {p : Program} {e : Env} {s : State} {m : MethodId} {below : List Frame} {meth : Method} {c : Code} (l : Launch) (hlt : l.stackTraces = false) {b L : Nat} {xs : Nat → Int32} (hL : L ≤ 2048) (C0 : lw_At p s m meth c b L xs) {dC : Nat → ClassId} {dI : Nat → Nat → Nat} {cI cII cL : ClassId} {aX aN aC aB aH aR ao : Nat → Nat} (hK : va_K (dC, dI) vwCl (dk_TL cI cII cL) s) (hE : dk_E (fun q : Nat => s.heap.size ≤ q) s) (hN : va_Nc dk_ISE dk_IAE s) {i : Nat} (hi : i + 4 ≤ L) {H : Heap} {locs : List Loc} {cells slots : Nat} {ls : Array Slot} {Q : State → Prop} (hc : cells + 4 ≤ 665567) (hs : slots + 24 ≤ 7099402) (hI : lw_I dC dI cI cII cL aX aN aC aB aH aR ao (fun q : Nat => s.heap.size ≤ q) H) (hS : va_S (fun q : Nat => s.heap.size ≤ q) s.heap H locs) (hl : lv_has ls 7 [(4, .int (nI i)), (3, .ref (ao 0)), (2, .ref (aR 0)), (1, .ref (aX 0)), (0, .ref b)])
    (hgo : ∀ (H : Heap) (locs : List Loc) (ls : Array Slot), lw_I dC dI cI cII cL aX aN aC aB aH aR ao (fun q : Nat => s.heap.size ≤ q) H → va_S (fun q : Nat => s.heap.size ≤ q) s.heap H locs → lv_has ls 7 [(4, .int (nI i)), (3, .ref (ao 0)), (2, .ref (aR 0)), (1, .ref (aX 0)), (0, .ref b)] → W p l e room_1 s m #[Value.ref b] below meth c H locs (cells + 4) (slots + 24) Q (F0 m 902 ls [])) :
    W p l e room_1 s m #[Value.ref b] below meth c H locs cells slots Q (F0 m 473 ls []) := by
  obtain ⟨hx, hb, hr, hml, hown, hts, hX, hbl, hlocks, hgv⟩ := C0
  have hT : ∀ w ∈ dk_tbl, w.before #[Value.ref b] s = true := fun w h => hts w (List.mem_filter.mp h).1
  have hA : ∀ q : Nat, s.heap.size ≤ q → (fun q : Nat => s.heap.size ≤ q) q := fun _ h => h
  have hbA : ¬ (fun q : Nat => s.heap.size ≤ q) b := Nat.not_le.mpr hbl
  have hown : s.vm.findClass RL = some m.cls := hown
  obtain ⟨d, z, k, fr, le, fi, ne, fl, ar, pr, cf, cp, spN, epN, ol, FB, lB, eB, sB, FH, lH, eH, sH, cd, neR, sR, fs, fo, frN, leN, fiN, neN, arN, prN, cfN, cpN, hI, hne, hla, hP, hD⟩ := hI
  obtain ⟨hz1, hd1, hfr, har, har2⟩ := hI.HA
  obtain ⟨hk1, hcv⟩ := hI.CU
  have hO := hI.ok hne
  have hKc := hK.sub (tys' := dk_T cI cII) [0, 1] rfl
  have hKr := hK.sub (tys' := dk_TR cI cL) [0, 2] rfl
  obtain ⟨x0, hx0⟩ : ∃ x, xs (i + 1) = x := ⟨_, rfl⟩
  have hP : va_P (dC, dI) vwCl (dk_X cI cII aX (aN 0) (aC 0) (aB 0) (aH 0) (nI epN) ol ++ dk_N cI cII aN fr le fi ne fl (nI d) ar pr (nI z) (nI spN) ++ dk_C cI cII aC cf cp (nI k) ++ dk_SW cI cII aB (aN 0) FB lB eB sB ++ dk_SW cI cII aH (aN 0) FH lH eH sH ++ dk_R cI cL aR cd (nI d) fr le fi neR (nI z) ar pr (nI spN) (nI epN) (nI k) cf cp (sR.1) (sR.2.1) (sR.2.2.1) (sR.2.2.2.1) (sR.2.2.2.2.1) (sR.2.2.2.2.2.1) (sR.2.2.2.2.2.2) fs ++ dk_O cL ao fo) H := hP
  have hD : va_D (fun q : Nat => s.heap.size ≤ q) (dk_X cI cII aX (aN 0) (aC 0) (aB 0) (aH 0) (nI epN) ol ++ dk_N cI cII aN fr le fi ne fl (nI d) ar pr (nI z) (nI spN) ++ dk_C cI cII aC cf cp (nI k) ++ dk_SW cI cII aB (aN 0) FB lB eB sB ++ dk_SW cI cII aH (aN 0) FH lH eH sH ++ dk_R cI cL aR cd (nI d) fr le fi neR (nI z) ar pr (nI spN) (nI epN) (nI k) cf cp (sR.1) (sR.2.1) (sR.2.2.1) (sR.2.2.2.1) (sR.2.2.2.2.1) (sR.2.2.2.2.2.1) (sR.2.2.2.2.2.2) fs ++ dk_O cL ao fo) := hD
  refine lv_aload_n hx hb dl_473 rfl (lv_at hl 3 rfl) ?_
  refine lv_aload_n hx hb dl_474 rfl (lv_at hl 4 rfl) ?_
  refine lv_iload hx hb dl_475 (lv_at hl 0 rfl) ?_
  refine lv_iconst (v := 1) hx hb dl_477 (by decide) ?_
  refine lv_iadd hx hb dl_478 ?_
  refine dk_sld (j := i + 1) hx hb hX hbl hbA hS (nI_add i 1) (by omega) (by omega) hx0 dl_479 ?_
  refine lv_aload_n hx hb dl_480 rfl (lv_at hl 1 rfl) ?_
  by_cases hk : dk_kIn 1 d x0 = 0
  · obtain ⟨j, hj1, hj2, rfl⟩ := dk_kIn0 (lo := 1) rfl (by decide) hd1 hk
    have q := c_L_flow l hlt dC dI cI cII cL aX (aC 0) (aB 0) (aH 0) (nI epN) ol aN fr le fi ne fl ar pr (nI z) (nI spN) d (nI j) ao fo H.size hd1
    simp only [if_pos hk, nI_clamp (show j < 2 ^ 31 by omega)] at q
    rw [hk] at q
    refine dk_calli (wr := dk_C cI cII aC cf cp (nI k) ++ dk_SW cI cII aB (aN 0) FB lB eB sB ++ dk_SW cI cII aH (aN 0) FH lH eH sH ++ dk_R cI cL aR cd (nI d) fr le fi neR (nI z) ar pr (nI spN) (nI epN) (nI k) cf cp (sR.1) (sR.2.1) (sR.2.2.1) (sR.2.2.2.1) (sR.2.2.2.2.1) (sR.2.2.2.2.2.1) (sR.2.2.2.2.2.2) fs) (vx_runSW (As := [.ref (aX 0), .int (nI j), .ref (ao 0)]) (rest := []) ⟨hx, hb, hml, hown, hT⟩ q (vx_cwSW 3 hT (dk_gW mw_403 mw_404 mw_22 mw_405) rfl rfl rfl (by decide +kernel) ⟨Nat.le_of_ble_eq_true rfl, Nat.le_of_ble_eq_true rfl⟩) (dk_preL hK hP hD hE hN hS hA [0, 1, 2, 3, 4, 5, 6, 7, 8, 52] rfl rfl) rfl rfl hl.1 rfl (lv_room (Nat.le_of_ble_eq_true rfl)) dl_481 ⟨show _ ≤ 665567 by omega, show _ ≤ 7099402 by omega⟩) hP hD hS hA [0, 1, 2, 3, 4, 5, 6, 7, 8, 52] [9, 10, 11, 12, 13, 14, 15, 16, 17, 18, 19, 20, 21, 22, 23, 24, 25, 26, 27, 28, 29, 30, 31, 32, 33, 34, 35, 36, 37, 38, 39, 40, 41, 42, 43, 44, 45, 46, 47, 48, 49, 50, 51] rfl rfl rfl (by decide) (fun r9 _ H locs h9 hP hD hS => ?_)
    subst h9
    have hP : va_P (dC, dI) vwCl (dk_C cI cII aC cf cp (nI k) ++ dk_SW cI cII aB (aN 0) FB lB eB sB ++ dk_SW cI cII aH (aN 0) FH lH eH sH ++ dk_R cI cL aR cd (nI d) fr le fi neR (nI z) ar pr (nI spN) (nI epN) (nI k) cf cp (sR.1) (sR.2.1) (sR.2.2.1) (sR.2.2.2.1) (sR.2.2.2.2.1) (sR.2.2.2.2.2.1) (sR.2.2.2.2.2.2) fs ++ (dk_X cI cII aX (aN 0) (aC 0) (aB 0) (aH 0) (nI epN) ol ++ dk_N cI cII aN fr le fi ne fl (nI d) ar pr (nI z) (nI spN) ++ dk_O cL ao (vp_updL fo 0 (fl j).toInt64))) H := hP
    have hD : va_D (fun q : Nat => s.heap.size ≤ q) (dk_C cI cII aC cf cp (nI k) ++ dk_SW cI cII aB (aN 0) FB lB eB sB ++ dk_SW cI cII aH (aN 0) FH lH eH sH ++ dk_R cI cL aR cd (nI d) fr le fi neR (nI z) ar pr (nI spN) (nI epN) (nI k) cf cp (sR.1) (sR.2.1) (sR.2.2.1) (sR.2.2.2.1) (sR.2.2.2.2.1) (sR.2.2.2.2.2.1) (sR.2.2.2.2.2.2) fs ++ (dk_X cI cII aX (aN 0) (aC 0) (aB 0) (aH 0) (nI epN) ol ++ dk_N cI cII aN fr le fi ne fl (nI d) ar pr (nI z) (nI spN) ++ dk_O cL ao (vp_updL fo 0 (fl j).toInt64))) := hD
    refine lv_istore (lv' := [(5, .int 0), (4, .int (nI i)), (3, .ref (ao 0)), (2, .ref (aR 0)), (1, .ref (aX 0)), (0, .ref b)]) hx hb dl_484 hl (by decide) rfl (fun ls hl => ?_)
    refine lv_aload_n hx hb dl_486 rfl (lv_at hl 3 rfl) ?_
    refine lv_aload_n hx hb dl_487 rfl (lv_at hl 5 rfl) ?_
    refine lv_iload hx hb dl_488 (lv_at hl 1 rfl) ?_
    refine lv_iconst (v := 1) hx hb dl_490 (by decide) ?_
    refine lv_iadd hx hb dl_491 ?_
    refine dk_sld (j := i + 1) hx hb hX hbl hbA hS (nI_add i 1) (by omega) (by omega) hx0 dl_492 ?_
    have hk2 : rk_kIn 1 d (nI j) = 0 := (rk_kIn_eq (lo := 1) (l := 1) rfl).trans hk
    have q2 := c_X4_flow l dC dI cI cL aR cd fr le fi neR ar pr (nI spN) (nI epN) (nI k) cf cp (sR.1) (sR.2.1) (sR.2.2.1) (sR.2.2.2.1) (sR.2.2.2.2.1) (sR.2.2.2.2.2.1) (sR.2.2.2.2.2.2) fs d z frN leN fiN neN arN prN (nI j) H.size hd1 hz1 hO
    simp only [if_pos hk2, nI_clamp (show j < 2 ^ 31 by omega)] at q2
    rw [hk2] at q2
    refine dk_calli (wr := dk_C cI cII aC cf cp (nI k) ++ dk_SW cI cII aB (aN 0) FB lB eB sB ++ dk_SW cI cII aH (aN 0) FH lH eH sH ++ dk_X cI cII aX (aN 0) (aC 0) (aB 0) (aH 0) (nI epN) ol ++ dk_N cI cII aN fr le fi ne fl (nI d) ar pr (nI z) (nI spN) ++ dk_O cL ao (vp_updL fo 0 (fl j).toInt64)) (va_runV (As := [.int (nI j)]) (rest := []) ⟨hx, hb, hml, hown, hT⟩ q2 (cwV 1 hT (dk_gV mw_574 mw_575 mw_576 mw_27 mw_577) rfl rfl rfl (by decide +kernel) ⟨Nat.le_of_ble_eq_true rfl, Nat.le_of_ble_eq_true rfl⟩) (dk_preV hKr hP hD [29, 30, 31, 32, 33, 34, 35, 36, 37, 38, 39, 40, 41, 42] rfl rfl (q0 := 29) (ci := 4) rfl rfl) rfl rfl hl.1 rfl (lv_room (Nat.le_of_ble_eq_true rfl)) dl_493 ⟨show _ ≤ 665567 by omega, show _ ≤ 7099402 by omega⟩) hP hD hS hA [29, 30, 31, 32, 33, 34, 35, 36, 37, 38, 39, 40, 41, 42] [0, 1, 2, 3, 4, 5, 6, 7, 8, 9, 10, 11, 12, 13, 14, 15, 16, 17, 18, 19, 20, 21, 22, 23, 24, 25, 26, 27, 28, 43, 44, 45, 46, 47, 48, 49, 50, 51, 52] rfl rfl rfl (by decide) (fun r9 _ H locs h9 hP hD hS => ?_)
    subst h9
    have hP : va_P (dC, dI) vwCl (dk_C cI cII aC cf cp (nI k) ++ dk_SW cI cII aB (aN 0) FB lB eB sB ++ dk_SW cI cII aH (aN 0) FH lH eH sH ++ dk_X cI cII aX (aN 0) (aC 0) (aB 0) (aH 0) (nI epN) ol ++ dk_N cI cII aN fr le fi ne fl (nI d) ar pr (nI z) (nI spN) ++ dk_O cL ao (vp_updL fo 0 (fl j).toInt64) ++ dk_R cI cL aR 0 (nI d) fr le fi neR (nI z) ar pr (nI spN) (nI epN) (nI k) cf cp (sR.1) (sR.2.1) (sR.2.2.1) (sR.2.2.2.1) (sR.2.2.2.2.1) (sR.2.2.2.2.2.1) (sR.2.2.2.2.2.2) fs) H := hP
    have hD : va_D (fun q : Nat => s.heap.size ≤ q) (dk_C cI cII aC cf cp (nI k) ++ dk_SW cI cII aB (aN 0) FB lB eB sB ++ dk_SW cI cII aH (aN 0) FH lH eH sH ++ dk_X cI cII aX (aN 0) (aC 0) (aB 0) (aH 0) (nI epN) ol ++ dk_N cI cII aN fr le fi ne fl (nI d) ar pr (nI z) (nI spN) ++ dk_O cL ao (vp_updL fo 0 (fl j).toInt64) ++ dk_R cI cL aR 0 (nI d) fr le fi neR (nI z) ar pr (nI spN) (nI epN) (nI k) cf cp (sR.1) (sR.2.1) (sR.2.2.1) (sR.2.2.2.1) (sR.2.2.2.2.1) (sR.2.2.2.2.2.1) (sR.2.2.2.2.2.2) fs) := hD
    refine lv_istore (lv' := [(6, .int ((lN (rk_flow frN neN d j)).toInt32)), (5, .int 0), (4, .int (nI i)), (3, .ref (ao 0)), (2, .ref (aR 0)), (1, .ref (aX 0)), (0, .ref b)]) hx hb dl_496 hl (by decide) rfl (fun ls hl => ?_)
    refine lv_aload_n hx hb dl_498 rfl (lv_at hl 4 rfl) ?_
    refine dk_csi (va_runV (As := []) (rest := []) ⟨hx, hb, hml, hown, hT⟩ (c_X4_thrown l dC dI cI cL aR 0 (nI d) fr le fi neR (nI z) ar pr (nI spN) (nI epN) (nI k) cf cp (sR.1) (sR.2.1) (sR.2.2.1) (sR.2.2.2.1) (sR.2.2.2.2.1) (sR.2.2.2.2.2.1) (sR.2.2.2.2.2.2) fs) (cwV 0 hT (dk_gV mw_529 mw_530 mw_531 mw_27 mw_532) rfl rfl rfl (by decide +kernel) ⟨Nat.le_of_ble_eq_true rfl, Nat.le_of_ble_eq_true rfl⟩) (dk_preRV hKr hP [39, 40, 41, 42, 43, 44, 45, 46, 47, 48, 49, 50, 51, 52] rfl (q0 := 39) (ci := 4) rfl rfl) rfl rfl hl.1 rfl (lv_room (Nat.le_of_ble_eq_true rfl)) dl_499 ⟨show _ ≤ 665567 by omega, show _ ≤ 7099402 by omega⟩) (fun r9 h9 => ?_)
    subst h9
    refine lv_iload hx hb dl_502 (lv_at hl 1 rfl) ?_
    refine lv_icmp_eq (tgt := 509) hx hb dl_504 (by decide) (fun c_504 => ?_) (fun c_504 => ?_)
    · refine lv_iload hx hb dl_509 (lv_at hl 1 rfl) ?_
      refine lv_if_ne (tgt := 526) hx hb dl_511 (by decide) (fun c_511 => ?_) (fun c_511 => ?_)
      · exact absurd (by decide) c_511
      · refine lv_aload_n hx hb dl_514 rfl (lv_at hl 3 rfl) ?_
        refine lv_iconst (v := 0) hx hb dl_515 (by decide) ?_
        refine dk_lald (q0 := 38) (t0 := 2) (i := 0) hx hb hK hP rfl rfl (by decide) (by omega) (by decide) dl_516 ?_
        refine lv_iload hx hb dl_517 (lv_at hl 0 rfl) ?_
        refine lv_i2l (v := (((lN (rk_flow frN neN d j)).toInt32)).toInt64) hx hb dl_519 rfl ?_
        refine dk_lif_eq (tgt := 526) hx hb dl_520 dl_521 (by decide) (fun c_521 => ?_) (fun c_521 => ?_)
        · refine lv_goto (tgt := 902) hx hb dl_526 (by decide) ?_
          refine W.widen (k := cells + 4) (n := slots + 24) (by omega) (by omega) ?_
          exact hgo _ _ _ ⟨d, z, k, fr, le, fi, ne, fl, ar, pr, cf, cp, spN, epN, ol, FB, lB, eB, sB, FH, lH, eH, sH, 0, neR, sR, fs, (vp_updL fo 0 (fl j).toInt64), frN, leN, fiN, neN, arN, prN, cfN, cpN, hI, hne, hla, hP.sub [29, 30, 31, 32, 33, 34, 35, 36, 37, 0, 1, 2, 3, 4, 5, 6, 7, 8, 9, 10, 11, 12, 13, 14, 15, 16, 17, 18, 19, 20, 21, 22, 23, 24, 25, 26, 27, 28, 39, 40, 41, 42, 43, 44, 45, 46, 47, 48, 49, 50, 51, 52, 38] rfl, hD.sub [29, 30, 31, 32, 33, 34, 35, 36, 37, 0, 1, 2, 3, 4, 5, 6, 7, 8, 9, 10, 11, 12, 13, 14, 15, 16, 17, 18, 19, 20, 21, 22, 23, 24, 25, 26, 27, 28, 39, 40, 41, 42, 43, 44, 45, 46, 47, 48, 49, 50, 51, 52, 38] (by decide) rfl⟩ hS (lv_sub hl [2, 3, 4, 5, 6] rfl)
        · exact (c_521 (rk_us.trans (congrArg Int32.toInt64 (hI.ansFlow hj2)))).elim
    · exact absurd (by decide) c_504
  · have q := c_L_flow l hlt dC dI cI cII cL aX (aC 0) (aB 0) (aH 0) (nI epN) ol aN fr le fi ne fl ar pr (nI z) (nI spN) d x0 ao fo H.size hd1
    simp only [if_neg hk] at q
    refine dk_calli (wr := dk_C cI cII aC cf cp (nI k) ++ dk_SW cI cII aB (aN 0) FB lB eB sB ++ dk_SW cI cII aH (aN 0) FH lH eH sH ++ dk_R cI cL aR cd (nI d) fr le fi neR (nI z) ar pr (nI spN) (nI epN) (nI k) cf cp (sR.1) (sR.2.1) (sR.2.2.1) (sR.2.2.2.1) (sR.2.2.2.2.1) (sR.2.2.2.2.2.1) (sR.2.2.2.2.2.2) fs) (vx_runSW (As := [.ref (aX 0), .int x0, .ref (ao 0)]) (rest := []) ⟨hx, hb, hml, hown, hT⟩ q (vx_cwSW 3 hT (dk_gW mw_403 mw_404 mw_22 mw_405) rfl rfl rfl (by decide +kernel) ⟨Nat.le_of_ble_eq_true rfl, Nat.le_of_ble_eq_true rfl⟩) (dk_preL hK hP hD hE hN hS hA [0, 1, 2, 3, 4, 5, 6, 7, 8, 52] rfl rfl) rfl rfl hl.1 rfl (lv_room (Nat.le_of_ble_eq_true rfl)) dl_481 ⟨show _ ≤ 665567 by omega, show _ ≤ 7099402 by omega⟩) hP hD hS hA [0, 1, 2, 3, 4, 5, 6, 7, 8, 52] [9, 10, 11, 12, 13, 14, 15, 16, 17, 18, 19, 20, 21, 22, 23, 24, 25, 26, 27, 28, 29, 30, 31, 32, 33, 34, 35, 36, 37, 38, 39, 40, 41, 42, 43, 44, 45, 46, 47, 48, 49, 50, 51] rfl rfl rfl (by decide) (fun r9 _ H locs h9 hP hD hS => ?_)
    subst h9
    have hP : va_P (dC, dI) vwCl (dk_C cI cII aC cf cp (nI k) ++ dk_SW cI cII aB (aN 0) FB lB eB sB ++ dk_SW cI cII aH (aN 0) FH lH eH sH ++ dk_R cI cL aR cd (nI d) fr le fi neR (nI z) ar pr (nI spN) (nI epN) (nI k) cf cp (sR.1) (sR.2.1) (sR.2.2.1) (sR.2.2.2.1) (sR.2.2.2.2.1) (sR.2.2.2.2.2.1) (sR.2.2.2.2.2.2) fs ++ (dk_X cI cII aX (aN 0) (aC 0) (aB 0) (aH 0) (nI epN) ol ++ dk_N cI cII aN fr le fi ne fl (nI d) ar pr (nI z) (nI spN) ++ dk_O cL ao fo)) H := hP
    have hD : va_D (fun q : Nat => s.heap.size ≤ q) (dk_C cI cII aC cf cp (nI k) ++ dk_SW cI cII aB (aN 0) FB lB eB sB ++ dk_SW cI cII aH (aN 0) FH lH eH sH ++ dk_R cI cL aR cd (nI d) fr le fi neR (nI z) ar pr (nI spN) (nI epN) (nI k) cf cp (sR.1) (sR.2.1) (sR.2.2.1) (sR.2.2.2.1) (sR.2.2.2.2.1) (sR.2.2.2.2.2.1) (sR.2.2.2.2.2.2) fs ++ (dk_X cI cII aX (aN 0) (aC 0) (aB 0) (aH 0) (nI epN) ol ++ dk_N cI cII aN fr le fi ne fl (nI d) ar pr (nI z) (nI spN) ++ dk_O cL ao fo)) := hD
    refine lv_istore (lv' := [(5, .int (dk_kIn 1 d x0)), (4, .int (nI i)), (3, .ref (ao 0)), (2, .ref (aR 0)), (1, .ref (aX 0)), (0, .ref b)]) hx hb dl_484 hl (by decide) rfl (fun ls hl => ?_)
    refine lv_aload_n hx hb dl_486 rfl (lv_at hl 3 rfl) ?_
    refine lv_aload_n hx hb dl_487 rfl (lv_at hl 5 rfl) ?_
    refine lv_iload hx hb dl_488 (lv_at hl 1 rfl) ?_
    refine lv_iconst (v := 1) hx hb dl_490 (by decide) ?_
    refine lv_iadd hx hb dl_491 ?_
    refine dk_sld (j := i + 1) hx hb hX hbl hbA hS (nI_add i 1) (by omega) (by omega) hx0 dl_492 ?_
    have hk2 : ¬ rk_kIn 1 d x0 = 0 := fun q9 => hk ((rk_kIn_eq (lo := 1) (l := 1) rfl).symm.trans q9)
    have q2 := c_X4_flow l dC dI cI cL aR cd fr le fi neR ar pr (nI spN) (nI epN) (nI k) cf cp (sR.1) (sR.2.1) (sR.2.2.1) (sR.2.2.2.1) (sR.2.2.2.2.1) (sR.2.2.2.2.2.1) (sR.2.2.2.2.2.2) fs d z frN leN fiN neN arN prN x0 H.size hd1 hz1 hO
    simp only [if_neg hk2] at q2
    refine dk_calli (wr := dk_C cI cII aC cf cp (nI k) ++ dk_SW cI cII aB (aN 0) FB lB eB sB ++ dk_SW cI cII aH (aN 0) FH lH eH sH ++ dk_X cI cII aX (aN 0) (aC 0) (aB 0) (aH 0) (nI epN) ol ++ dk_N cI cII aN fr le fi ne fl (nI d) ar pr (nI z) (nI spN) ++ dk_O cL ao fo) (va_runV (As := [.int x0]) (rest := []) ⟨hx, hb, hml, hown, hT⟩ q2 (cwV 1 hT (dk_gV mw_574 mw_575 mw_576 mw_27 mw_577) rfl rfl rfl (by decide +kernel) ⟨Nat.le_of_ble_eq_true rfl, Nat.le_of_ble_eq_true rfl⟩) (dk_preV hKr hP hD [29, 30, 31, 32, 33, 34, 35, 36, 37, 38, 39, 40, 41, 42] rfl rfl (q0 := 29) (ci := 4) rfl rfl) rfl rfl hl.1 rfl (lv_room (Nat.le_of_ble_eq_true rfl)) dl_493 ⟨show _ ≤ 665567 by omega, show _ ≤ 7099402 by omega⟩) hP hD hS hA [29, 30, 31, 32, 33, 34, 35, 36, 37, 38, 39, 40, 41, 42] [0, 1, 2, 3, 4, 5, 6, 7, 8, 9, 10, 11, 12, 13, 14, 15, 16, 17, 18, 19, 20, 21, 22, 23, 24, 25, 26, 27, 28, 43, 44, 45, 46, 47, 48, 49, 50, 51, 52] rfl rfl rfl (by decide) (fun r9 _ H locs h9 hP hD hS => ?_)
    subst h9
    have hP : va_P (dC, dI) vwCl (dk_C cI cII aC cf cp (nI k) ++ dk_SW cI cII aB (aN 0) FB lB eB sB ++ dk_SW cI cII aH (aN 0) FH lH eH sH ++ dk_X cI cII aX (aN 0) (aC 0) (aB 0) (aH 0) (nI epN) ol ++ dk_N cI cII aN fr le fi ne fl (nI d) ar pr (nI z) (nI spN) ++ dk_O cL ao fo ++ dk_R cI cL aR (rk_kIn 1 d x0) (nI d) fr le fi neR (nI z) ar pr (nI spN) (nI epN) (nI k) cf cp (sR.1) (sR.2.1) (sR.2.2.1) (sR.2.2.2.1) (sR.2.2.2.2.1) (sR.2.2.2.2.2.1) (sR.2.2.2.2.2.2) fs) H := hP
    have hD : va_D (fun q : Nat => s.heap.size ≤ q) (dk_C cI cII aC cf cp (nI k) ++ dk_SW cI cII aB (aN 0) FB lB eB sB ++ dk_SW cI cII aH (aN 0) FH lH eH sH ++ dk_X cI cII aX (aN 0) (aC 0) (aB 0) (aH 0) (nI epN) ol ++ dk_N cI cII aN fr le fi ne fl (nI d) ar pr (nI z) (nI spN) ++ dk_O cL ao fo ++ dk_R cI cL aR (rk_kIn 1 d x0) (nI d) fr le fi neR (nI z) ar pr (nI spN) (nI epN) (nI k) cf cp (sR.1) (sR.2.1) (sR.2.2.1) (sR.2.2.2.1) (sR.2.2.2.2.1) (sR.2.2.2.2.2.1) (sR.2.2.2.2.2.2) fs) := hD
    refine lv_istore (lv' := [(6, .int (0)), (5, .int (dk_kIn 1 d x0)), (4, .int (nI i)), (3, .ref (ao 0)), (2, .ref (aR 0)), (1, .ref (aX 0)), (0, .ref b)]) hx hb dl_496 hl (by decide) rfl (fun ls hl => ?_)
    refine lv_aload_n hx hb dl_498 rfl (lv_at hl 4 rfl) ?_
    refine dk_csi (va_runV (As := []) (rest := []) ⟨hx, hb, hml, hown, hT⟩ (c_X4_thrown l dC dI cI cL aR (rk_kIn 1 d x0) (nI d) fr le fi neR (nI z) ar pr (nI spN) (nI epN) (nI k) cf cp (sR.1) (sR.2.1) (sR.2.2.1) (sR.2.2.2.1) (sR.2.2.2.2.1) (sR.2.2.2.2.2.1) (sR.2.2.2.2.2.2) fs) (cwV 0 hT (dk_gV mw_529 mw_530 mw_531 mw_27 mw_532) rfl rfl rfl (by decide +kernel) ⟨Nat.le_of_ble_eq_true rfl, Nat.le_of_ble_eq_true rfl⟩) (dk_preRV hKr hP [39, 40, 41, 42, 43, 44, 45, 46, 47, 48, 49, 50, 51, 52] rfl (q0 := 39) (ci := 4) rfl rfl) rfl rfl hl.1 rfl (lv_room (Nat.le_of_ble_eq_true rfl)) dl_499 ⟨show _ ≤ 665567 by omega, show _ ≤ 7099402 by omega⟩) (fun r9 h9 => ?_)
    subst h9
    refine lv_iload hx hb dl_502 (lv_at hl 1 rfl) ?_
    refine lv_icmp_eq (tgt := 509) hx hb dl_504 (by decide) (fun c_504 => ?_) (fun c_504 => ?_)
    · refine lv_iload hx hb dl_509 (lv_at hl 1 rfl) ?_
      refine lv_if_ne (tgt := 526) hx hb dl_511 (by decide) (fun c_511 => ?_) (fun c_511 => ?_)
      · refine lv_goto (tgt := 902) hx hb dl_526 (by decide) ?_
        refine W.widen (k := cells + 4) (n := slots + 24) (by omega) (by omega) ?_
        exact hgo _ _ _ ⟨d, z, k, fr, le, fi, ne, fl, ar, pr, cf, cp, spN, epN, ol, FB, lB, eB, sB, FH, lH, eH, sH, (rk_kIn 1 d x0), neR, sR, fs, fo, frN, leN, fiN, neN, arN, prN, cfN, cpN, hI, hne, hla, hP.sub [29, 30, 31, 32, 33, 34, 35, 36, 37, 0, 1, 2, 3, 4, 5, 6, 7, 8, 9, 10, 11, 12, 13, 14, 15, 16, 17, 18, 19, 20, 21, 22, 23, 24, 25, 26, 27, 28, 39, 40, 41, 42, 43, 44, 45, 46, 47, 48, 49, 50, 51, 52, 38] rfl, hD.sub [29, 30, 31, 32, 33, 34, 35, 36, 37, 0, 1, 2, 3, 4, 5, 6, 7, 8, 9, 10, 11, 12, 13, 14, 15, 16, 17, 18, 19, 20, 21, 22, 23, 24, 25, 26, 27, 28, 39, 40, 41, 42, 43, 44, 45, 46, 47, 48, 49, 50, 51, 52, 38] (by decide) rfl⟩ hS (lv_sub hl [2, 3, 4, 5, 6] rfl)
      · exact absurd c_511 hk
    · exact absurd (rk_kIn_eq (lo := 1) (l := 1) rfl) c_504
