set_option maxHeartbeats 8000000 in
set_option maxRecDepth 100000 in
/-- the case of set -/
theorem lo_set {p : Program} {e : Env} {s : State} {m : MethodId} {below : List Frame} {meth : Method} {c : Code} (l : Launch) (hlt : l.stackTraces = false) {b L : Nat} {xs : Nat → Int32} (hL : L ≤ 2048) (C0 : lw_At p s m meth c b L xs) {dC : Nat → ClassId} {dI : Nat → Nat → Nat} {cI cII cL : ClassId} {aX aN aC aB aH aR ao : Nat → Nat} (hK : va_K (dC, dI) vwCl (dk_TL cI cII cL) s) (hE : dk_E (fun q : Nat => s.heap.size ≤ q) s) (hN : va_Nc dk_ISE dk_IAE s) {i : Nat} (hi : i + 4 ≤ L) {H : Heap} {locs : List Loc} {cells slots : Nat} {ls : Array Slot} {Q : State → Prop} (hc : cells + 4 ≤ 665567) (hs : slots + 24 ≤ 7099402) (hI : lw_I dC dI cI cII cL aX aN aC aB aH aR ao (fun q : Nat => s.heap.size ≤ q) H) (hS : va_S (fun q : Nat => s.heap.size ≤ q) s.heap H locs) (hl : lv_has ls 7 [(4, .int (nI i)), (3, .ref (ao 0)), (2, .ref (aR 0)), (1, .ref (aX 0)), (0, .ref b)])
    (hgo : ∀ (H : Heap) (locs : List Loc) (ls : Array Slot), lw_I dC dI cI cII cL aX aN aC aB aH aR ao (fun q : Nat => s.heap.size ≤ q) H → va_S (fun q : Nat => s.heap.size ≤ q) s.heap H locs → lv_has ls 7 [(4, .int (nI i)), (3, .ref (ao 0)), (2, .ref (aR 0)), (1, .ref (aX 0)), (0, .ref b)] → W p l e room_1 s m #[Value.ref b] below meth c H locs (cells + 4) (slots + 24) Q (F0 m 902 ls [])) :
    W p l e room_1 s m #[Value.ref b] below meth c H locs cells slots Q (F0 m 324 ls []) := by
  obtain ⟨hx, hb, hr, hml, hown, hts, hX, hbl, hlocks, hgv⟩ := C0
  have hT : ∀ w ∈ dk_tbl, w.before #[Value.ref b] s = true := fun w h => hts w (List.mem_filter.mp h).1
  have hA : ∀ q : Nat, s.heap.size ≤ q → (fun q : Nat => s.heap.size ≤ q) q := fun _ h => h
  have hbA : ¬ (fun q : Nat => s.heap.size ≤ q) b := Nat.not_le.mpr hbl
  have hown : s.vm.findClass RL = some m.cls := hown
  obtain ⟨d, z, k, fr, le, fi, ne, fl, ar, pr, cf, cp, spN, epN, ol, FB, lB, eB, sB, FH, lH, eH, sH, cd, neR, sR, fs, fo, frN, leN, fiN, neN, arN, prN, cfN, cpN, hI, hne, hla, hP, hD⟩ := hI
  obtain ⟨hz1, hd1, hfr, har, har2⟩ := hI.HA
  obtain ⟨hk1, hcv⟩ := hI.CU
  have hO := hI.ok hne
  have hKc := hK.sub (tys' := dk_T cI cII) [0, 1] rfl
  have hKr := hK.sub (tys' := dk_TR cI cL) [0, 2] rfl
  obtain ⟨x0, hx0⟩ : ∃ x, xs (i + 1) = x := ⟨_, rfl⟩
  obtain ⟨x1, hx1⟩ : ∃ x, xs (i + 2) = x := ⟨_, rfl⟩
  have hP : va_P (dC, dI) vwCl (dk_X cI cII aX (aN 0) (aC 0) (aB 0) (aH 0) (nI epN) ol ++ dk_N cI cII aN fr le fi ne fl (nI d) ar pr (nI z) (nI spN) ++ dk_C cI cII aC cf cp (nI k) ++ dk_SW cI cII aB (aN 0) FB lB eB sB ++ dk_SW cI cII aH (aN 0) FH lH eH sH ++ dk_R cI cL aR cd (nI d) fr le fi neR (nI z) ar pr (nI spN) (nI epN) (nI k) cf cp (sR.1) (sR.2.1) (sR.2.2.1) (sR.2.2.2.1) (sR.2.2.2.2.1) (sR.2.2.2.2.2.1) (sR.2.2.2.2.2.2) fs ++ dk_O cL ao fo) H := hP
  have hD : va_D (fun q : Nat => s.heap.size ≤ q) (dk_X cI cII aX (aN 0) (aC 0) (aB 0) (aH 0) (nI epN) ol ++ dk_N cI cII aN fr le fi ne fl (nI d) ar pr (nI z) (nI spN) ++ dk_C cI cII aC cf cp (nI k) ++ dk_SW cI cII aB (aN 0) FB lB eB sB ++ dk_SW cI cII aH (aN 0) FH lH eH sH ++ dk_R cI cL aR cd (nI d) fr le fi neR (nI z) ar pr (nI spN) (nI epN) (nI k) cf cp (sR.1) (sR.2.1) (sR.2.2.1) (sR.2.2.2.1) (sR.2.2.2.2.1) (sR.2.2.2.2.2.1) (sR.2.2.2.2.2.2) fs ++ dk_O cL ao fo) := hD
  refine lv_aload_n hx hb dl_324 rfl (lv_at hl 3 rfl) ?_
  refine lv_aload_n hx hb dl_325 rfl (lv_at hl 4 rfl) ?_
  refine lv_iload hx hb dl_326 (lv_at hl 0 rfl) ?_
  refine lv_iconst (v := 1) hx hb dl_328 (by decide) ?_
  refine lv_iadd hx hb dl_329 ?_
  refine dk_sld (j := i + 1) hx hb hX hbl hbA hS (nI_add i 1) (by omega) (by omega) hx0 dl_330 ?_
  refine lv_aload_n hx hb dl_331 rfl (lv_at hl 4 rfl) ?_
  refine lv_iload hx hb dl_332 (lv_at hl 0 rfl) ?_
  refine lv_iconst (v := 2) hx hb dl_334 (by decide) ?_
  refine lv_iadd hx hb dl_335 ?_
  refine dk_sld (j := i + 2) hx hb hX hbl hbA hS (nI_add i 2) (by omega) (by omega) hx1 dl_336 ?_
  refine lv_aload_n hx hb dl_337 rfl (lv_at hl 1 rfl) ?_
  by_cases hk : dk_kSet x0 x1 = 0
  · rcases dk_kSet0 hk with ⟨v, hv, rfl, rfl⟩ | ⟨v, hv, rfl, rfl⟩
    · have hv0 := hv
      have q := c_L_set l hlt dC dI cI cII cL aX (aC 0) (aB 0) (aH 0) (nI epN) ol aN fr le fi ne fl (nI d) ar pr (nI z) (nI spN) 0 (nI v) ao fo H.size
      simp only [if_pos hk] at q
      rw [hk] at q
      try simp only [if_pos (show (0 : Int32) = 0 from rfl)] at q
      refine dk_calli (wr := dk_C cI cII aC cf cp (nI k) ++ dk_SW cI cII aB (aN 0) FB lB eB sB ++ dk_SW cI cII aH (aN 0) FH lH eH sH ++ dk_R cI cL aR cd (nI d) fr le fi neR (nI z) ar pr (nI spN) (nI epN) (nI k) cf cp (sR.1) (sR.2.1) (sR.2.2.1) (sR.2.2.2.1) (sR.2.2.2.2.1) (sR.2.2.2.2.2.1) (sR.2.2.2.2.2.2) fs) (vx_runSW (As := [.ref (aX 0), .int 0, .int (nI v), .ref (ao 0)]) (rest := []) ⟨hx, hb, hml, hown, hT⟩ q (vx_cwSW 4 hT (dk_gW mw_371 mw_372 mw_22 mw_373) rfl rfl rfl (by decide +kernel) ⟨Nat.le_of_ble_eq_true rfl, Nat.le_of_ble_eq_true rfl⟩) (dk_preL hK hP hD hE hN hS hA [0, 1, 2, 3, 4, 5, 6, 7, 8, 52] rfl rfl) rfl rfl hl.1 rfl (lv_room (Nat.le_of_ble_eq_true rfl)) dl_338 ⟨show _ ≤ 665567 by omega, show _ ≤ 7099402 by omega⟩) hP hD hS hA [0, 1, 2, 3, 4, 5, 6, 7, 8, 52] [9, 10, 11, 12, 13, 14, 15, 16, 17, 18, 19, 20, 21, 22, 23, 24, 25, 26, 27, 28, 29, 30, 31, 32, 33, 34, 35, 36, 37, 38, 39, 40, 41, 42, 43, 44, 45, 46, 47, 48, 49, 50, 51] rfl rfl rfl (by decide) (fun r9 _ H locs h9 hP hD hS => ?_)
      subst h9
      have hP : va_P (dC, dI) vwCl (dk_C cI cII aC cf cp (nI k) ++ dk_SW cI cII aB (aN 0) FB lB eB sB ++ dk_SW cI cII aH (aN 0) FH lH eH sH ++ dk_R cI cL aR cd (nI d) fr le fi neR (nI z) ar pr (nI spN) (nI epN) (nI k) cf cp (sR.1) (sR.2.1) (sR.2.2.1) (sR.2.2.2.1) (sR.2.2.2.2.1) (sR.2.2.2.2.2.1) (sR.2.2.2.2.2.2) fs ++ (dk_X cI cII aX (aN 0) (aC 0) (aB 0) (aH 0) (nI epN) 1 ++ dk_N cI cII aN fr le fi ne fl (nI d) ar pr (nI z) (nI v) ++ dk_O cL ao (vp_updL fo 0 ((nI spN)).toInt64))) H := hP
      have hD : va_D (fun q : Nat => s.heap.size ≤ q) (dk_C cI cII aC cf cp (nI k) ++ dk_SW cI cII aB (aN 0) FB lB eB sB ++ dk_SW cI cII aH (aN 0) FH lH eH sH ++ dk_R cI cL aR cd (nI d) fr le fi neR (nI z) ar pr (nI spN) (nI epN) (nI k) cf cp (sR.1) (sR.2.1) (sR.2.2.1) (sR.2.2.2.1) (sR.2.2.2.2.1) (sR.2.2.2.2.2.1) (sR.2.2.2.2.2.2) fs ++ (dk_X cI cII aX (aN 0) (aC 0) (aB 0) (aH 0) (nI epN) 1 ++ dk_N cI cII aN fr le fi ne fl (nI d) ar pr (nI z) (nI v) ++ dk_O cL ao (vp_updL fo 0 ((nI spN)).toInt64))) := hD
      refine lv_istore (lv' := [(5, .int 0), (4, .int (nI i)), (3, .ref (ao 0)), (2, .ref (aR 0)), (1, .ref (aX 0)), (0, .ref b)]) hx hb dl_341 hl (by decide) rfl (fun ls hl => ?_)
      refine lv_aload_n hx hb dl_343 rfl (lv_at hl 3 rfl) ?_
      refine lv_aload_n hx hb dl_344 rfl (lv_at hl 5 rfl) ?_
      refine lv_iload hx hb dl_345 (lv_at hl 1 rfl) ?_
      refine lv_iconst (v := 1) hx hb dl_347 (by decide) ?_
      refine lv_iadd hx hb dl_348 ?_
      refine dk_sld (j := i + 1) hx hb hX hbl hbA hS (nI_add i 1) (by omega) (by omega) hx0 dl_349 ?_
      refine lv_aload_n hx hb dl_350 rfl (lv_at hl 5 rfl) ?_
      refine lv_iload hx hb dl_351 (lv_at hl 1 rfl) ?_
      refine lv_iconst (v := 2) hx hb dl_353 (by decide) ?_
      refine lv_iadd hx hb dl_354 ?_
      refine dk_sld (j := i + 2) hx hb hX hbl hbA hS (nI_add i 2) (by omega) (by omega) hx1 dl_355 ?_
      have hk2 : rk_kSet 0 (nI v) = 0 := (rk_kSet_eq).trans hk
      have q2 := c_X4_set l dC dI cI cL aR cd (nI d) fr le fi neR (nI z) ar pr (nI spN) (nI epN) (nI k) cf cp (sR.1) (sR.2.1) (sR.2.2.1) (sR.2.2.2.1) (sR.2.2.2.2.1) (sR.2.2.2.2.2.1) (sR.2.2.2.2.2.2) fs 0 (nI v) H.size
      simp only [if_pos hk2] at q2
      rw [hk2] at q2
      try simp only [if_pos (show (0 : Int32) = 0 from rfl), if_neg (show ¬ (0 : Int32) = 1 by decide)] at q2
      refine dk_calli (wr := dk_C cI cII aC cf cp (nI k) ++ dk_SW cI cII aB (aN 0) FB lB eB sB ++ dk_SW cI cII aH (aN 0) FH lH eH sH ++ dk_X cI cII aX (aN 0) (aC 0) (aB 0) (aH 0) (nI epN) 1 ++ dk_N cI cII aN fr le fi ne fl (nI d) ar pr (nI z) (nI v) ++ dk_O cL ao (vp_updL fo 0 ((nI spN)).toInt64)) (va_runV (As := [.int 0, .int (nI v)]) (rest := []) ⟨hx, hb, hml, hown, hT⟩ q2 (cwV 2 hT (dk_gV mw_555 mw_556 mw_557 mw_27 mw_558) rfl rfl rfl (by decide +kernel) ⟨Nat.le_of_ble_eq_true rfl, Nat.le_of_ble_eq_true rfl⟩) (dk_preV hKr hP hD [29, 30, 31, 32, 33, 34, 35, 36, 37, 38, 39, 40, 41, 42] rfl rfl (q0 := 29) (ci := 4) rfl rfl) rfl rfl hl.1 rfl (lv_room (Nat.le_of_ble_eq_true rfl)) dl_356 ⟨show _ ≤ 665567 by omega, show _ ≤ 7099402 by omega⟩) hP hD hS hA [29, 30, 31, 32, 33, 34, 35, 36, 37, 38, 39, 40, 41, 42] [0, 1, 2, 3, 4, 5, 6, 7, 8, 9, 10, 11, 12, 13, 14, 15, 16, 17, 18, 19, 20, 21, 22, 23, 24, 25, 26, 27, 28, 43, 44, 45, 46, 47, 48, 49, 50, 51, 52] rfl rfl rfl (by decide) (fun r9 _ H locs h9 hP hD hS => ?_)
      subst h9
      have hP : va_P (dC, dI) vwCl (dk_C cI cII aC cf cp (nI k) ++ dk_SW cI cII aB (aN 0) FB lB eB sB ++ dk_SW cI cII aH (aN 0) FH lH eH sH ++ dk_X cI cII aX (aN 0) (aC 0) (aB 0) (aH 0) (nI epN) 1 ++ dk_N cI cII aN fr le fi ne fl (nI d) ar pr (nI z) (nI v) ++ dk_O cL ao (vp_updL fo 0 ((nI spN)).toInt64) ++ dk_R cI cL aR 0 (nI d) fr le fi neR (nI z) ar pr (nI v) (nI epN) (nI k) cf cp (sR.1) (sR.2.1) (sR.2.2.1) (sR.2.2.2.1) (sR.2.2.2.2.1) (sR.2.2.2.2.2.1) (sR.2.2.2.2.2.2) fs) H := hP
      have hD : va_D (fun q : Nat => s.heap.size ≤ q) (dk_C cI cII aC cf cp (nI k) ++ dk_SW cI cII aB (aN 0) FB lB eB sB ++ dk_SW cI cII aH (aN 0) FH lH eH sH ++ dk_X cI cII aX (aN 0) (aC 0) (aB 0) (aH 0) (nI epN) 1 ++ dk_N cI cII aN fr le fi ne fl (nI d) ar pr (nI z) (nI v) ++ dk_O cL ao (vp_updL fo 0 ((nI spN)).toInt64) ++ dk_R cI cL aR 0 (nI d) fr le fi neR (nI z) ar pr (nI v) (nI epN) (nI k) cf cp (sR.1) (sR.2.1) (sR.2.2.1) (sR.2.2.2.1) (sR.2.2.2.2.1) (sR.2.2.2.2.2.1) (sR.2.2.2.2.2.2) fs) := hD
      refine lv_istore (lv' := [(6, .int ((nI spN))), (5, .int 0), (4, .int (nI i)), (3, .ref (ao 0)), (2, .ref (aR 0)), (1, .ref (aX 0)), (0, .ref b)]) hx hb dl_359 hl (by decide) rfl (fun ls hl => ?_)
      refine lv_aload_n hx hb dl_361 rfl (lv_at hl 4 rfl) ?_
      refine dk_csi (va_runV (As := []) (rest := []) ⟨hx, hb, hml, hown, hT⟩ (c_X4_thrown l dC dI cI cL aR 0 (nI d) fr le fi neR (nI z) ar pr (nI v) (nI epN) (nI k) cf cp (sR.1) (sR.2.1) (sR.2.2.1) (sR.2.2.2.1) (sR.2.2.2.2.1) (sR.2.2.2.2.2.1) (sR.2.2.2.2.2.2) fs) (cwV 0 hT (dk_gV mw_529 mw_530 mw_531 mw_27 mw_532) rfl rfl rfl (by decide +kernel) ⟨Nat.le_of_ble_eq_true rfl, Nat.le_of_ble_eq_true rfl⟩) (dk_preRV hKr hP [39, 40, 41, 42, 43, 44, 45, 46, 47, 48, 49, 50, 51, 52] rfl (q0 := 39) (ci := 4) rfl rfl) rfl rfl hl.1 rfl (lv_room (Nat.le_of_ble_eq_true rfl)) dl_362 ⟨show _ ≤ 665567 by omega, show _ ≤ 7099402 by omega⟩) (fun r9 h9 => ?_)
      subst h9
      refine lv_iload hx hb dl_365 (lv_at hl 1 rfl) ?_
      refine lv_icmp_eq (tgt := 372) hx hb dl_367 (by decide) (fun c_367 => ?_) (fun c_367 => ?_)
      · refine lv_iload hx hb dl_372 (lv_at hl 1 rfl) ?_
        refine lv_if_ne (tgt := 389) hx hb dl_374 (by decide) (fun c_374 => ?_) (fun c_374 => ?_)
        · exact absurd (by decide) c_374
        · refine lv_aload_n hx hb dl_377 rfl (lv_at hl 3 rfl) ?_
          refine lv_iconst (v := 0) hx hb dl_378 (by decide) ?_
          refine dk_lald (q0 := 38) (t0 := 2) (i := 0) hx hb hK hP rfl rfl (by decide) (by omega) (by decide) dl_379 ?_
          refine lv_iload hx hb dl_380 (lv_at hl 0 rfl) ?_
          refine lv_i2l (v := (((nI spN))).toInt64) hx hb dl_382 rfl ?_
          refine dk_lif_eq (tgt := 389) hx hb dl_383 dl_384 (by decide) (fun c_384 => ?_) (fun c_384 => ?_)
          · refine lv_goto (tgt := 902) hx hb dl_389 (by decide) ?_
            refine W.widen (k := cells + 4) (n := slots + 24) (by omega) (by omega) ?_
            exact hgo _ _ _ ⟨d, z, k, fr, le, fi, ne, fl, ar, pr, cf, cp, v, epN, 1, FB, lB, eB, sB, FH, lH, eH, sH, 0, neR, sR, fs, (vp_updL fo 0 ((nI spN)).toInt64), frN, leN, fiN, neN, arN, prN, cfN, cpN, hI.speed hv, hne, hla, hP.sub [29, 30, 31, 32, 33, 34, 35, 36, 37, 0, 1, 2, 3, 4, 5, 6, 7, 8, 9, 10, 11, 12, 13, 14, 15, 16, 17, 18, 19, 20, 21, 22, 23, 24, 25, 26, 27, 28, 39, 40, 41, 42, 43, 44, 45, 46, 47, 48, 49, 50, 51, 52, 38] rfl, hD.sub [29, 30, 31, 32, 33, 34, 35, 36, 37, 0, 1, 2, 3, 4, 5, 6, 7, 8, 9, 10, 11, 12, 13, 14, 15, 16, 17, 18, 19, 20, 21, 22, 23, 24, 25, 26, 27, 28, 39, 40, 41, 42, 43, 44, 45, 46, 47, 48, 49, 50, 51, 52, 38] (by decide) rfl⟩ hS (lv_sub hl [2, 3, 4, 5, 6] rfl)
          · exact (c_384 (rk_us.trans (congrArg Int32.toInt64 rfl))).elim
      · exact absurd (by decide) c_367
    · have hv0 := hv
      have q := c_L_set l hlt dC dI cI cII cL aX (aC 0) (aB 0) (aH 0) (nI epN) ol aN fr le fi ne fl (nI d) ar pr (nI z) (nI spN) 1 (nI v) ao fo H.size
      simp only [if_pos hk] at q
      rw [hk] at q
      try simp only [if_neg (show ¬ (1 : Int32) = 0 by decide)] at q
      refine dk_calli (wr := dk_C cI cII aC cf cp (nI k) ++ dk_SW cI cII aB (aN 0) FB lB eB sB ++ dk_SW cI cII aH (aN 0) FH lH eH sH ++ dk_R cI cL aR cd (nI d) fr le fi neR (nI z) ar pr (nI spN) (nI epN) (nI k) cf cp (sR.1) (sR.2.1) (sR.2.2.1) (sR.2.2.2.1) (sR.2.2.2.2.1) (sR.2.2.2.2.2.1) (sR.2.2.2.2.2.2) fs) (vx_runSW (As := [.ref (aX 0), .int 1, .int (nI v), .ref (ao 0)]) (rest := []) ⟨hx, hb, hml, hown, hT⟩ q (vx_cwSW 4 hT (dk_gW mw_371 mw_372 mw_22 mw_373) rfl rfl rfl (by decide +kernel) ⟨Nat.le_of_ble_eq_true rfl, Nat.le_of_ble_eq_true rfl⟩) (dk_preL hK hP hD hE hN hS hA [0, 1, 2, 3, 4, 5, 6, 7, 8, 52] rfl rfl) rfl rfl hl.1 rfl (lv_room (Nat.le_of_ble_eq_true rfl)) dl_338 ⟨show _ ≤ 665567 by omega, show _ ≤ 7099402 by omega⟩) hP hD hS hA [0, 1, 2, 3, 4, 5, 6, 7, 8, 52] [9, 10, 11, 12, 13, 14, 15, 16, 17, 18, 19, 20, 21, 22, 23, 24, 25, 26, 27, 28, 29, 30, 31, 32, 33, 34, 35, 36, 37, 38, 39, 40, 41, 42, 43, 44, 45, 46, 47, 48, 49, 50, 51] rfl rfl rfl (by decide) (fun r9 _ H locs h9 hP hD hS => ?_)
      subst h9
      have hP : va_P (dC, dI) vwCl (dk_C cI cII aC cf cp (nI k) ++ dk_SW cI cII aB (aN 0) FB lB eB sB ++ dk_SW cI cII aH (aN 0) FH lH eH sH ++ dk_R cI cL aR cd (nI d) fr le fi neR (nI z) ar pr (nI spN) (nI epN) (nI k) cf cp (sR.1) (sR.2.1) (sR.2.2.1) (sR.2.2.2.1) (sR.2.2.2.2.1) (sR.2.2.2.2.2.1) (sR.2.2.2.2.2.2) fs ++ (dk_X cI cII aX (aN 0) (aC 0) (aB 0) (aH 0) (nI v) 1 ++ dk_N cI cII aN fr le fi ne fl (nI d) ar pr (nI z) (nI spN) ++ dk_O cL ao (vp_updL fo 0 ((nI epN)).toInt64))) H := hP
      have hD : va_D (fun q : Nat => s.heap.size ≤ q) (dk_C cI cII aC cf cp (nI k) ++ dk_SW cI cII aB (aN 0) FB lB eB sB ++ dk_SW cI cII aH (aN 0) FH lH eH sH ++ dk_R cI cL aR cd (nI d) fr le fi neR (nI z) ar pr (nI spN) (nI epN) (nI k) cf cp (sR.1) (sR.2.1) (sR.2.2.1) (sR.2.2.2.1) (sR.2.2.2.2.1) (sR.2.2.2.2.2.1) (sR.2.2.2.2.2.2) fs ++ (dk_X cI cII aX (aN 0) (aC 0) (aB 0) (aH 0) (nI v) 1 ++ dk_N cI cII aN fr le fi ne fl (nI d) ar pr (nI z) (nI spN) ++ dk_O cL ao (vp_updL fo 0 ((nI epN)).toInt64))) := hD
      refine lv_istore (lv' := [(5, .int 0), (4, .int (nI i)), (3, .ref (ao 0)), (2, .ref (aR 0)), (1, .ref (aX 0)), (0, .ref b)]) hx hb dl_341 hl (by decide) rfl (fun ls hl => ?_)
      refine lv_aload_n hx hb dl_343 rfl (lv_at hl 3 rfl) ?_
      refine lv_aload_n hx hb dl_344 rfl (lv_at hl 5 rfl) ?_
      refine lv_iload hx hb dl_345 (lv_at hl 1 rfl) ?_
      refine lv_iconst (v := 1) hx hb dl_347 (by decide) ?_
      refine lv_iadd hx hb dl_348 ?_
      refine dk_sld (j := i + 1) hx hb hX hbl hbA hS (nI_add i 1) (by omega) (by omega) hx0 dl_349 ?_
      refine lv_aload_n hx hb dl_350 rfl (lv_at hl 5 rfl) ?_
      refine lv_iload hx hb dl_351 (lv_at hl 1 rfl) ?_
      refine lv_iconst (v := 2) hx hb dl_353 (by decide) ?_
      refine lv_iadd hx hb dl_354 ?_
      refine dk_sld (j := i + 2) hx hb hX hbl hbA hS (nI_add i 2) (by omega) (by omega) hx1 dl_355 ?_
      have hk2 : rk_kSet 1 (nI v) = 0 := (rk_kSet_eq).trans hk
      have q2 := c_X4_set l dC dI cI cL aR cd (nI d) fr le fi neR (nI z) ar pr (nI spN) (nI epN) (nI k) cf cp (sR.1) (sR.2.1) (sR.2.2.1) (sR.2.2.2.1) (sR.2.2.2.2.1) (sR.2.2.2.2.2.1) (sR.2.2.2.2.2.2) fs 1 (nI v) H.size
      simp only [if_pos hk2] at q2
      rw [hk2] at q2
      try simp only [if_neg (show ¬ (1 : Int32) = 0 by decide), if_pos (show (1 : Int32) = 1 from rfl)] at q2
      refine dk_calli (wr := dk_C cI cII aC cf cp (nI k) ++ dk_SW cI cII aB (aN 0) FB lB eB sB ++ dk_SW cI cII aH (aN 0) FH lH eH sH ++ dk_X cI cII aX (aN 0) (aC 0) (aB 0) (aH 0) (nI v) 1 ++ dk_N cI cII aN fr le fi ne fl (nI d) ar pr (nI z) (nI spN) ++ dk_O cL ao (vp_updL fo 0 ((nI epN)).toInt64)) (va_runV (As := [.int 1, .int (nI v)]) (rest := []) ⟨hx, hb, hml, hown, hT⟩ q2 (cwV 2 hT (dk_gV mw_555 mw_556 mw_557 mw_27 mw_558) rfl rfl rfl (by decide +kernel) ⟨Nat.le_of_ble_eq_true rfl, Nat.le_of_ble_eq_true rfl⟩) (dk_preV hKr hP hD [29, 30, 31, 32, 33, 34, 35, 36, 37, 38, 39, 40, 41, 42] rfl rfl (q0 := 29) (ci := 4) rfl rfl) rfl rfl hl.1 rfl (lv_room (Nat.le_of_ble_eq_true rfl)) dl_356 ⟨show _ ≤ 665567 by omega, show _ ≤ 7099402 by omega⟩) hP hD hS hA [29, 30, 31, 32, 33, 34, 35, 36, 37, 38, 39, 40, 41, 42] [0, 1, 2, 3, 4, 5, 6, 7, 8, 9, 10, 11, 12, 13, 14, 15, 16, 17, 18, 19, 20, 21, 22, 23, 24, 25, 26, 27, 28, 43, 44, 45, 46, 47, 48, 49, 50, 51, 52] rfl rfl rfl (by decide) (fun r9 _ H locs h9 hP hD hS => ?_)
      subst h9
      have hP : va_P (dC, dI) vwCl (dk_C cI cII aC cf cp (nI k) ++ dk_SW cI cII aB (aN 0) FB lB eB sB ++ dk_SW cI cII aH (aN 0) FH lH eH sH ++ dk_X cI cII aX (aN 0) (aC 0) (aB 0) (aH 0) (nI v) 1 ++ dk_N cI cII aN fr le fi ne fl (nI d) ar pr (nI z) (nI spN) ++ dk_O cL ao (vp_updL fo 0 ((nI epN)).toInt64) ++ dk_R cI cL aR 0 (nI d) fr le fi neR (nI z) ar pr (nI spN) (nI v) (nI k) cf cp (sR.1) (sR.2.1) (sR.2.2.1) (sR.2.2.2.1) (sR.2.2.2.2.1) (sR.2.2.2.2.2.1) (sR.2.2.2.2.2.2) fs) H := hP
      have hD : va_D (fun q : Nat => s.heap.size ≤ q) (dk_C cI cII aC cf cp (nI k) ++ dk_SW cI cII aB (aN 0) FB lB eB sB ++ dk_SW cI cII aH (aN 0) FH lH eH sH ++ dk_X cI cII aX (aN 0) (aC 0) (aB 0) (aH 0) (nI v) 1 ++ dk_N cI cII aN fr le fi ne fl (nI d) ar pr (nI z) (nI spN) ++ dk_O cL ao (vp_updL fo 0 ((nI epN)).toInt64) ++ dk_R cI cL aR 0 (nI d) fr le fi neR (nI z) ar pr (nI spN) (nI v) (nI k) cf cp (sR.1) (sR.2.1) (sR.2.2.1) (sR.2.2.2.1) (sR.2.2.2.2.1) (sR.2.2.2.2.2.1) (sR.2.2.2.2.2.2) fs) := hD
      refine lv_istore (lv' := [(6, .int ((nI epN))), (5, .int 0), (4, .int (nI i)), (3, .ref (ao 0)), (2, .ref (aR 0)), (1, .ref (aX 0)), (0, .ref b)]) hx hb dl_359 hl (by decide) rfl (fun ls hl => ?_)
      refine lv_aload_n hx hb dl_361 rfl (lv_at hl 4 rfl) ?_
      refine dk_csi (va_runV (As := []) (rest := []) ⟨hx, hb, hml, hown, hT⟩ (c_X4_thrown l dC dI cI cL aR 0 (nI d) fr le fi neR (nI z) ar pr (nI spN) (nI v) (nI k) cf cp (sR.1) (sR.2.1) (sR.2.2.1) (sR.2.2.2.1) (sR.2.2.2.2.1) (sR.2.2.2.2.2.1) (sR.2.2.2.2.2.2) fs) (cwV 0 hT (dk_gV mw_529 mw_530 mw_531 mw_27 mw_532) rfl rfl rfl (by decide +kernel) ⟨Nat.le_of_ble_eq_true rfl, Nat.le_of_ble_eq_true rfl⟩) (dk_preRV hKr hP [39, 40, 41, 42, 43, 44, 45, 46, 47, 48, 49, 50, 51, 52] rfl (q0 := 39) (ci := 4) rfl rfl) rfl rfl hl.1 rfl (lv_room (Nat.le_of_ble_eq_true rfl)) dl_362 ⟨show _ ≤ 665567 by omega, show _ ≤ 7099402 by omega⟩) (fun r9 h9 => ?_)
      subst h9
      refine lv_iload hx hb dl_365 (lv_at hl 1 rfl) ?_
      refine lv_icmp_eq (tgt := 372) hx hb dl_367 (by decide) (fun c_367 => ?_) (fun c_367 => ?_)
      · refine lv_iload hx hb dl_372 (lv_at hl 1 rfl) ?_
        refine lv_if_ne (tgt := 389) hx hb dl_374 (by decide) (fun c_374 => ?_) (fun c_374 => ?_)
        · exact absurd (by decide) c_374
        · refine lv_aload_n hx hb dl_377 rfl (lv_at hl 3 rfl) ?_
          refine lv_iconst (v := 0) hx hb dl_378 (by decide) ?_
          refine dk_lald (q0 := 38) (t0 := 2) (i := 0) hx hb hK hP rfl rfl (by decide) (by omega) (by decide) dl_379 ?_
          refine lv_iload hx hb dl_380 (lv_at hl 0 rfl) ?_
          refine lv_i2l (v := (((nI epN))).toInt64) hx hb dl_382 rfl ?_
          refine dk_lif_eq (tgt := 389) hx hb dl_383 dl_384 (by decide) (fun c_384 => ?_) (fun c_384 => ?_)
          · refine lv_goto (tgt := 902) hx hb dl_389 (by decide) ?_
            refine W.widen (k := cells + 4) (n := slots + 24) (by omega) (by omega) ?_
            exact hgo _ _ _ ⟨d, z, k, fr, le, fi, ne, fl, ar, pr, cf, cp, spN, v, 1, FB, lB, eB, sB, FH, lH, eH, sH, 0, neR, sR, fs, (vp_updL fo 0 ((nI epN)).toInt64), frN, leN, fiN, neN, arN, prN, cfN, cpN, hI.energy hv, hne, hla, hP.sub [29, 30, 31, 32, 33, 34, 35, 36, 37, 0, 1, 2, 3, 4, 5, 6, 7, 8, 9, 10, 11, 12, 13, 14, 15, 16, 17, 18, 19, 20, 21, 22, 23, 24, 25, 26, 27, 28, 39, 40, 41, 42, 43, 44, 45, 46, 47, 48, 49, 50, 51, 52, 38] rfl, hD.sub [29, 30, 31, 32, 33, 34, 35, 36, 37, 0, 1, 2, 3, 4, 5, 6, 7, 8, 9, 10, 11, 12, 13, 14, 15, 16, 17, 18, 19, 20, 21, 22, 23, 24, 25, 26, 27, 28, 39, 40, 41, 42, 43, 44, 45, 46, 47, 48, 49, 50, 51, 52, 38] (by decide) rfl⟩ hS (lv_sub hl [2, 3, 4, 5, 6] rfl)
          · exact (c_384 (rk_us.trans (congrArg Int32.toInt64 rfl))).elim
      · exact absurd (by decide) c_367
  · have q := c_L_set l hlt dC dI cI cII cL aX (aC 0) (aB 0) (aH 0) (nI epN) ol aN fr le fi ne fl (nI d) ar pr (nI z) (nI spN) x0 x1 ao fo H.size
    simp only [if_neg hk] at q
    refine dk_calli (wr := dk_C cI cII aC cf cp (nI k) ++ dk_SW cI cII aB (aN 0) FB lB eB sB ++ dk_SW cI cII aH (aN 0) FH lH eH sH ++ dk_R cI cL aR cd (nI d) fr le fi neR (nI z) ar pr (nI spN) (nI epN) (nI k) cf cp (sR.1) (sR.2.1) (sR.2.2.1) (sR.2.2.2.1) (sR.2.2.2.2.1) (sR.2.2.2.2.2.1) (sR.2.2.2.2.2.2) fs) (vx_runSW (As := [.ref (aX 0), .int x0, .int x1, .ref (ao 0)]) (rest := []) ⟨hx, hb, hml, hown, hT⟩ q (vx_cwSW 4 hT (dk_gW mw_371 mw_372 mw_22 mw_373) rfl rfl rfl (by decide +kernel) ⟨Nat.le_of_ble_eq_true rfl, Nat.le_of_ble_eq_true rfl⟩) (dk_preL hK hP hD hE hN hS hA [0, 1, 2, 3, 4, 5, 6, 7, 8, 52] rfl rfl) rfl rfl hl.1 rfl (lv_room (Nat.le_of_ble_eq_true rfl)) dl_338 ⟨show _ ≤ 665567 by omega, show _ ≤ 7099402 by omega⟩) hP hD hS hA [0, 1, 2, 3, 4, 5, 6, 7, 8, 52] [9, 10, 11, 12, 13, 14, 15, 16, 17, 18, 19, 20, 21, 22, 23, 24, 25, 26, 27, 28, 29, 30, 31, 32, 33, 34, 35, 36, 37, 38, 39, 40, 41, 42, 43, 44, 45, 46, 47, 48, 49, 50, 51] rfl rfl rfl (by decide) (fun r9 _ H locs h9 hP hD hS => ?_)
    subst h9
    have hP : va_P (dC, dI) vwCl (dk_C cI cII aC cf cp (nI k) ++ dk_SW cI cII aB (aN 0) FB lB eB sB ++ dk_SW cI cII aH (aN 0) FH lH eH sH ++ dk_R cI cL aR cd (nI d) fr le fi neR (nI z) ar pr (nI spN) (nI epN) (nI k) cf cp (sR.1) (sR.2.1) (sR.2.2.1) (sR.2.2.2.1) (sR.2.2.2.2.1) (sR.2.2.2.2.2.1) (sR.2.2.2.2.2.2) fs ++ (dk_X cI cII aX (aN 0) (aC 0) (aB 0) (aH 0) (nI epN) ol ++ dk_N cI cII aN fr le fi ne fl (nI d) ar pr (nI z) (nI spN) ++ dk_O cL ao fo)) H := hP
    have hD : va_D (fun q : Nat => s.heap.size ≤ q) (dk_C cI cII aC cf cp (nI k) ++ dk_SW cI cII aB (aN 0) FB lB eB sB ++ dk_SW cI cII aH (aN 0) FH lH eH sH ++ dk_R cI cL aR cd (nI d) fr le fi neR (nI z) ar pr (nI spN) (nI epN) (nI k) cf cp (sR.1) (sR.2.1) (sR.2.2.1) (sR.2.2.2.1) (sR.2.2.2.2.1) (sR.2.2.2.2.2.1) (sR.2.2.2.2.2.2) fs ++ (dk_X cI cII aX (aN 0) (aC 0) (aB 0) (aH 0) (nI epN) ol ++ dk_N cI cII aN fr le fi ne fl (nI d) ar pr (nI z) (nI spN) ++ dk_O cL ao fo)) := hD
    refine lv_istore (lv' := [(5, .int (dk_kSet x0 x1)), (4, .int (nI i)), (3, .ref (ao 0)), (2, .ref (aR 0)), (1, .ref (aX 0)), (0, .ref b)]) hx hb dl_341 hl (by decide) rfl (fun ls hl => ?_)
    refine lv_aload_n hx hb dl_343 rfl (lv_at hl 3 rfl) ?_
    refine lv_aload_n hx hb dl_344 rfl (lv_at hl 5 rfl) ?_
    refine lv_iload hx hb dl_345 (lv_at hl 1 rfl) ?_
    refine lv_iconst (v := 1) hx hb dl_347 (by decide) ?_
    refine lv_iadd hx hb dl_348 ?_
    refine dk_sld (j := i + 1) hx hb hX hbl hbA hS (nI_add i 1) (by omega) (by omega) hx0 dl_349 ?_
    refine lv_aload_n hx hb dl_350 rfl (lv_at hl 5 rfl) ?_
    refine lv_iload hx hb dl_351 (lv_at hl 1 rfl) ?_
    refine lv_iconst (v := 2) hx hb dl_353 (by decide) ?_
    refine lv_iadd hx hb dl_354 ?_
    refine dk_sld (j := i + 2) hx hb hX hbl hbA hS (nI_add i 2) (by omega) (by omega) hx1 dl_355 ?_
    have hk2 : ¬ rk_kSet x0 x1 = 0 := fun q9 => hk ((rk_kSet_eq).symm.trans q9)
    have q2 := c_X4_set l dC dI cI cL aR cd (nI d) fr le fi neR (nI z) ar pr (nI spN) (nI epN) (nI k) cf cp (sR.1) (sR.2.1) (sR.2.2.1) (sR.2.2.2.1) (sR.2.2.2.2.1) (sR.2.2.2.2.2.1) (sR.2.2.2.2.2.2) fs x0 x1 H.size
    simp only [if_neg hk2] at q2
    refine dk_calli (wr := dk_C cI cII aC cf cp (nI k) ++ dk_SW cI cII aB (aN 0) FB lB eB sB ++ dk_SW cI cII aH (aN 0) FH lH eH sH ++ dk_X cI cII aX (aN 0) (aC 0) (aB 0) (aH 0) (nI epN) ol ++ dk_N cI cII aN fr le fi ne fl (nI d) ar pr (nI z) (nI spN) ++ dk_O cL ao fo) (va_runV (As := [.int x0, .int x1]) (rest := []) ⟨hx, hb, hml, hown, hT⟩ q2 (cwV 2 hT (dk_gV mw_555 mw_556 mw_557 mw_27 mw_558) rfl rfl rfl (by decide +kernel) ⟨Nat.le_of_ble_eq_true rfl, Nat.le_of_ble_eq_true rfl⟩) (dk_preV hKr hP hD [29, 30, 31, 32, 33, 34, 35, 36, 37, 38, 39, 40, 41, 42] rfl rfl (q0 := 29) (ci := 4) rfl rfl) rfl rfl hl.1 rfl (lv_room (Nat.le_of_ble_eq_true rfl)) dl_356 ⟨show _ ≤ 665567 by omega, show _ ≤ 7099402 by omega⟩) hP hD hS hA [29, 30, 31, 32, 33, 34, 35, 36, 37, 38, 39, 40, 41, 42] [0, 1, 2, 3, 4, 5, 6, 7, 8, 9, 10, 11, 12, 13, 14, 15, 16, 17, 18, 19, 20, 21, 22, 23, 24, 25, 26, 27, 28, 43, 44, 45, 46, 47, 48, 49, 50, 51, 52] rfl rfl rfl (by decide) (fun r9 _ H locs h9 hP hD hS => ?_)
    subst h9
    have hP : va_P (dC, dI) vwCl (dk_C cI cII aC cf cp (nI k) ++ dk_SW cI cII aB (aN 0) FB lB eB sB ++ dk_SW cI cII aH (aN 0) FH lH eH sH ++ dk_X cI cII aX (aN 0) (aC 0) (aB 0) (aH 0) (nI epN) ol ++ dk_N cI cII aN fr le fi ne fl (nI d) ar pr (nI z) (nI spN) ++ dk_O cL ao fo ++ dk_R cI cL aR (rk_kSet x0 x1) (nI d) fr le fi neR (nI z) ar pr (nI spN) (nI epN) (nI k) cf cp (sR.1) (sR.2.1) (sR.2.2.1) (sR.2.2.2.1) (sR.2.2.2.2.1) (sR.2.2.2.2.2.1) (sR.2.2.2.2.2.2) fs) H := hP
    have hD : va_D (fun q : Nat => s.heap.size ≤ q) (dk_C cI cII aC cf cp (nI k) ++ dk_SW cI cII aB (aN 0) FB lB eB sB ++ dk_SW cI cII aH (aN 0) FH lH eH sH ++ dk_X cI cII aX (aN 0) (aC 0) (aB 0) (aH 0) (nI epN) ol ++ dk_N cI cII aN fr le fi ne fl (nI d) ar pr (nI z) (nI spN) ++ dk_O cL ao fo ++ dk_R cI cL aR (rk_kSet x0 x1) (nI d) fr le fi neR (nI z) ar pr (nI spN) (nI epN) (nI k) cf cp (sR.1) (sR.2.1) (sR.2.2.1) (sR.2.2.2.1) (sR.2.2.2.2.1) (sR.2.2.2.2.2.1) (sR.2.2.2.2.2.2) fs) := hD
    refine lv_istore (lv' := [(6, .int (0)), (5, .int (dk_kSet x0 x1)), (4, .int (nI i)), (3, .ref (ao 0)), (2, .ref (aR 0)), (1, .ref (aX 0)), (0, .ref b)]) hx hb dl_359 hl (by decide) rfl (fun ls hl => ?_)
    refine lv_aload_n hx hb dl_361 rfl (lv_at hl 4 rfl) ?_
    refine dk_csi (va_runV (As := []) (rest := []) ⟨hx, hb, hml, hown, hT⟩ (c_X4_thrown l dC dI cI cL aR (rk_kSet x0 x1) (nI d) fr le fi neR (nI z) ar pr (nI spN) (nI epN) (nI k) cf cp (sR.1) (sR.2.1) (sR.2.2.1) (sR.2.2.2.1) (sR.2.2.2.2.1) (sR.2.2.2.2.2.1) (sR.2.2.2.2.2.2) fs) (cwV 0 hT (dk_gV mw_529 mw_530 mw_531 mw_27 mw_532) rfl rfl rfl (by decide +kernel) ⟨Nat.le_of_ble_eq_true rfl, Nat.le_of_ble_eq_true rfl⟩) (dk_preRV hKr hP [39, 40, 41, 42, 43, 44, 45, 46, 47, 48, 49, 50, 51, 52] rfl (q0 := 39) (ci := 4) rfl rfl) rfl rfl hl.1 rfl (lv_room (Nat.le_of_ble_eq_true rfl)) dl_362 ⟨show _ ≤ 665567 by omega, show _ ≤ 7099402 by omega⟩) (fun r9 h9 => ?_)
    subst h9
    refine lv_iload hx hb dl_365 (lv_at hl 1 rfl) ?_
    refine lv_icmp_eq (tgt := 372) hx hb dl_367 (by decide) (fun c_367 => ?_) (fun c_367 => ?_)
    · refine lv_iload hx hb dl_372 (lv_at hl 1 rfl) ?_
      refine lv_if_ne (tgt := 389) hx hb dl_374 (by decide) (fun c_374 => ?_) (fun c_374 => ?_)
      · refine lv_goto (tgt := 902) hx hb dl_389 (by decide) ?_
        refine W.widen (k := cells + 4) (n := slots + 24) (by omega) (by omega) ?_
        exact hgo _ _ _ ⟨d, z, k, fr, le, fi, ne, fl, ar, pr, cf, cp, spN, epN, ol, FB, lB, eB, sB, FH, lH, eH, sH, (rk_kSet x0 x1), neR, sR, fs, fo, frN, leN, fiN, neN, arN, prN, cfN, cpN, hI, hne, hla, hP.sub [29, 30, 31, 32, 33, 34, 35, 36, 37, 0, 1, 2, 3, 4, 5, 6, 7, 8, 9, 10, 11, 12, 13, 14, 15, 16, 17, 18, 19, 20, 21, 22, 23, 24, 25, 26, 27, 28, 39, 40, 41, 42, 43, 44, 45, 46, 47, 48, 49, 50, 51, 52, 38] rfl, hD.sub [29, 30, 31, 32, 33, 34, 35, 36, 37, 0, 1, 2, 3, 4, 5, 6, 7, 8, 9, 10, 11, 12, 13, 14, 15, 16, 17, 18, 19, 20, 21, 22, 23, 24, 25, 26, 27, 28, 39, 40, 41, 42, 43, 44, 45, 46, 47, 48, 49, 50, 51, 52, 38] (by decide) rfl⟩ hS (lv_sub hl [2, 3, 4, 5, 6] rfl)
      · exact absurd c_374 hk
    · exact absurd (rk_kSet_eq) c_367
