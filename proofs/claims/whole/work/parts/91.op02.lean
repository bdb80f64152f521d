set_option maxHeartbeats 8000000 in
set_option maxRecDepth 100000 in
/-- the case of size -/
theorem lo_size {p : Program} {e : Env} {s : State} {m : MethodId} {below : List Frame} {meth : Method} {c : Code} (l : Launch) (hlt : l.stackTraces = false) {b L : Nat} {xs : Nat → Int32} (hL : L ≤ 2048) (C0 : lw_At p s m meth c b L xs) {dC : Nat → ClassId} {dI : Nat → Nat → Nat} {cI cII cL : ClassId} {aX aN aC aB aH aR ao : Nat → Nat} (hK : va_K (dC, dI) vwCl (dk_TL cI cII cL) s) (hE : dk_E (fun q : Nat => s.heap.size ≤ q) s) (hN : va_Nc dk_ISE dk_IAE s) {i : Nat} (hi : i + 4 ≤ L) {H : Heap} {locs : List Loc} {cells slots : Nat} {ls : Array Slot} {Q : State → Prop} (hc : cells + 4 ≤ 665567) (hs : slots + 24 ≤ 7099402) (hI : lw_I dC dI cI cII cL aX aN aC aB aH aR ao (fun q : Nat => s.heap.size ≤ q) H) (hS : va_S (fun q : Nat => s.heap.size ≤ q) s.heap H locs) (hl : lv_has ls 7 [(4, .int (nI i)), (3, .ref (ao 0)), (2, .ref (aR 0)), (1, .ref (aX 0)), (0, .ref b)])
    (hgo : ∀ (H : Heap) (locs : List Loc) (ls : Array Slot), lw_I dC dI cI cII cL aX aN aC aB aH aR ao (fun q : Nat => s.heap.size ≤ q) H → va_S (fun q : Nat => s.heap.size ≤ q) s.heap H locs → lv_has ls 7 [(4, .int (nI i)), (3, .ref (ao 0)), (2, .ref (aR 0)), (1, .ref (aX 0)), (0, .ref b)] → W p l e room_1 s m #[Value.ref b] below meth c H locs (cells + 4) (slots + 24) Q (F0 m 902 ls [])) :
    W p l e room_1 s m #[Value.ref b] below meth c H locs cells slots Q (F0 m 256 ls []) := by
  obtain ⟨hx, hb, hr, hml, hown, hts, hX, hbl, hlocks, hgv⟩ := C0
  have hT : ∀ w ∈ dk_tbl, w.before #[Value.ref b] s = true := fun w h => hts w (List.mem_filter.mp h).1
  have hA : ∀ q : Nat, s.heap.size ≤ q → (fun q : Nat => s.heap.size ≤ q) q := fun _ h => h
  have hbA : ¬ (fun q : Nat => s.heap.size ≤ q) b := Nat.not_le.mpr hbl
  have hown : s.vm.findClass RL = some m.cls := hown
  obtain ⟨d, z, k, fr, le, fi, ne, fl, ar, pr, cf, cp, spN, epN, ol, FB, lB, eB, sB, FH, lH, eH, sH, cd, neR, sR, fs, fo, frN, leN, fiN, neN, arN, prN, cfN, cpN, hI, hne, hla, hP, hD⟩ := hI
  obtain ⟨hz1, hd1, hfr, har, har2⟩ := hI.HA
  obtain ⟨hk1, hcv⟩ := hI.CU
  have hO := hI.ok hne
  have hKc := hK.sub (tys' := dk_T cI cII) [0, 1] rfl
  have hKr := hK.sub (tys' := dk_TR cI cL) [0, 2] rfl
  obtain ⟨x0, hx0⟩ : ∃ x, xs (i + 1) = x := ⟨_, rfl⟩
  obtain ⟨x1, hx1⟩ : ∃ x, xs (i + 2) = x := ⟨_, rfl⟩
  have hP : va_P (dC, dI) vwCl (dk_X cI cII aX (aN 0) (aC 0) (aB 0) (aH 0) (nI epN) ol ++ dk_N cI cII aN fr le fi ne fl (nI d) ar pr (nI z) (nI spN) ++ dk_C cI cII aC cf cp (nI k) ++ dk_SW cI cII aB (aN 0) FB lB eB sB ++ dk_SW cI cII aH (aN 0) FH lH eH sH ++ dk_R cI cL aR cd (nI d) fr le fi neR (nI z) ar pr (nI spN) (nI epN) (nI k) cf cp (sR.1) (sR.2.1) (sR.2.2.1) (sR.2.2.2.1) (sR.2.2.2.2.1) (sR.2.2.2.2.2.1) (sR.2.2.2.2.2.2) fs ++ dk_O cL ao fo) H := hP
  have hD : va_D (fun q : Nat => s.heap.size ≤ q) (dk_X cI cII aX (aN 0) (aC 0) (aB 0) (aH 0) (nI epN) ol ++ dk_N cI cII aN fr le fi ne fl (nI d) ar pr (nI z) (nI spN) ++ dk_C cI cII aC cf cp (nI k) ++ dk_SW cI cII aB (aN 0) FB lB eB sB ++ dk_SW cI cII aH (aN 0) FH lH eH sH ++ dk_R cI cL aR cd (nI d) fr le fi neR (nI z) ar pr (nI spN) (nI epN) (nI k) cf cp (sR.1) (sR.2.1) (sR.2.2.1) (sR.2.2.2.1) (sR.2.2.2.2.1) (sR.2.2.2.2.2.1) (sR.2.2.2.2.2.2) fs ++ dk_O cL ao fo) := hD
  refine lv_aload_n hx hb dl_256 rfl (lv_at hl 3 rfl) ?_
  refine lv_aload_n hx hb dl_257 rfl (lv_at hl 4 rfl) ?_
  refine lv_iload hx hb dl_258 (lv_at hl 0 rfl) ?_
  refine lv_iconst (v := 1) hx hb dl_260 (by decide) ?_
  refine lv_iadd hx hb dl_261 ?_
  refine dk_sld (j := i + 1) hx hb hX hbl hbA hS (nI_add i 1) (by omega) (by omega) hx0 dl_262 ?_
  refine lv_aload_n hx hb dl_263 rfl (lv_at hl 4 rfl) ?_
  refine lv_iload hx hb dl_264 (lv_at hl 0 rfl) ?_
  refine lv_iconst (v := 2) hx hb dl_266 (by decide) ?_
  refine lv_iadd hx hb dl_267 ?_
  refine dk_sld (j := i + 2) hx hb hX hbl hbA hS (nI_add i 2) (by omega) (by omega) hx1 dl_268 ?_
  refine lv_aload_n hx hb dl_269 rfl (lv_at hl 1 rfl) ?_
  by_cases hk : dk_kSize z x0 x1 = 0
  · obtain ⟨Ar, Pr, hz4, hA0, hA1, hP1, rfl, rfl⟩ := dk_kSize0 hz1 hk
    have q := c_L_size l hlt dC dI cI cII cL aX (aC 0) (aB 0) (aH 0) (nI epN) ol aN fr le fi ne fl (nI d) ar pr (nI spN) z (nI Ar) (nI Pr) ao fo H.size hz1
    simp only [if_pos hk] at q
    rw [hk] at q
    refine dk_calli (wr := dk_C cI cII aC cf cp (nI k) ++ dk_SW cI cII aB (aN 0) FB lB eB sB ++ dk_SW cI cII aH (aN 0) FH lH eH sH ++ dk_R cI cL aR cd (nI d) fr le fi neR (nI z) ar pr (nI spN) (nI epN) (nI k) cf cp (sR.1) (sR.2.1) (sR.2.2.1) (sR.2.2.2.1) (sR.2.2.2.2.1) (sR.2.2.2.2.2.1) (sR.2.2.2.2.2.2) fs) (vx_runSW (As := [.ref (aX 0), .int (nI Ar), .int (nI Pr), .ref (ao 0)]) (rest := []) ⟨hx, hb, hml, hown, hT⟩ q (vx_cwSW 4 hT (dk_gW mw_359 mw_360 mw_22 mw_361) rfl rfl rfl (by decide +kernel) ⟨Nat.le_of_ble_eq_true rfl, Nat.le_of_ble_eq_true rfl⟩) (dk_preL hK hP hD hE hN hS hA [0, 1, 2, 3, 4, 5, 6, 7, 8, 52] rfl rfl) rfl rfl hl.1 rfl (lv_room (Nat.le_of_ble_eq_true rfl)) dl_270 ⟨show _ ≤ 665567 by omega, show _ ≤ 7099402 by omega⟩) hP hD hS hA [0, 1, 2, 3, 4, 5, 6, 7, 8, 52] [9, 10, 11, 12, 13, 14, 15, 16, 17, 18, 19, 20, 21, 22, 23, 24, 25, 26, 27, 28, 29, 30, 31, 32, 33, 34, 35, 36, 37, 38, 39, 40, 41, 42, 43, 44, 45, 46, 47, 48, 49, 50, 51] rfl rfl rfl (by decide) (fun r9 _ H locs h9 hP hD hS => ?_)
    subst h9
    have hP : va_P (dC, dI) vwCl (dk_C cI cII aC cf cp (nI k) ++ dk_SW cI cII aB (aN 0) FB lB eB sB ++ dk_SW cI cII aH (aN 0) FH lH eH sH ++ dk_R cI cL aR cd (nI d) fr le fi neR (nI z) ar pr (nI spN) (nI epN) (nI k) cf cp (sR.1) (sR.2.1) (sR.2.2.1) (sR.2.2.2.1) (sR.2.2.2.2.1) (sR.2.2.2.2.2.1) (sR.2.2.2.2.2.2) fs ++ (dk_X cI cII aX (aN 0) (aC 0) (aB 0) (aH 0) (nI epN) 1 ++ dk_N cI cII aN fr le fi ne fl (nI d) (upd ar z (nI Ar)) (upd pr z (nI Pr)) (nI (z + 1)) (nI spN) ++ dk_O cL ao (vp_updL fo 0 (nI z).toInt64))) H := hP
    have hD : va_D (fun q : Nat => s.heap.size ≤ q) (dk_C cI cII aC cf cp (nI k) ++ dk_SW cI cII aB (aN 0) FB lB eB sB ++ dk_SW cI cII aH (aN 0) FH lH eH sH ++ dk_R cI cL aR cd (nI d) fr le fi neR (nI z) ar pr (nI spN) (nI epN) (nI k) cf cp (sR.1) (sR.2.1) (sR.2.2.1) (sR.2.2.2.1) (sR.2.2.2.2.1) (sR.2.2.2.2.2.1) (sR.2.2.2.2.2.2) fs ++ (dk_X cI cII aX (aN 0) (aC 0) (aB 0) (aH 0) (nI epN) 1 ++ dk_N cI cII aN fr le fi ne fl (nI d) (upd ar z (nI Ar)) (upd pr z (nI Pr)) (nI (z + 1)) (nI spN) ++ dk_O cL ao (vp_updL fo 0 (nI z).toInt64))) := hD
    refine lv_istore (lv' := [(5, .int 0), (4, .int (nI i)), (3, .ref (ao 0)), (2, .ref (aR 0)), (1, .ref (aX 0)), (0, .ref b)]) hx hb dl_273 hl (by decide) rfl (fun ls hl => ?_)
    refine lv_aload_n hx hb dl_275 rfl (lv_at hl 3 rfl) ?_
    refine lv_aload_n hx hb dl_276 rfl (lv_at hl 5 rfl) ?_
    refine lv_iload hx hb dl_277 (lv_at hl 1 rfl) ?_
    refine lv_iconst (v := 1) hx hb dl_279 (by decide) ?_
    refine lv_iadd hx hb dl_280 ?_
    refine dk_sld (j := i + 1) hx hb hX hbl hbA hS (nI_add i 1) (by omega) (by omega) hx0 dl_281 ?_
    refine lv_aload_n hx hb dl_282 rfl (lv_at hl 5 rfl) ?_
    refine lv_iload hx hb dl_283 (lv_at hl 1 rfl) ?_
    refine lv_iconst (v := 2) hx hb dl_285 (by decide) ?_
    refine lv_iadd hx hb dl_286 ?_
    refine dk_sld (j := i + 2) hx hb hX hbl hbA hS (nI_add i 2) (by omega) (by omega) hx1 dl_287 ?_
    have hk2 : rk_kSize z (nI Ar) (nI Pr) = 0 := (rk_kSize_eq hz1).trans hk
    have q2 := c_X4_size l dC dI cI cL aR cd (nI d) fr le fi neR ar pr (nI spN) (nI epN) (nI k) cf cp (sR.1) (sR.2.1) (sR.2.2.1) (sR.2.2.2.1) (sR.2.2.2.2.1) (sR.2.2.2.2.2.1) (sR.2.2.2.2.2.2) fs z (nI Ar) (nI Pr) H.size hz1
    simp only [if_pos hk2] at q2
    rw [hk2] at q2
    refine dk_calli (wr := dk_C cI cII aC cf cp (nI k) ++ dk_SW cI cII aB (aN 0) FB lB eB sB ++ dk_SW cI cII aH (aN 0) FH lH eH sH ++ dk_X cI cII aX (aN 0) (aC 0) (aB 0) (aH 0) (nI epN) 1 ++ dk_N cI cII aN fr le fi ne fl (nI d) (upd ar z (nI Ar)) (upd pr z (nI Pr)) (nI (z + 1)) (nI spN) ++ dk_O cL ao (vp_updL fo 0 (nI z).toInt64)) (va_runV (As := [.int (nI Ar), .int (nI Pr)]) (rest := []) ⟨hx, hb, hml, hown, hT⟩ q2 (cwV 2 hT (dk_gV mw_551 mw_552 mw_553 mw_27 mw_554) rfl rfl rfl (by decide +kernel) ⟨Nat.le_of_ble_eq_true rfl, Nat.le_of_ble_eq_true rfl⟩) (dk_preV hKr hP hD [29, 30, 31, 32, 33, 34, 35, 36, 37, 38, 39, 40, 41, 42] rfl rfl (q0 := 29) (ci := 4) rfl rfl) rfl rfl hl.1 rfl (lv_room (Nat.le_of_ble_eq_true rfl)) dl_288 ⟨show _ ≤ 665567 by omega, show _ ≤ 7099402 by omega⟩) hP hD hS hA [29, 30, 31, 32, 33, 34, 35, 36, 37, 38, 39, 40, 41, 42] [0, 1, 2, 3, 4, 5, 6, 7, 8, 9, 10, 11, 12, 13, 14, 15, 16, 17, 18, 19, 20, 21, 22, 23, 24, 25, 26, 27, 28, 43, 44, 45, 46, 47, 48, 49, 50, 51, 52] rfl rfl rfl (by decide) (fun r9 _ H locs h9 hP hD hS => ?_)
    subst h9
    have hP : va_P (dC, dI) vwCl (dk_C cI cII aC cf cp (nI k) ++ dk_SW cI cII aB (aN 0) FB lB eB sB ++ dk_SW cI cII aH (aN 0) FH lH eH sH ++ dk_X cI cII aX (aN 0) (aC 0) (aB 0) (aH 0) (nI epN) 1 ++ dk_N cI cII aN fr le fi ne fl (nI d) (upd ar z (nI Ar)) (upd pr z (nI Pr)) (nI (z + 1)) (nI spN) ++ dk_O cL ao (vp_updL fo 0 (nI z).toInt64) ++ dk_R cI cL aR 0 (nI d) fr le fi neR (nI (z + 1)) (upd ar z (nI Ar)) (upd pr z (nI Pr)) (nI spN) (nI epN) (nI k) cf cp (sR.1) (sR.2.1) (sR.2.2.1) (sR.2.2.2.1) (sR.2.2.2.2.1) (sR.2.2.2.2.2.1) (sR.2.2.2.2.2.2) fs) H := hP
    have hD : va_D (fun q : Nat => s.heap.size ≤ q) (dk_C cI cII aC cf cp (nI k) ++ dk_SW cI cII aB (aN 0) FB lB eB sB ++ dk_SW cI cII aH (aN 0) FH lH eH sH ++ dk_X cI cII aX (aN 0) (aC 0) (aB 0) (aH 0) (nI epN) 1 ++ dk_N cI cII aN fr le fi ne fl (nI d) (upd ar z (nI Ar)) (upd pr z (nI Pr)) (nI (z + 1)) (nI spN) ++ dk_O cL ao (vp_updL fo 0 (nI z).toInt64) ++ dk_R cI cL aR 0 (nI d) fr le fi neR (nI (z + 1)) (upd ar z (nI Ar)) (upd pr z (nI Pr)) (nI spN) (nI epN) (nI k) cf cp (sR.1) (sR.2.1) (sR.2.2.1) (sR.2.2.2.1) (sR.2.2.2.2.1) (sR.2.2.2.2.2.1) (sR.2.2.2.2.2.2) fs) := hD
    refine lv_istore (lv' := [(6, .int (nI z)), (5, .int 0), (4, .int (nI i)), (3, .ref (ao 0)), (2, .ref (aR 0)), (1, .ref (aX 0)), (0, .ref b)]) hx hb dl_291 hl (by decide) rfl (fun ls hl => ?_)
    refine lv_aload_n hx hb dl_293 rfl (lv_at hl 4 rfl) ?_
    refine dk_csi (va_runV (As := []) (rest := []) ⟨hx, hb, hml, hown, hT⟩ (c_X4_thrown l dC dI cI cL aR 0 (nI d) fr le fi neR (nI (z + 1)) (upd ar z (nI Ar)) (upd pr z (nI Pr)) (nI spN) (nI epN) (nI k) cf cp (sR.1) (sR.2.1) (sR.2.2.1) (sR.2.2.2.1) (sR.2.2.2.2.1) (sR.2.2.2.2.2.1) (sR.2.2.2.2.2.2) fs) (cwV 0 hT (dk_gV mw_529 mw_530 mw_531 mw_27 mw_532) rfl rfl rfl (by decide +kernel) ⟨Nat.le_of_ble_eq_true rfl, Nat.le_of_ble_eq_true rfl⟩) (dk_preRV hKr hP [39, 40, 41, 42, 43, 44, 45, 46, 47, 48, 49, 50, 51, 52] rfl (q0 := 39) (ci := 4) rfl rfl) rfl rfl hl.1 rfl (lv_room (Nat.le_of_ble_eq_true rfl)) dl_294 ⟨show _ ≤ 665567 by omega, show _ ≤ 7099402 by omega⟩) (fun r9 h9 => ?_)
    subst h9
    refine lv_iload hx hb dl_297 (lv_at hl 1 rfl) ?_
    refine lv_icmp_eq (tgt := 304) hx hb dl_299 (by decide) (fun c_299 => ?_) (fun c_299 => ?_)
    · refine lv_iload hx hb dl_304 (lv_at hl 1 rfl) ?_
      refine lv_if_ne (tgt := 321) hx hb dl_306 (by decide) (fun c_306 => ?_) (fun c_306 => ?_)
      · exact absurd (by decide) c_306
      · refine lv_aload_n hx hb dl_309 rfl (lv_at hl 3 rfl) ?_
        refine lv_iconst (v := 0) hx hb dl_310 (by decide) ?_
        refine dk_lald (q0 := 38) (t0 := 2) (i := 0) hx hb hK hP rfl rfl (by decide) (by omega) (by decide) dl_311 ?_
        refine lv_iload hx hb dl_312 (lv_at hl 0 rfl) ?_
        refine lv_i2l (v := ((nI z)).toInt64) hx hb dl_314 rfl ?_
        refine dk_lif_eq (tgt := 321) hx hb dl_315 dl_316 (by decide) (fun c_316 => ?_) (fun c_316 => ?_)
        · refine lv_goto (tgt := 902) hx hb dl_321 (by decide) ?_
          refine W.widen (k := cells + 4) (n := slots + 24) (by omega) (by omega) ?_
          exact hgo _ _ _ ⟨d, z + 1, k, fr, le, fi, ne, fl, (upd ar z (nI Ar)), (upd pr z (nI Pr)), cf, cp, spN, epN, 1, FB, lB, eB, sB, FH, lH, eH, sH, 0, neR, sR, fs, (vp_updL fo 0 (nI z).toInt64), frN, leN, fiN, neN, dk_un arN z Ar, dk_un prN z Pr, cfN, cpN, hI.size hz4 hA0 hA1 hP1, hne, hla, hP.sub [29, 30, 31, 32, 33, 34, 35, 36, 37, 0, 1, 2, 3, 4, 5, 6, 7, 8, 9, 10, 11, 12, 13, 14, 15, 16, 17, 18, 19, 20, 21, 22, 23, 24, 25, 26, 27, 28, 39, 40, 41, 42, 43, 44, 45, 46, 47, 48, 49, 50, 51, 52, 38] rfl, hD.sub [29, 30, 31, 32, 33, 34, 35, 36, 37, 0, 1, 2, 3, 4, 5, 6, 7, 8, 9, 10, 11, 12, 13, 14, 15, 16, 17, 18, 19, 20, 21, 22, 23, 24, 25, 26, 27, 28, 39, 40, 41, 42, 43, 44, 45, 46, 47, 48, 49, 50, 51, 52, 38] (by decide) rfl⟩ hS (lv_sub hl [2, 3, 4, 5, 6] rfl)
        · exact (c_316 (rk_us.trans (congrArg Int32.toInt64 rfl))).elim
    · exact absurd (by decide) c_299
  · have q := c_L_size l hlt dC dI cI cII cL aX (aC 0) (aB 0) (aH 0) (nI epN) ol aN fr le fi ne fl (nI d) ar pr (nI spN) z x0 x1 ao fo H.size hz1
    simp only [if_neg hk] at q
    refine dk_calli (wr := dk_C cI cII aC cf cp (nI k) ++ dk_SW cI cII aB (aN 0) FB lB eB sB ++ dk_SW cI cII aH (aN 0) FH lH eH sH ++ dk_R cI cL aR cd (nI d) fr le fi neR (nI z) ar pr (nI spN) (nI epN) (nI k) cf cp (sR.1) (sR.2.1) (sR.2.2.1) (sR.2.2.2.1) (sR.2.2.2.2.1) (sR.2.2.2.2.2.1) (sR.2.2.2.2.2.2) fs) (vx_runSW (As := [.ref (aX 0), .int x0, .int x1, .ref (ao 0)]) (rest := []) ⟨hx, hb, hml, hown, hT⟩ q (vx_cwSW 4 hT (dk_gW mw_359 mw_360 mw_22 mw_361) rfl rfl rfl (by decide +kernel) ⟨Nat.le_of_ble_eq_true rfl, Nat.le_of_ble_eq_true rfl⟩) (dk_preL hK hP hD hE hN hS hA [0, 1, 2, 3, 4, 5, 6, 7, 8, 52] rfl rfl) rfl rfl hl.1 rfl (lv_room (Nat.le_of_ble_eq_true rfl)) dl_270 ⟨show _ ≤ 665567 by omega, show _ ≤ 7099402 by omega⟩) hP hD hS hA [0, 1, 2, 3, 4, 5, 6, 7, 8, 52] [9, 10, 11, 12, 13, 14, 15, 16, 17, 18, 19, 20, 21, 22, 23, 24, 25, 26, 27, 28, 29, 30, 31, 32, 33, 34, 35, 36, 37, 38, 39, 40, 41, 42, 43, 44, 45, 46, 47, 48, 49, 50, 51] rfl rfl rfl (by decide) (fun r9 _ H locs h9 hP hD hS => ?_)
    subst h9
    have hP : va_P (dC, dI) vwCl (dk_C cI cII aC cf cp (nI k) ++ dk_SW cI cII aB (aN 0) FB lB eB sB ++ dk_SW cI cII aH (aN 0) FH lH eH sH ++ dk_R cI cL aR cd (nI d) fr le fi neR (nI z) ar pr (nI spN) (nI epN) (nI k) cf cp (sR.1) (sR.2.1) (sR.2.2.1) (sR.2.2.2.1) (sR.2.2.2.2.1) (sR.2.2.2.2.2.1) (sR.2.2.2.2.2.2) fs ++ (dk_X cI cII aX (aN 0) (aC 0) (aB 0) (aH 0) (nI epN) ol ++ dk_N cI cII aN fr le fi ne fl (nI d) ar pr (nI z) (nI spN) ++ dk_O cL ao fo)) H := hP
    have hD : va_D (fun q : Nat => s.heap.size ≤ q) (dk_C cI cII aC cf cp (nI k) ++ dk_SW cI cII aB (aN 0) FB lB eB sB ++ dk_SW cI cII aH (aN 0) FH lH eH sH ++ dk_R cI cL aR cd (nI d) fr le fi neR (nI z) ar pr (nI spN) (nI epN) (nI k) cf cp (sR.1) (sR.2.1) (sR.2.2.1) (sR.2.2.2.1) (sR.2.2.2.2.1) (sR.2.2.2.2.2.1) (sR.2.2.2.2.2.2) fs ++ (dk_X cI cII aX (aN 0) (aC 0) (aB 0) (aH 0) (nI epN) ol ++ dk_N cI cII aN fr le fi ne fl (nI d) ar pr (nI z) (nI spN) ++ dk_O cL ao fo)) := hD
    refine lv_istore (lv' := [(5, .int (dk_kSize z x0 x1)), (4, .int (nI i)), (3, .ref (ao 0)), (2, .ref (aR 0)), (1, .ref (aX 0)), (0, .ref b)]) hx hb dl_273 hl (by decide) rfl (fun ls hl => ?_)
    refine lv_aload_n hx hb dl_275 rfl (lv_at hl 3 rfl) ?_
    refine lv_aload_n hx hb dl_276 rfl (lv_at hl 5 rfl) ?_
    refine lv_iload hx hb dl_277 (lv_at hl 1 rfl) ?_
    refine lv_iconst (v := 1) hx hb dl_279 (by decide) ?_
    refine lv_iadd hx hb dl_280 ?_
    refine dk_sld (j := i + 1) hx hb hX hbl hbA hS (nI_add i 1) (by omega) (by omega) hx0 dl_281 ?_
    refine lv_aload_n hx hb dl_282 rfl (lv_at hl 5 rfl) ?_
    refine lv_iload hx hb dl_283 (lv_at hl 1 rfl) ?_
    refine lv_iconst (v := 2) hx hb dl_285 (by decide) ?_
    refine lv_iadd hx hb dl_286 ?_
    refine dk_sld (j := i + 2) hx hb hX hbl hbA hS (nI_add i 2) (by omega) (by omega) hx1 dl_287 ?_
    have hk2 : ¬ rk_kSize z x0 x1 = 0 := fun q9 => hk ((rk_kSize_eq hz1).symm.trans q9)
    have q2 := c_X4_size l dC dI cI cL aR cd (nI d) fr le fi neR ar pr (nI spN) (nI epN) (nI k) cf cp (sR.1) (sR.2.1) (sR.2.2.1) (sR.2.2.2.1) (sR.2.2.2.2.1) (sR.2.2.2.2.2.1) (sR.2.2.2.2.2.2) fs z x0 x1 H.size hz1
    simp only [if_neg hk2] at q2
    refine dk_calli (wr := dk_C cI cII aC cf cp (nI k) ++ dk_SW cI cII aB (aN 0) FB lB eB sB ++ dk_SW cI cII aH (aN 0) FH lH eH sH ++ dk_X cI cII aX (aN 0) (aC 0) (aB 0) (aH 0) (nI epN) ol ++ dk_N cI cII aN fr le fi ne fl (nI d) ar pr (nI z) (nI spN) ++ dk_O cL ao fo) (va_runV (As := [.int x0, .int x1]) (rest := []) ⟨hx, hb, hml, hown, hT⟩ q2 (cwV 2 hT (dk_gV mw_551 mw_552 mw_553 mw_27 mw_554) rfl rfl rfl (by decide +kernel) ⟨Nat.le_of_ble_eq_true rfl, Nat.le_of_ble_eq_true rfl⟩) (dk_preV hKr hP hD [29, 30, 31, 32, 33, 34, 35, 36, 37, 38, 39, 40, 41, 42] rfl rfl (q0 := 29) (ci := 4) rfl rfl) rfl rfl hl.1 rfl (lv_room (Nat.le_of_ble_eq_true rfl)) dl_288 ⟨show _ ≤ 665567 by omega, show _ ≤ 7099402 by omega⟩) hP hD hS hA [29, 30, 31, 32, 33, 34, 35, 36, 37, 38, 39, 40, 41, 42] [0, 1, 2, 3, 4, 5, 6, 7, 8, 9, 10, 11, 12, 13, 14, 15, 16, 17, 18, 19, 20, 21, 22, 23, 24, 25, 26, 27, 28, 43, 44, 45, 46, 47, 48, 49, 50, 51, 52] rfl rfl rfl (by decide) (fun r9 _ H locs h9 hP hD hS => ?_)
    subst h9
    have hP : va_P (dC, dI) vwCl (dk_C cI cII aC cf cp (nI k) ++ dk_SW cI cII aB (aN 0) FB lB eB sB ++ dk_SW cI cII aH (aN 0) FH lH eH sH ++ dk_X cI cII aX (aN 0) (aC 0) (aB 0) (aH 0) (nI epN) ol ++ dk_N cI cII aN fr le fi ne fl (nI d) ar pr (nI z) (nI spN) ++ dk_O cL ao fo ++ dk_R cI cL aR (rk_kSize z x0 x1) (nI d) fr le fi neR (nI z) ar pr (nI spN) (nI epN) (nI k) cf cp (sR.1) (sR.2.1) (sR.2.2.1) (sR.2.2.2.1) (sR.2.2.2.2.1) (sR.2.2.2.2.2.1) (sR.2.2.2.2.2.2) fs) H := hP
    have hD : va_D (fun q : Nat => s.heap.size ≤ q) (dk_C cI cII aC cf cp (nI k) ++ dk_SW cI cII aB (aN 0) FB lB eB sB ++ dk_SW cI cII aH (aN 0) FH lH eH sH ++ dk_X cI cII aX (aN 0) (aC 0) (aB 0) (aH 0) (nI epN) ol ++ dk_N cI cII aN fr le fi ne fl (nI d) ar pr (nI z) (nI spN) ++ dk_O cL ao fo ++ dk_R cI cL aR (rk_kSize z x0 x1) (nI d) fr le fi neR (nI z) ar pr (nI spN) (nI epN) (nI k) cf cp (sR.1) (sR.2.1) (sR.2.2.1) (sR.2.2.2.1) (sR.2.2.2.2.1) (sR.2.2.2.2.2.1) (sR.2.2.2.2.2.2) fs) := hD
    refine lv_istore (lv' := [(6, .int (0)), (5, .int (dk_kSize z x0 x1)), (4, .int (nI i)), (3, .ref (ao 0)), (2, .ref (aR 0)), (1, .ref (aX 0)), (0, .ref b)]) hx hb dl_291 hl (by decide) rfl (fun ls hl => ?_)
    refine lv_aload_n hx hb dl_293 rfl (lv_at hl 4 rfl) ?_
    refine dk_csi (va_runV (As := []) (rest := []) ⟨hx, hb, hml, hown, hT⟩ (c_X4_thrown l dC dI cI cL aR (rk_kSize z x0 x1) (nI d) fr le fi neR (nI z) ar pr (nI spN) (nI epN) (nI k) cf cp (sR.1) (sR.2.1) (sR.2.2.1) (sR.2.2.2.1) (sR.2.2.2.2.1) (sR.2.2.2.2.2.1) (sR.2.2.2.2.2.2) fs) (cwV 0 hT (dk_gV mw_529 mw_530 mw_531 mw_27 mw_532) rfl rfl rfl (by decide +kernel) ⟨Nat.le_of_ble_eq_true rfl, Nat.le_of_ble_eq_true rfl⟩) (dk_preRV hKr hP [39, 40, 41, 42, 43, 44, 45, 46, 47, 48, 49, 50, 51, 52] rfl (q0 := 39) (ci := 4) rfl rfl) rfl rfl hl.1 rfl (lv_room (Nat.le_of_ble_eq_true rfl)) dl_294 ⟨show _ ≤ 665567 by omega, show _ ≤ 7099402 by omega⟩) (fun r9 h9 => ?_)
    subst h9
    refine lv_iload hx hb dl_297 (lv_at hl 1 rfl) ?_
    refine lv_icmp_eq (tgt := 304) hx hb dl_299 (by decide) (fun c_299 => ?_) (fun c_299 => ?_)
    · refine lv_iload hx hb dl_304 (lv_at hl 1 rfl) ?_
      refine lv_if_ne (tgt := 321) hx hb dl_306 (by decide) (fun c_306 => ?_) (fun c_306 => ?_)
      · refine lv_goto (tgt := 902) hx hb dl_321 (by decide) ?_
        refine W.widen (k := cells + 4) (n := slots + 24) (by omega) (by omega) ?_
        exact hgo _ _ _ ⟨d, z, k, fr, le, fi, ne, fl, ar, pr, cf, cp, spN, epN, ol, FB, lB, eB, sB, FH, lH, eH, sH, (rk_kSize z x0 x1), neR, sR, fs, fo, frN, leN, fiN, neN, arN, prN, cfN, cpN, hI, hne, hla, hP.sub [29, 30, 31, 32, 33, 34, 35, 36, 37, 0, 1, 2, 3, 4, 5, 6, 7, 8, 9, 10, 11, 12, 13, 14, 15, 16, 17, 18, 19, 20, 21, 22, 23, 24, 25, 26, 27, 28, 39, 40, 41, 42, 43, 44, 45, 46, 47, 48, 49, 50, 51, 52, 38] rfl, hD.sub [29, 30, 31, 32, 33, 34, 35, 36, 37, 0, 1, 2, 3, 4, 5, 6, 7, 8, 9, 10, 11, 12, 13, 14, 15, 16, 17, 18, 19, 20, 21, 22, 23, 24, 25, 26, 27, 28, 39, 40, 41, 42, 43, 44, 45, 46, 47, 48, 49, 50, 51, 52, 38] (by decide) rfl⟩ hS (lv_sub hl [2, 3, 4, 5, 6] rfl)
      · exact absurd c_306 hk
    · exact absurd (rk_kSize_eq hz1) c_299
