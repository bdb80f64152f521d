set_option maxHeartbeats 4000000 in
set_option maxRecDepth 100000 in
/-- the law's told -/
theorem c_L_told (l : Launch) (hlt : l.stackTraces = false) (dC : Nat → ClassId) (dI : Nat → Nat → Nat) (cI cII cL : ClassId) (aX : Nat → Nat) (cv : Nat) (bs : Nat) (ch : Nat) (ep : Int32) (ol : Int32) (aN : Nat → Nat) (fr : Nat → Int32) (le : Nat → Int32) (fi : Nat → Int32) (ne : Nat → Int32) (fl : Nat → Int32) (ar : Nat → Int32) (pr : Nat → Int32) (sp : Int32) (d : Nat) (z : Nat) (x0 : Int32) (x1 : Int32) (x2 : Int32)  (ao : Nat → Nat) (fo : Nat → Int64) (hz : Nat) (h1 : d ≤ 6) (h2 : z ≤ 4) (har : ∀ j, j < z → ¬ ar j = 0) (har2 : ∀ j, j < z → ¬ (ar j).toInt64 * (ar j).toInt64 = 0) : dk_Li l yL_told wsL_told ({ frames := 8, cells := 3, slots := 18, locals := 127 }) (dC, dI) (dk_TL cI cII cL) [.ref (aX 0), .int x0, .int x1, .int x2, .ref (ao 0)] (dk_X cI cII aX (aN 0) cv bs ch ep ol ++ dk_N cI cII aN fr le fi ne fl (nI d) ar pr (nI z) sp ++ dk_O cL ao fo) hz (dk_kTold d z x0 x1 x2) (dk_X cI cII aX (aN 0) cv bs ch ep ol ++ dk_N cI cII aN fr le fi ne fl (nI d) ar pr (nI z) sp ++ dk_O cL ao (if dk_kTold d z x0 x1 x2 = 0 then vp_updL fo 0 (if x2 = 0 then dk_speed fl ar x0.toNatClampNeg x1.toNatClampNeg else dk_fall le fi fl ar x0.toNatClampNeg x1.toNatClampNeg).toInt64 else fo)) 3 18 := by
  refine dk_ofLi (cc := cL_told) (maxL := 6) (hh := [(0, 12, 15, 13)]) (by decide) rfl (Nat.le_of_ble_eq_true rfl) ?_
  intro p e s m args below meth c A ls Q ⟨hx, hb, hml, hts, hown, hnm⟩ hlocks htab hsz hK hP hD hA hS hl hE hN hret
  have hT : ∀ w ∈ dk_tbl, w.before args s = true := fun w h => hts w (List.mem_cons_of_mem _ h)
  have hown : s.vm.findClass RL = some m.cls := hown
  have hK2 := hK.sub (tys' := dk_T cI cII) [0, 1] rfl
  have hl : lv_has ls 6 [(0, .ref (aX 0)), (1, .int x0), (2, .int x1), (3, .int x2), (4, .ref (ao 0))] := hl
  refine lv_aload hx hb dL_told_0 (lv_at hl 4 rfl) ?_
  refine lv_iconst (v := 0) hx hb dL_told_2 (by decide) ?_
  refine lv_aload_n hx hb dL_told_3 rfl (lv_at hl 0 rfl) ?_
  refine lv_iload_n hx hb dL_told_4 rfl (lv_at hl 1 rfl) ?_
  refine lv_iload_n hx hb dL_told_5 rfl (lv_at hl 2 rfl) ?_
  refine lv_iload_n hx hb dL_told_6 rfl (lv_at hl 3 rfl) ?_
  refine dk_xcalli (wr := dk_O cL ao fo) (vx_runV (As := [.int x0, .int x1, .int x2]) (rest := [.int 0, .ref (ao 0)]) ⟨hx, hb, hml, hown, hT⟩ (c_X3_told l hlt dC dI cI cII aX cv bs ch ep ol aN fr le fi ne fl ar pr sp d z x0 x1 x2 _ h1 h2 har har2) (cwV 3 hT (dk_gV mw_413 mw_414 mw_415 mw_23 mw_416) rfl rfl rfl (by decide +kernel) ⟨Nat.le_of_ble_eq_true rfl, Nat.le_of_ble_eq_true rfl⟩) (dk_preXV hK2 hP hD hE hS hA [0, 1, 2, 3, 4, 5, 6, 7, 8] rfl rfl (q0 := 0) (ci := 3) rfl rfl) rfl rfl hl.1 rfl (lv_room (Nat.le_of_ble_eq_true rfl)) dL_told_7 ⟨Nat.le_of_ble_eq_true rfl, Nat.le_of_ble_eq_true rfl⟩) hP hD hS hA [0, 1, 2, 3, 4, 5, 6, 7, 8] [9] rfl rfl rfl (by decide) (fun E ce q9 H1 locs1 hpx hP1 hD1 hS1 h1 h2 h3 => ?_) (fun r9 _ H locs h9 hP hD hS => ?_)
  · rcases hpx with ⟨rfl, hk1⟩ | ⟨rfl, hk2⟩
    · have hk0 : ¬ dk_kTold d z x0 x1 x2 = 0 := by rw [hk1]; decide
      simp only [if_neg hk0] at hret
      refine vx_catch hown [] ((tableOf [(0, 12, 15, 13)])[0]) [] (by rw [htab]; rfl) (fun z h => absurd h List.not_mem_nil) (by decide) (by decide) (hT _ mw_248) (va_Nw.use (w := .castable dk_IAE dk_IAE) rfl (hE.2.2.2 _ (by decide +kernel))) h1 h2 h3 ?_
      refine lv_astore (lv' := [(5, .ref q9), (0, .ref (aX 0)), (1, .int x0), (2, .int x1), (3, .int x2), (4, .ref (ao 0))]) hx hb dL_told_15 hl (by decide) rfl (fun ls hl => ?_)
      refine lv_iconst (v := 1) hx hb dL_told_17 (by decide) ?_
      refine W.widen (k := 3) (n := 18) (Nat.le_of_ble_eq_true rfl) (Nat.le_of_ble_eq_true rfl) ?_
      exact hret _ _ _ _ _ hk1.symm (hP1.sub [1, 2, 3, 4, 5, 6, 7, 8, 9, 0] rfl) (hD1.sub [1, 2, 3, 4, 5, 6, 7, 8, 9, 0] (by decide) rfl) hS1 dL_told_18
    · exact absurd hk2 dk_ne2Told
  · obtain ⟨hk0, h7⟩ := h9
    rw [h7]
    simp only [if_pos hk0] at hret
    have hP : va_P (dC, dI) vwCl (dk_O cL ao fo ++ (dk_X cI cII aX (aN 0) cv bs ch ep ol ++ dk_N cI cII aN fr le fi ne fl (nI d) ar pr (nI z) sp)) H := hP
    have hD : va_D A (dk_O cL ao fo ++ (dk_X cI cII aX (aN 0) cv bs ch ep ol ++ dk_N cI cII aN fr le fi ne fl (nI d) ar pr (nI z) sp)) := hD
    refine lv_i2l (v := ((if x2 = 0 then dk_speed fl ar x0.toNatClampNeg x1.toNatClampNeg else dk_fall le fi fl ar x0.toNatClampNeg x1.toNatClampNeg)).toInt64) hx hb dL_told_10 rfl ?_
    refine va_last hx hb hK hP hD hS 0 2 rfl rfl (by unfold vp_in; decide) dL_told_11 (fun H locs hP hD hS => ?_)
    have hP : va_P (dC, dI) vwCl (dk_O cL ao (vp_updL fo 0 (((if x2 = 0 then dk_speed fl ar x0.toNatClampNeg x1.toNatClampNeg else dk_fall le fi fl ar x0.toNatClampNeg x1.toNatClampNeg)).toInt64)) ++ (dk_X cI cII aX (aN 0) cv bs ch ep ol ++ dk_N cI cII aN fr le fi ne fl (nI d) ar pr (nI z) sp)) H := hP
    have hD : va_D A (dk_O cL ao (vp_updL fo 0 (((if x2 = 0 then dk_speed fl ar x0.toNatClampNeg x1.toNatClampNeg else dk_fall le fi fl ar x0.toNatClampNeg x1.toNatClampNeg)).toInt64)) ++ (dk_X cI cII aX (aN 0) cv bs ch ep ol ++ dk_N cI cII aN fr le fi ne fl (nI d) ar pr (nI z) sp)) := hD
    refine lv_goto (tgt := 19) hx hb dL_told_12 (by decide) ?_
    refine lv_iconst (v := 0) hx hb dL_told_19 (by decide) ?_
    refine W.widen (k := 3) (n := 18) (Nat.le_of_ble_eq_true rfl) (Nat.le_of_ble_eq_true rfl) ?_
    exact hret _ _ _ _ _ hk0.symm (hP.sub [1, 2, 3, 4, 5, 6, 7, 8, 9, 0] rfl) (hD.sub [1, 2, 3, 4, 5, 6, 7, 8, 9, 0] (by decide) rfl) hS dL_told_20
