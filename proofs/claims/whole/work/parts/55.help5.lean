set_option maxHeartbeats 4000000 in
set_option maxRecDepth 100000 in
/-- the law's flow -/
theorem c_L_flow (l : Launch) (hlt : l.stackTraces = false) (dC : Nat → ClassId) (dI : Nat → Nat → Nat) (cI cII cL : ClassId) (aX : Nat → Nat) (cv : Nat) (bs : Nat) (ch : Nat) (ep : Int32) (ol : Int32) (aN : Nat → Nat) (fr : Nat → Int32) (le : Nat → Int32) (fi : Nat → Int32) (ne : Nat → Int32) (fl : Nat → Int32) (ar : Nat → Int32) (pr : Nat → Int32) (sz : Int32) (sp : Int32) (d : Nat) (x0 : Int32)  (ao : Nat → Nat) (fo : Nat → Int64) (hz : Nat) (h1 : d ≤ 6) : dk_Li l yL_flow wsL_flow ({ frames := 8, cells := 1, slots := 6, locals := 125 }) (dC, dI) (dk_TL cI cII cL) [.ref (aX 0), .int x0, .ref (ao 0)] (dk_X cI cII aX (aN 0) cv bs ch ep ol ++ dk_N cI cII aN fr le fi ne fl (nI d) ar pr sz sp ++ dk_O cL ao fo) hz (dk_kIn 1 d x0) (dk_X cI cII aX (aN 0) cv bs ch ep ol ++ dk_N cI cII aN fr le fi ne fl (nI d) ar pr sz sp ++ dk_O cL ao (if dk_kIn 1 d x0 = 0 then vp_updL fo 0 (fl x0.toNatClampNeg).toInt64 else fo)) 1 6 := by
  refine dk_ofLi (cc := cL_flow) (maxL := 4) (hh := [(0, 9, 12, 13)]) (by decide) rfl (Nat.le_of_ble_eq_true rfl) ?_
  intro p e s m args below meth c A ls Q ⟨hx, hb, hml, hts, hown, hnm⟩ hlocks htab hsz hK hP hD hA hS hl hE hN hret
  have hT : ∀ w ∈ dk_tbl, w.before args s = true := fun w h => hts w (List.mem_cons_of_mem _ h)
  have hown : s.vm.findClass RL = some m.cls := hown
  have hK2 := hK.sub (tys' := dk_T cI cII) [0, 1] rfl
  have hl : lv_has ls 4 [(0, .ref (aX 0)), (1, .int x0), (2, .ref (ao 0))] := hl
  refine lv_aload_n hx hb dL_flow_0 rfl (lv_at hl 2 rfl) ?_
  refine lv_iconst (v := 0) hx hb dL_flow_1 (by decide) ?_
  refine lv_aload_n hx hb dL_flow_2 rfl (lv_at hl 0 rfl) ?_
  refine lv_iload_n hx hb dL_flow_3 rfl (lv_at hl 1 rfl) ?_
  refine dk_xcalli (wr := dk_O cL ao fo) (vx_runV (As := [.int x0]) (rest := [.int 0, .ref (ao 0)]) ⟨hx, hb, hml, hown, hT⟩ (c_X3_flow l hlt dC dI cI cII aX cv bs ch ep ol aN fr le fi ne fl ar pr sz sp d x0 _ h1) (cwV 1 hT (dk_gV mw_406 mw_407 mw_408 mw_23 mw_409) rfl rfl rfl (by decide +kernel) ⟨Nat.le_of_ble_eq_true rfl, Nat.le_of_ble_eq_true rfl⟩) (dk_preXV hK2 hP hD hE hS hA [0, 1, 2, 3, 4, 5, 6, 7, 8] rfl rfl (q0 := 0) (ci := 3) rfl rfl) rfl rfl hl.1 rfl (lv_room (Nat.le_of_ble_eq_true rfl)) dL_flow_4 ⟨Nat.le_of_ble_eq_true rfl, Nat.le_of_ble_eq_true rfl⟩) hP hD hS hA [0, 1, 2, 3, 4, 5, 6, 7, 8] [9] rfl rfl rfl (by decide) (fun E ce q9 H1 locs1 hpx hP1 hD1 hS1 h1 h2 h3 => ?_) (fun r9 _ H locs h9 hP hD hS => ?_)
  · rcases hpx with ⟨rfl, hk1⟩ | ⟨rfl, hk2⟩
    · have hk0 : ¬ dk_kIn 1 d x0 = 0 := by rw [hk1]; decide
      simp only [if_neg hk0] at hret
      refine vx_catch hown [] ((tableOf [(0, 9, 12, 13)])[0]) [] (by rw [htab]; rfl) (fun z h => absurd h List.not_mem_nil) (by decide) (by decide) (hT _ mw_248) (va_Nw.use (w := .castable dk_IAE dk_IAE) rfl (hE.2.2.2 _ (by decide +kernel))) h1 h2 h3 ?_
      refine lv_astore_n (lv' := [(3, .ref q9), (0, .ref (aX 0)), (1, .int x0), (2, .ref (ao 0))]) hx hb dL_flow_12 rfl hl (by decide) rfl (fun ls hl => ?_)
      refine lv_iconst (v := 1) hx hb dL_flow_13 (by decide) ?_
      refine W.widen (k := 1) (n := 6) (Nat.le_of_ble_eq_true rfl) (Nat.le_of_ble_eq_true rfl) ?_
      exact hret _ _ _ _ _ hk1.symm (hP1.sub [1, 2, 3, 4, 5, 6, 7, 8, 9, 0] rfl) (hD1.sub [1, 2, 3, 4, 5, 6, 7, 8, 9, 0] (by decide) rfl) hS1 dL_flow_14
    · exact absurd hk2 dk_ne2In
  · obtain ⟨hk0, h7⟩ := h9
    rw [h7]
    simp only [if_pos hk0] at hret
    have hP : va_P (dC, dI) vwCl (dk_O cL ao fo ++ (dk_X cI cII aX (aN 0) cv bs ch ep ol ++ dk_N cI cII aN fr le fi ne fl (nI d) ar pr sz sp)) H := hP
    have hD : va_D A (dk_O cL ao fo ++ (dk_X cI cII aX (aN 0) cv bs ch ep ol ++ dk_N cI cII aN fr le fi ne fl (nI d) ar pr sz sp)) := hD
    refine lv_i2l (v := ((fl x0.toNatClampNeg)).toInt64) hx hb dL_flow_7 rfl ?_
    refine va_last hx hb hK hP hD hS 0 2 rfl rfl (by unfold vp_in; decide) dL_flow_8 (fun H locs hP hD hS => ?_)
    have hP : va_P (dC, dI) vwCl (dk_O cL ao (vp_updL fo 0 (((fl x0.toNatClampNeg)).toInt64)) ++ (dk_X cI cII aX (aN 0) cv bs ch ep ol ++ dk_N cI cII aN fr le fi ne fl (nI d) ar pr sz sp)) H := hP
    have hD : va_D A (dk_O cL ao (vp_updL fo 0 (((fl x0.toNatClampNeg)).toInt64)) ++ (dk_X cI cII aX (aN 0) cv bs ch ep ol ++ dk_N cI cII aN fr le fi ne fl (nI d) ar pr sz sp)) := hD
    refine lv_goto (tgt := 15) hx hb dL_flow_9 (by decide) ?_
    refine lv_iconst (v := 0) hx hb dL_flow_15 (by decide) ?_
    refine W.widen (k := 1) (n := 6) (Nat.le_of_ble_eq_true rfl) (Nat.le_of_ble_eq_true rfl) ?_
    exact hret _ _ _ _ _ hk0.symm (hP.sub [1, 2, 3, 4, 5, 6, 7, 8, 9, 0] rfl) (hD.sub [1, 2, 3, 4, 5, 6, 7, 8, 9, 0] (by decide) rfl) hS dL_flow_16
