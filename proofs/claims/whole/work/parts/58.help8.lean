set_option maxHeartbeats 4000000 in
set_option maxRecDepth 100000 in
/-- the law's chosen -/
theorem c_L_chosen (l : Launch) (hlt : l.stackTraces = false) (dC : Nat → ClassId) (dI : Nat → Nat → Nat) (cI cII cL : ClassId) (aX : Nat → Nat) (ch : Nat) (ep : Int32) (ol : Int32) (aN : Nat → Nat) (fr : Nat → Int32) (le : Nat → Int32) (fi : Nat → Int32) (ne : Nat → Int32) (fl : Nat → Int32) (ar : Nat → Int32) (pr : Nat → Int32) (sp : Int32) (aC : Nat → Nat) (cf : Nat → Int32) (cp : Nat → Int32) (aB : Nat → Nat) (F : Nat → Nat → Int32) (li : Int32) (en : Int32) (d : Nat) (z : Nat) (k : Nat) (st : dk_SS) (x0 : Int32)  (ao : Nat → Nat) (fo : Nat → Int64) (hz : Nat) (hz1 : z ≤ 4) (hd1 : d ≤ 6) (hfr : ∀ k, k < 7 → vp_in (fr k) 7) (har : ∀ j, j < z → ¬ ar j = 0) (har2 : ∀ j, j < z → ¬ (ar j).toInt64 * (ar j).toInt64 = 0) (hk1 : k ≤ 5) (hcv : ∀ i, 0 < i → i < k → ¬ cf i - cf (i - 1) = 0) : dk_Li l yL_chosen wsL_chosen ({ frames := 17, cells := 1, slots := 6, locals := 417 }) (dC, dI) (dk_TL cI cII cL) [.ref (aX 0), .int x0, .ref (ao 0)] (dk_X cI cII aX (aN 0) (aC 0) (aB 0) ch ep ol ++ dk_N cI cII aN fr le fi ne fl (nI d) ar pr (nI z) sp ++ dk_C cI cII aC cf cp (nI k) ++ dk_SW cI cII aB (aN 0) F li en st ++ dk_O cL ao fo) hz (dk_kIn 1 d x0) (dk_X cI cII aX (aN 0) (aC 0) (aB 0) ch ep (if dk_kIn 1 d x0 = 0 then 0 else ol) ++ dk_N cI cII aN fr le fi ne fl (nI d) ar pr (nI z) sp ++ dk_C cI cII aC cf cp (nI k) ++ dk_SW cI cII aB (aN 0) (if dk_kIn 1 d x0 = 0 then (dk_bF ol d z le fi fl ar sp F) else F) (if dk_kIn 1 d x0 = 0 then (dk_bL ol cf cp k fl li) else li) (if dk_kIn 1 d x0 = 0 then (dk_bE ol ep en) else en) (if dk_kIn 1 d x0 = 0 then dk_bS ol d z fr le fi fl ar pr sp cf cp k ep F st else st) ++ dk_O cL ao (if dk_kIn 1 d x0 = 0 then vp_updL fo 0 (if (dk_bS ol d z fr le fi fl ar pr sp cf cp k ep F st).2.2.2.2.1 = 0 then (-1) else (dk_bS ol d z fr le fi fl ar pr sp cf cp k ep F st).2.2.1 x0.toNatClampNeg).toInt64 else fo)) 1 6 := by
  refine dk_ofLi (cc := cL_chosen) (maxL := 4) (hh := [(0, 9, 12, 13)]) (by decide) rfl (Nat.le_of_ble_eq_true rfl) ?_
  intro p e s m args below meth c A ls Q ⟨hx, hb, hml, hts, hown, hnm⟩ hlocks htab hsz hK hP hD hA hS hl hE hN hret
  have hT : ∀ w ∈ dk_tbl, w.before args s = true := fun w h => hts w (List.mem_cons_of_mem _ h)
  have hown : s.vm.findClass RL = some m.cls := hown
  have hK2 := hK.sub (tys' := dk_T cI cII) [0, 1] rfl
  have hl : lv_has ls 4 [(0, .ref (aX 0)), (1, .int x0), (2, .ref (ao 0))] := hl
  refine lv_aload_n hx hb dL_chosen_0 rfl (lv_at hl 2 rfl) ?_
  refine lv_iconst (v := 0) hx hb dL_chosen_1 (by decide) ?_
  refine lv_aload_n hx hb dL_chosen_2 rfl (lv_at hl 0 rfl) ?_
  refine lv_iload_n hx hb dL_chosen_3 rfl (lv_at hl 1 rfl) ?_
  refine dk_xcalli (wr := dk_O cL ao fo) (vx_runV (As := [.int x0]) (rest := [.int 0, .ref (ao 0)]) ⟨hx, hb, hml, hown, hT⟩ (c_X3_chosen l hlt dC dI cI cII aX ch ep ol aN fr le fi ne fl ar pr sp aC cf cp aB F li en d z k st x0 _ hz1 hd1 hfr har har2 hk1 hcv) (cwV 1 hT (dk_gV mw_429 mw_430 mw_431 mw_23 mw_432) rfl rfl rfl (by decide +kernel) ⟨Nat.le_of_ble_eq_true rfl, Nat.le_of_ble_eq_true rfl⟩) (dk_preXV hK2 hP hD hE hS hA [0, 1, 2, 3, 4, 5, 6, 7, 8, 9, 10, 11, 12, 13, 14, 15, 16, 17, 18, 19, 20, 21, 22, 23, 24] rfl rfl (q0 := 0) (ci := 3) rfl rfl) rfl rfl hl.1 rfl (lv_room (Nat.le_of_ble_eq_true rfl)) dL_chosen_4 ⟨Nat.le_of_ble_eq_true rfl, Nat.le_of_ble_eq_true rfl⟩) hP hD hS hA [0, 1, 2, 3, 4, 5, 6, 7, 8, 9, 10, 11, 12, 13, 14, 15, 16, 17, 18, 19, 20, 21, 22, 23, 24] [25] rfl rfl rfl (by decide) (fun E ce q9 H1 locs1 hpx hP1 hD1 hS1 h1 h2 h3 => ?_) (fun r9 _ H locs h9 hP hD hS => ?_)
  · rcases hpx with ⟨rfl, hk1⟩ | ⟨rfl, hk2⟩
    · have hk0 : ¬ dk_kIn 1 d x0 = 0 := by rw [hk1]; decide
      simp only [if_neg hk0] at hret
      refine vx_catch hown [] ((tableOf [(0, 9, 12, 13)])[0]) [] (by rw [htab]; rfl) (fun z h => absurd h List.not_mem_nil) (by decide) (by decide) (hT _ mw_248) (va_Nw.use (w := .castable dk_IAE dk_IAE) rfl (hE.2.2.2 _ (by decide +kernel))) h1 h2 h3 ?_
      refine lv_astore_n (lv' := [(3, .ref q9), (0, .ref (aX 0)), (1, .int x0), (2, .ref (ao 0))]) hx hb dL_chosen_12 rfl hl (by decide) rfl (fun ls hl => ?_)
      refine lv_iconst (v := 1) hx hb dL_chosen_13 (by decide) ?_
      refine W.widen (k := 1) (n := 6) (Nat.le_of_ble_eq_true rfl) (Nat.le_of_ble_eq_true rfl) ?_
      exact hret _ _ _ _ _ hk1.symm (hP1.sub [1, 2, 3, 4, 5, 6, 7, 8, 9, 10, 11, 12, 13, 14, 15, 16, 17, 18, 19, 20, 21, 22, 23, 24, 25, 0] rfl) (hD1.sub [1, 2, 3, 4, 5, 6, 7, 8, 9, 10, 11, 12, 13, 14, 15, 16, 17, 18, 19, 20, 21, 22, 23, 24, 25, 0] (by decide) rfl) hS1 dL_chosen_14
    · exact absurd hk2 dk_ne2In
  · obtain ⟨hk0, h7⟩ := h9
    rw [h7]
    simp only [if_pos hk0] at hret
    have hP : va_P (dC, dI) vwCl (dk_O cL ao fo ++ (dk_X cI cII aX (aN 0) (aC 0) (aB 0) ch ep 0 ++ dk_N cI cII aN fr le fi ne fl (nI d) ar pr (nI z) sp ++ dk_C cI cII aC cf cp (nI k) ++ dk_SW cI cII aB (aN 0) (dk_bF ol d z le fi fl ar sp F) (dk_bL ol cf cp k fl li) (dk_bE ol ep en) (dk_bS ol d z fr le fi fl ar pr sp cf cp k ep F st))) H := hP
    have hD : va_D A (dk_O cL ao fo ++ (dk_X cI cII aX (aN 0) (aC 0) (aB 0) ch ep 0 ++ dk_N cI cII aN fr le fi ne fl (nI d) ar pr (nI z) sp ++ dk_C cI cII aC cf cp (nI k) ++ dk_SW cI cII aB (aN 0) (dk_bF ol d z le fi fl ar sp F) (dk_bL ol cf cp k fl li) (dk_bE ol ep en) (dk_bS ol d z fr le fi fl ar pr sp cf cp k ep F st))) := hD
    refine lv_i2l (v := ((if (dk_bS ol d z fr le fi fl ar pr sp cf cp k ep F st).2.2.2.2.1 = 0 then (-1) else (dk_bS ol d z fr le fi fl ar pr sp cf cp k ep F st).2.2.1 x0.toNatClampNeg)).toInt64) hx hb dL_chosen_7 rfl ?_
    refine va_last hx hb hK hP hD hS 0 2 rfl rfl (by unfold vp_in; decide) dL_chosen_8 (fun H locs hP hD hS => ?_)
    have hP : va_P (dC, dI) vwCl (dk_O cL ao (vp_updL fo 0 (((if (dk_bS ol d z fr le fi fl ar pr sp cf cp k ep F st).2.2.2.2.1 = 0 then (-1) else (dk_bS ol d z fr le fi fl ar pr sp cf cp k ep F st).2.2.1 x0.toNatClampNeg)).toInt64)) ++ (dk_X cI cII aX (aN 0) (aC 0) (aB 0) ch ep 0 ++ dk_N cI cII aN fr le fi ne fl (nI d) ar pr (nI z) sp ++ dk_C cI cII aC cf cp (nI k) ++ dk_SW cI cII aB (aN 0) (dk_bF ol d z le fi fl ar sp F) (dk_bL ol cf cp k fl li) (dk_bE ol ep en) (dk_bS ol d z fr le fi fl ar pr sp cf cp k ep F st))) H := hP
    have hD : va_D A (dk_O cL ao (vp_updL fo 0 (((if (dk_bS ol d z fr le fi fl ar pr sp cf cp k ep F st).2.2.2.2.1 = 0 then (-1) else (dk_bS ol d z fr le fi fl ar pr sp cf cp k ep F st).2.2.1 x0.toNatClampNeg)).toInt64)) ++ (dk_X cI cII aX (aN 0) (aC 0) (aB 0) ch ep 0 ++ dk_N cI cII aN fr le fi ne fl (nI d) ar pr (nI z) sp ++ dk_C cI cII aC cf cp (nI k) ++ dk_SW cI cII aB (aN 0) (dk_bF ol d z le fi fl ar sp F) (dk_bL ol cf cp k fl li) (dk_bE ol ep en) (dk_bS ol d z fr le fi fl ar pr sp cf cp k ep F st))) := hD
    refine lv_goto (tgt := 15) hx hb dL_chosen_9 (by decide) ?_
    refine lv_iconst (v := 0) hx hb dL_chosen_15 (by decide) ?_
    refine W.widen (k := 1) (n := 6) (Nat.le_of_ble_eq_true rfl) (Nat.le_of_ble_eq_true rfl) ?_
    exact hret _ _ _ _ _ hk0.symm (hP.sub [1, 2, 3, 4, 5, 6, 7, 8, 9, 10, 11, 12, 13, 14, 15, 16, 17, 18, 19, 20, 21, 22, 23, 24, 25, 0] rfl) (hD.sub [1, 2, 3, 4, 5, 6, 7, 8, 9, 10, 11, 12, 13, 14, 15, 16, 17, 18, 19, 20, 21, 22, 23, 24, 25, 0] (by decide) rfl) hS dL_chosen_16
