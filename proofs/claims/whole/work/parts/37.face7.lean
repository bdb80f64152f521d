set_option maxHeartbeats 4000000 in
set_option maxRecDepth 100000 in
/-- DuctSizes.gives -/
theorem c_X3_gives (l : Launch) (dC : Nat → ClassId) (dI : Nat → Nat → Nat) (cI cII : ClassId) (aX : Nat → Nat) (bs : Nat) (ch : Nat) (ep : Int32) (ol : Int32) (aN : Nat → Nat) (fr : Nat → Int32) (le : Nat → Int32) (fi : Nat → Int32) (ne : Nat → Int32) (fl : Nat → Int32) (du : Int32) (ar : Nat → Int32) (pr : Nat → Int32) (sz : Int32) (sp : Int32) (aC : Nat → Nat) (cf : Nat → Int32) (cp : Nat → Int32) (k : Nat) (hk1 : k ≤ 5) (hcv : ∀ i, 0 < i → i < k → ¬ cf i - cf (i - 1) = 0) : dk_Ri l yX3_gives wsX3_gives ({ frames := 2, cells := 0, slots := 0, locals := 47 }) (dC, dI) (dk_T cI cII) [.ref (aX 0)] (dk_X cI cII aX (aN 0) (aC 0) bs ch ep ol ++ dk_N cI cII aN fr le fi ne fl du ar pr sz sp ++ dk_C cI cII aC cf cp (nI k)) (fun r => r = dk_gives cf cp k (fl 0)) := by
  refine dk_ofRi (cc := cX3_gives) (maxL := 1) (by decide) rfl (Nat.le_of_ble_eq_true rfl) ?_
  intro p e s m args below meth c ls Q H ⟨hx, hb, hml, hts, hown, hnm⟩ hK hP hl hret
  have hT : ∀ w ∈ dk_tbl, w.before args s = true := fun w h => hts w (List.mem_cons_of_mem _ h)
  have hown : s.vm.findClass RX3 = some m.cls := hown
  have hl : lv_has ls 1 [(0, .ref (aX 0))] := hl
  refine lv_aload_n hx hb dX3_gives_0 rfl (lv_at hl 0 rfl) ?_
  refine va_get (D := (dC, dI)) (ci := 3) (v := .ref (aC 0)) (C := RX3) (T := TX3) (N := 6) hx hb hT in_X3 hown hK hP 0 rfl rfl 1 (by decide) (hT _ mw_153) (fun _ h9 => h9) rfl dX3_gives_1 ?_
  refine lv_aload_n hx hb dX3_gives_4 rfl (lv_at hl 0 rfl) ?_
  refine va_get (D := (dC, dI)) (ci := 3) (v := .ref (aN 0)) (C := RX3) (T := TX3) (N := 6) hx hb hT in_X3 hown hK hP 0 rfl rfl 0 (by decide) (hT _ mw_152) (fun _ h9 => h9) rfl dX3_gives_5 ?_
  refine va_get (D := (dC, dI)) (ci := 1) (v := .ref (aN 5)) (C := RX1) (T := TX1) (N := 10) hx hb hT in_X1 hown hK hP 1 rfl rfl 4 (by decide) (hT _ mw_56) (fun _ h9 => h9) rfl dX3_gives_8 ?_
  refine lv_iconst (v := 0) hx hb dX3_gives_11 (by decide) ?_
  refine dk_iald (q0 := 6) (t0 := 0) (i := 0) hx hb hK hP rfl rfl (by decide) (by omega) (by decide) dX3_gives_12 ?_
  refine dk_csi (va_runV (As := [.int (fl 0)]) (rest := []) ⟨hx, hb, hml, hown, hT⟩ (c_X0_pressureAt l dC dI cI cII aC cf cp k (fl 0) hk1 hcv) (cwV 1 hT (dk_gV mw_175 mw_176 mw_177 mw_25 mw_178) rfl rfl rfl (by decide +kernel) ⟨(Nat.le_of_ble_eq_true rfl), (Nat.le_of_ble_eq_true rfl)⟩) (dk_preRV hK hP [9, 10, 11] rfl (q0 := 9) (ci := 0) rfl rfl) rfl rfl hl.1 rfl (lv_room (Nat.le_of_ble_eq_true rfl)) dX3_gives_13 ⟨Nat.le_of_ble_eq_true rfl, Nat.le_of_ble_eq_true rfl⟩) (fun r9 h9 => ?_)
  subst h9
  exact hret _ _ _ rfl dX3_gives_16
