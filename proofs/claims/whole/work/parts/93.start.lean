theorem lw_tys {s : State} {b : Nat} {dC : Nat → ClassId} {dI : Nat → Nat → Nat} (hKc : ∀ (k : Nat) (q : vw_C), vwCl[k]? = some q → u_Kn s q.1 q.2.1 q.2.2 (dC k) (dI k)) (h1 : (Cond.arrayClass .int).before #[Value.ref b] s = true) (h2 : va_AOA .int s) (h3 : (Cond.arrayClass .long).before #[Value.ref b] s = true) : ∃ cI cII cL, va_K (dC, dI) vwCl (dk_TL cI cII cL) s := by
  obtain ⟨cI, k1, p1, a1, a2, a3⟩ := Cond.arrayClass_spec h1
  obtain ⟨p2, cII, k2, b0, b1, b2, b3, b4⟩ := arrayOverA_spec h2
  obtain ⟨cL, k3, p3, c1, c2, c3⟩ := Cond.arrayClass_spec h3
  refine ⟨cI, cII, cL, hKc, fun k q hq => ?_⟩
  match k, hq with
  | 0, hq => cases hq; exact ⟨fun n z => ⟨fun k h => (by cases h), k1, a2, p1, a3⟩, a1⟩
  | 1, hq => cases hq; exact ⟨fun n z => ⟨fun k h => (by cases h), k2, b2, p2, b3⟩, b4⟩
  | 2, hq => cases hq; exact ⟨fun n z => ⟨fun k h => (by cases h), k3, c2, p3, c3⟩, c1⟩
  | k + 3, hq => simp at hq
set_option maxHeartbeats 8000000 in
set_option maxRecDepth 100000 in
theorem whole_start {p : Program} {e : Env} {s : State} {m : MethodId} {below : List Frame} {meth : Method} {c : Code} (l : Launch) (hlt : l.stackTraces = false) {b L : Nat} {xs : Nat → Int32} (hL : L ≤ 2048) (C0 : lw_At p s m meth c b L xs) : W p l e room_1 s m #[Value.ref b] below meth c s.heap [] 0 0 (lw_Z below #[Value.ref b] s) (entryFrame m ([Value.ref b] : List Value).toArray 7) := by
  have C1 := C0
  obtain ⟨hE, hN, hao, hn1, hn2⟩ := dk_entry C0
  obtain ⟨hx, hb, hr, hml, hown, hts, hX, hbl, hlocks, hgv⟩ := C0
  have hT : ∀ w ∈ dk_tbl, w.before #[Value.ref b] s = true := fun w h => hts w (List.mem_filter.mp h).1
  have hA : ∀ q : Nat, s.heap.size ≤ q → (fun q : Nat => s.heap.size ≤ q) q := fun _ h => h
  have hown : s.vm.findClass RL = some m.cls := hown
  obtain ⟨c0, iS0, hKn0⟩ := u_known (C := RX0) (T := TX0) (N := 3) (n := 3) hT in_X0 (hT _ mw_90)
  obtain ⟨c1, iS1, hKn1⟩ := u_known (C := RX1) (T := TX1) (N := 10) (n := 10) hT in_X1 (hT _ mw_43)
  obtain ⟨c2, iS2, hKn2⟩ := u_known (C := RX2) (T := TX2) (N := 11) (n := 11) hT in_X2 (hT _ mw_106)
  obtain ⟨c3, iS3, hKn3⟩ := u_known (C := RX3) (T := TX3) (N := 6) (n := 6) hT in_X3 (hT _ mw_35)
  obtain ⟨c4, iS4, hKn4⟩ := u_known (C := RX4) (T := TX4) (N := 22) (n := 22) hT in_X4 (hT _ mw_455)
  obtain ⟨dC, dI, hKc⟩ : ∃ (dC : Nat → ClassId) (dI : Nat → Nat → Nat), ∀ (k : Nat) (q : vw_C), vwCl[k]? = some q → u_Kn s q.1 q.2.1 q.2.2 (dC k) (dI k) := by
    refine ⟨fun k => if k = 0 then c0 else if k = 1 then c1 else if k = 2 then c2 else if k = 3 then c3 else c4, fun k => if k = 0 then iS0 else if k = 1 then iS1 else if k = 2 then iS2 else if k = 3 then iS3 else iS4, ?_⟩
    intro k q hq
    match k, hq with
    | 0, hq => cases hq; exact hKn0
    | 1, hq => cases hq; exact hKn1
    | 2, hq => cases hq; exact hKn2
    | 3, hq => cases hq; exact hKn3
    | 4, hq => cases hq; exact hKn4
    | k + 5, hq => simp at hq
  obtain ⟨cI, cII, cL, hK⟩ := lw_tys hKc (hT _ mw_88) hao (hT _ mw_528)
  have hKx := hK.sub (tys' := dk_T cI cII) [0, 1] rfl
  have hKr := hK.sub (tys' := dk_TR cI cL) [0, 2] rfl
  have hS : va_S (fun q : Nat => s.heap.size ≤ q) s.heap s.heap [] := va_S.rf
  have hP : va_P (dC, dI) vwCl [] s.heap := fun k q h => by simp at h
  have hD : va_D (fun q : Nat => s.heap.size ≤ q) [] := ⟨fun i j p q h => by simp at h, fun k q h => by simp at h⟩
  have hl := lv_entry ([.ref b]) (n := 7) (Nat.le_of_ble_eq_true rfl)
  rw [lg_entry_eq]
  generalize (lg_sl ([.ref b]) ++ List.replicate (7 - (lg_sl ([.ref b])).length) Slot.unset).toArray = ls at hl ⊢
  have hl : lv_has ls 7 [(0, .ref b)] := hl
  refine va_new (ci := 3) (fs := [.null, .null, .null, .null, .int 0, .int 0]) (C := RX3) (T := TX3) (N := 6) hx hb hT in_X3 tyX3 tyX3_ok hown (hT _ mw_34) (hT _ mw_35) (hT _ mw_23) hK hP hD hS hA rfl (fun j hj => by rcases (show j = 0 ∨ j = 1 ∨ j = 2 ∨ j = 3 ∨ j = 4 ∨ j = 5 by omega) with rfl | rfl | rfl | rfl | rfl | rfl <;> rfl) (Nat.le_of_ble_eq_true rfl) (Nat.le_of_ble_eq_true rfl) dl_0 (fun q0 H hP hD hS => ?_)
  have hP : va_P (dC, dI) vwCl [(q0, .inr (3, [.null, .null, .null, .null, .int 0, .int 0]))] H := hP
  have hD : va_D (fun q : Nat => s.heap.size ≤ q) [(q0, .inr (3, [.null, .null, .null, .null, .int 0, .int 0]))] := hD
  refine lv_dup hx hb dl_3 rfl ?_
  refine dk_callv (wr := []) (va_runI (As := []) (rest := [.ref q0]) ⟨hx, hb, hml, hown, hT⟩ (c_X3_init l dC dI cI cII q0 _) (cwI 0 hT (dk_gC mw_38) rfl rfl rfl (hT _ mw_23) (hT _ mw_36) (hT _ mw_37) rfl (by decide +kernel) ⟨Nat.le_of_ble_eq_true rfl, Nat.le_of_ble_eq_true rfl⟩) (dk_preI hKx hP hD [0] rfl rfl (fun U hW => ⟨dk_aoaMoved hW.alike hao, va_Nw.warmM hW hn1, va_Nw.warmM hW hn2⟩) (fun U g mk a h => h)) rfl rfl hl.1 rfl (lv_room (Nat.le_of_ble_eq_true rfl)) dl_4 ⟨Nat.le_of_ble_eq_true rfl, Nat.le_of_ble_eq_true rfl⟩) hP hD hS hA [0] [] rfl rfl rfl (by decide) (fun u H locs _ hP hD hS => ?_)
  obtain ⟨aN, aC, aB, aH⟩ := u
  have hP : va_P (dC, dI) vwCl (dk_X cI cII (fun _ => q0) (aN 0) (aC 0) (aB 0) (aH 0) 0 1 ++ dk_N cI cII aN (fun _ => 0) (fun _ => 0) (fun _ => 0) (fun _ => 0) (fun _ => 0) (nI 0) (fun _ => 0) (fun _ => 0) (nI 0) 100000 ++ dk_C cI cII aC (fun _ => 0) (fun _ => 0) (nI 0) ++ dk_S cI cII aB (aN 0) (fun _ _ => 0) (fun _ => 0) (fun _ => 0) 0 0 (fun _ => 0) (fun _ => 0) 0 0 0 ++ dk_S cI cII aH (aN 0) (fun _ _ => 0) (fun _ => 0) (fun _ => 0) 0 0 (fun _ => 0) (fun _ => 0) 0 0 0) H := hP
  have hD : va_D (fun q : Nat => s.heap.size ≤ q) (dk_X cI cII (fun _ => q0) (aN 0) (aC 0) (aB 0) (aH 0) 0 1 ++ dk_N cI cII aN (fun _ => 0) (fun _ => 0) (fun _ => 0) (fun _ => 0) (fun _ => 0) (nI 0) (fun _ => 0) (fun _ => 0) (nI 0) 100000 ++ dk_C cI cII aC (fun _ => 0) (fun _ => 0) (nI 0) ++ dk_S cI cII aB (aN 0) (fun _ _ => 0) (fun _ => 0) (fun _ => 0) 0 0 (fun _ => 0) (fun _ => 0) 0 0 0 ++ dk_S cI cII aH (aN 0) (fun _ _ => 0) (fun _ => 0) (fun _ => 0) 0 0 (fun _ => 0) (fun _ => 0) 0 0 0) := hD
  refine lv_astore_n (lv' := [(1, .ref q0), (0, .ref b)]) hx hb dl_7 rfl hl (by decide) rfl (fun ls hl => ?_)
  refine va_new (ci := 4) (fs := [.int 0, .int 0, .null, .null, .null, .null, .int 0, .null, .null, .int 0, .int 0, .int 0, .null, .null, .null, .null, .int 0, .long 0, .long 0, .null, .null, .null]) (C := RX4) (T := TX4) (N := 22) hx hb hT in_X4 tyX4 tyX4_ok hown (hT _ mw_454) (hT _ mw_455) (hT _ mw_27) hK hP hD hS hA rfl (fun j hj => by rcases (show j = 0 ∨ j = 1 ∨ j = 2 ∨ j = 3 ∨ j = 4 ∨ j = 5 ∨ j = 6 ∨ j = 7 ∨ j = 8 ∨ j = 9 ∨ j = 10 ∨ j = 11 ∨ j = 12 ∨ j = 13 ∨ j = 14 ∨ j = 15 ∨ j = 16 ∨ j = 17 ∨ j = 18 ∨ j = 19 ∨ j = 20 ∨ j = 21 by omega) with rfl | rfl | rfl | rfl | rfl | rfl | rfl | rfl | rfl | rfl | rfl | rfl | rfl | rfl | rfl | rfl | rfl | rfl | rfl | rfl | rfl | rfl <;> rfl) (Nat.le_of_ble_eq_true rfl) (Nat.le_of_ble_eq_true rfl) dl_8 (fun q8 H hP hD hS => ?_)
  have hP : va_P (dC, dI) vwCl (dk_X cI cII (fun _ => q0) (aN 0) (aC 0) (aB 0) (aH 0) 0 1 ++ dk_N cI cII aN (fun _ => 0) (fun _ => 0) (fun _ => 0) (fun _ => 0) (fun _ => 0) (nI 0) (fun _ => 0) (fun _ => 0) (nI 0) 100000 ++ dk_C cI cII aC (fun _ => 0) (fun _ => 0) (nI 0) ++ dk_S cI cII aB (aN 0) (fun _ _ => 0) (fun _ => 0) (fun _ => 0) 0 0 (fun _ => 0) (fun _ => 0) 0 0 0 ++ dk_S cI cII aH (aN 0) (fun _ _ => 0) (fun _ => 0) (fun _ => 0) 0 0 (fun _ => 0) (fun _ => 0) 0 0 0 ++ [(q8, .inr (4, [.int 0, .int 0, .null, .null, .null, .null, .int 0, .null, .null, .int 0, .int 0, .int 0, .null, .null, .null, .null, .int 0, .long 0, .long 0, .null, .null, .null]))]) H := hP
  have hD : va_D (fun q : Nat => s.heap.size ≤ q) (dk_X cI cII (fun _ => q0) (aN 0) (aC 0) (aB 0) (aH 0) 0 1 ++ dk_N cI cII aN (fun _ => 0) (fun _ => 0) (fun _ => 0) (fun _ => 0) (fun _ => 0) (nI 0) (fun _ => 0) (fun _ => 0) (nI 0) 100000 ++ dk_C cI cII aC (fun _ => 0) (fun _ => 0) (nI 0) ++ dk_S cI cII aB (aN 0) (fun _ _ => 0) (fun _ => 0) (fun _ => 0) 0 0 (fun _ => 0) (fun _ => 0) 0 0 0 ++ dk_S cI cII aH (aN 0) (fun _ _ => 0) (fun _ => 0) (fun _ => 0) 0 0 (fun _ => 0) (fun _ => 0) 0 0 0 ++ [(q8, .inr (4, [.int 0, .int 0, .null, .null, .null, .null, .int 0, .null, .null, .int 0, .int 0, .int 0, .null, .null, .null, .null, .int 0, .long 0, .long 0, .null, .null, .null]))]) := hD
  refine lv_dup hx hb dl_11 rfl ?_
  refine dk_callv (wr := dk_X cI cII (fun _ => q0) (aN 0) (aC 0) (aB 0) (aH 0) 0 1 ++ dk_N cI cII aN (fun _ => 0) (fun _ => 0) (fun _ => 0) (fun _ => 0) (fun _ => 0) (nI 0) (fun _ => 0) (fun _ => 0) (nI 0) 100000 ++ dk_C cI cII aC (fun _ => 0) (fun _ => 0) (nI 0) ++ dk_S cI cII aB (aN 0) (fun _ _ => 0) (fun _ => 0) (fun _ => 0) 0 0 (fun _ => 0) (fun _ => 0) 0 0 0 ++ dk_S cI cII aH (aN 0) (fun _ _ => 0) (fun _ => 0) (fun _ => 0) 0 0 (fun _ => 0) (fun _ => 0) 0 0 0) (va_runI (As := []) (rest := [.ref q8]) ⟨hx, hb, hml, hown, hT⟩ (c_X4_init l dC dI cI cL q8 _) (cwI 0 hT (dk_gC mw_458) rfl rfl rfl (hT _ mw_27) (hT _ mw_456) (hT _ mw_457) rfl (by decide +kernel) ⟨Nat.le_of_ble_eq_true rfl, Nat.le_of_ble_eq_true rfl⟩) (dk_preI hKr hP hD [38] rfl rfl (fun _ _ => trivial) (fun _ _ _ _ _ => trivial)) rfl rfl hl.1 rfl (lv_room (Nat.le_of_ble_eq_true rfl)) dl_12 ⟨Nat.le_of_ble_eq_true rfl, Nat.le_of_ble_eq_true rfl⟩) hP hD hS hA [38] [0, 1, 2, 3, 4, 5, 6, 7, 8, 9, 10, 11, 12, 13, 14, 15, 16, 17, 18, 19, 20, 21, 22, 23, 24, 25, 26, 27, 28, 29, 30, 31, 32, 33, 34, 35, 36, 37] rfl rfl rfl (by decide) (fun aR H locs hu hP hD hS => ?_)
  revert hP hD hS
  subst hu
  intro hP hD hS
  have hP : va_P (dC, dI) vwCl (dk_X cI cII (fun _ => q0) (aN 0) (aC 0) (aB 0) (aH 0) 0 1 ++ dk_N cI cII aN (fun _ => 0) (fun _ => 0) (fun _ => 0) (fun _ => 0) (fun _ => 0) (nI 0) (fun _ => 0) (fun _ => 0) (nI 0) 100000 ++ dk_C cI cII aC (fun _ => 0) (fun _ => 0) (nI 0) ++ dk_S cI cII aB (aN 0) (fun _ _ => 0) (fun _ => 0) (fun _ => 0) 0 0 (fun _ => 0) (fun _ => 0) 0 0 0 ++ dk_S cI cII aH (aN 0) (fun _ _ => 0) (fun _ => 0) (fun _ => 0) 0 0 (fun _ => 0) (fun _ => 0) 0 0 0 ++ dk_R cI cL aR 0 (nI 0) (fun _ => 0) (fun _ => 0) (fun _ => 0) (fun _ => 0) (nI 0) (fun _ => 0) (fun _ => 0) 100000 0 (nI 0) (fun _ => 0) (fun _ => 0) (fun _ => 0) (fun _ => 0) 0 0 0 (fun _ => 0) (fun _ => 0) (fun _ => 0)) H := hP
  have hD : va_D (fun q : Nat => s.heap.size ≤ q) (dk_X cI cII (fun _ => q0) (aN 0) (aC 0) (aB 0) (aH 0) 0 1 ++ dk_N cI cII aN (fun _ => 0) (fun _ => 0) (fun _ => 0) (fun _ => 0) (fun _ => 0) (nI 0) (fun _ => 0) (fun _ => 0) (nI 0) 100000 ++ dk_C cI cII aC (fun _ => 0) (fun _ => 0) (nI 0) ++ dk_S cI cII aB (aN 0) (fun _ _ => 0) (fun _ => 0) (fun _ => 0) 0 0 (fun _ => 0) (fun _ => 0) 0 0 0 ++ dk_S cI cII aH (aN 0) (fun _ _ => 0) (fun _ => 0) (fun _ => 0) 0 0 (fun _ => 0) (fun _ => 0) 0 0 0 ++ dk_R cI cL aR 0 (nI 0) (fun _ => 0) (fun _ => 0) (fun _ => 0) (fun _ => 0) (nI 0) (fun _ => 0) (fun _ => 0) 100000 0 (nI 0) (fun _ => 0) (fun _ => 0) (fun _ => 0) (fun _ => 0) 0 0 0 (fun _ => 0) (fun _ => 0) (fun _ => 0)) := hD
  refine lv_astore_n (lv' := [(2, .ref (aR 0)), (1, .ref q0), (0, .ref b)]) hx hb dl_15 rfl hl (by decide) rfl (fun ls hl => ?_)
  refine lv_iconst (v := 1) hx hb dl_16 (by decide) ?_
  refine va_newa (atype := .long) (ty := .long) (a0 := (1, .inr (.inl (fun _ => 0)))) hx hb (hT _ mw_528) rfl hK hP hD hS hA (fun cA => rfl) (by decide) (by decide) (by decide) (Nat.le_of_ble_eq_true rfl) (Nat.le_of_ble_eq_true rfl) dl_17 ?_
  intro q17 cA H hK1 hP hD hS
  have e1 : s.vm.findClass ("[" ++ FieldType.long.toString) = some cL := (hK.2 2 _ rfl).2
  have e2 : s.vm.findClass ("[" ++ FieldType.long.toString) = some cA := (hK1.2 3 _ rfl).2
  cases Option.some.inj (e1.symm.trans e2)
  refine lv_astore_n (lv' := [(3, .ref q17), (2, .ref (aR 0)), (1, .ref q0), (0, .ref b)]) hx hb dl_19 rfl hl (by decide) rfl (fun ls hl => ?_)
  refine lv_iconst (v := 0) hx hb dl_20 (by decide) ?_
  refine lv_istore (lv' := [(4, .int 0), (3, .ref q17), (2, .ref (aR 0)), (1, .ref q0), (0, .ref b)]) hx hb dl_21 hl (by decide) rfl (fun ls hl => ?_)
  refine W.widen (k := 1000) (n := 5000) (Nat.le_of_ble_eq_true rfl) (Nat.le_of_ble_eq_true rfl) ?_
  refine lw_loop l hlt hL C1 (aX := fun _ => q0) (aN := aN) (aC := aC) (aB := aB) (aH := aH) (aR := aR) (ao := fun _ => q17) hK hE hN 513 0 H _ ls 1000 5000 (by omega) (by decide) (by decide) (by decide) ⟨0, 0, 0, fun _ => 0, fun _ => 0, fun _ => 0, fun _ => 0, fun _ => 0, fun _ => 0, fun _ => 0, fun _ => 0, fun _ => 0, 100000, 0, 1, fun _ _ => 0, 0, 0, (fun _ => 0, fun _ => 0, fun _ => 0, fun _ => 0, 0, 0, 0), fun _ _ => 0, 0, 0, (fun _ => 0, fun _ => 0, fun _ => 0, fun _ => 0, 0, 0, 0), 0, fun _ => 0, (fun _ => 0, fun _ => 0, 0, 0, 0, fun _ => 0, fun _ => 0), fun _ => 0, fun _ => 0, fun _ => 0, fun _ => 0, fun _ => 0, fun _ => 0, fun _ => 0, fun _ => 0, fun _ => 0, fun _ => 0, ?_, ?_, rfl, hP.sub (ws' := lw_W cI cII cL (fun _ => q0) aN aC aB aH aR (fun _ => q17) 0 0 0 (fun _ => 0) (fun _ => 0) (fun _ => 0) (fun _ => 0) (fun _ => 0) (fun _ => 0) (fun _ => 0) (fun _ => 0) (fun _ => 0) 100000 0 1 (fun _ _ => 0) 0 0 (fun _ => 0, fun _ => 0, fun _ => 0, fun _ => 0, 0, 0, 0) (fun _ _ => 0) 0 0 (fun _ => 0, fun _ => 0, fun _ => 0, fun _ => 0, 0, 0, 0) 0 (fun _ => 0) (fun _ => 0, fun _ => 0, 0, 0, 0, fun _ => 0, fun _ => 0) (fun _ => 0) (fun _ => 0)) [0, 1, 2, 3, 4, 5, 6, 7, 8, 9, 10, 11, 12, 13, 14, 15, 16, 17, 18, 19, 20, 21, 22, 23, 24, 25, 26, 27, 28, 29, 30, 31, 32, 33, 34, 35, 36, 37, 38, 39, 40, 41, 42, 43, 44, 45, 46, 47, 48, 49, 50, 51, 52] rfl, hD.sub [0, 1, 2, 3, 4, 5, 6, 7, 8, 9, 10, 11, 12, 13, 14, 15, 16, 17, 18, 19, 20, 21, 22, 23, 24, 25, 26, 27, 28, 29, 30, 31, 32, 33, 34, 35, 36, 37, 38, 39, 40, 41, 42, 43, 44, 45, 46, 47, 48, 49, 50, 51, 52] (by decide) rfl⟩ hS (lv_sub hl [0, 1, 2, 3, 4] rfl)
  · exact dk_Inv_0
  · intro i h1 h2
    omega
