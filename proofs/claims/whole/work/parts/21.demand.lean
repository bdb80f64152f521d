set_option maxHeartbeats 4000000 in
set_option maxRecDepth 100000 in
/-- demand(n, lo, hi) -/
theorem c_X3_demand (l : Launch) (hlt : l.stackTraces = false) (n lo hi : Int32) : dk_Dem l yX3_demand wsX3_demand ({ frames := 6, cells := 1, slots := 6, locals := 82 }) n lo hi := by
  refine dk_ofD (cc := cX3_demand) (by decide) rfl ?_
  intro p e s m args below meth c ls Q ⟨hx, hb, hml, hts, hown, hnm⟩ hlocks hno hl hE hQ hret
  have hT : ∀ w ∈ dk_tbl, w.before args s = true := fun w h => hts w (List.mem_cons_of_mem _ h)
  have hown : s.vm.findClass RX3 = some m.cls := hown
  have hl : lv_has ls 3 [(0, .int n), (1, .int lo), (2, .int hi)] := hl
  have hthrow : (n < lo ∨ hi < n) → W p l e ({ frames := 6, cells := 1, slots := 6, locals := 82 }) s m args below meth c s.heap [] 0 0 Q (F0 m 10 ls []) := by
    intro hc
    subst hQ
    obtain ⟨sa, hsa⟩ := hE.2.2.1 (133, "a number is out of its bounds") (by decide +kernel)
    exact vx_throwS (own := RX3) (cls := dk_IAE) (names := dk_ups) (A := (fun q => s.heap.size ≤ q)) hx hb hlt hown (by decide +kernel) (by decide +kernel) (hT _ mw_257) (hT _ mw_31) hsa (vx_hat (L := vx_atS RX3 135 dk_IAE dk_ups) (B := dk_badA) (fun w hw => hT w ((by decide +kernel : ∀ w ∈ (vx_atS RX3 135 dk_IAE dk_ups).filter goodWord, w ∈ dk_tbl) w hw)) (by decide +kernel) (fun w hw => va_Nw.use ((by decide +kernel : ∀ w ∈ dk_badA, w.onTables = true) w hw) (hE.2.2.2 w ((by decide +kernel : ∀ w ∈ dk_badA, w ∈ dk_badA ++ dk_badS) w hw)))) (by decide +kernel) hE.1 hE.2.1 va_S.rf (hl.1.trans hml.symm) dX3_demand_10 dX3_demand_13 dX3_demand_14 dX3_demand_16 dX3_demand_19 (fun x hx => (hno x hx).elim) (Nat.le_of_ble_eq_true rfl) (Nat.le_of_ble_eq_true rfl) (Nat.le_of_ble_eq_true rfl) (Nat.le_of_ble_eq_true rfl) hlocks (fun t ha hsz hk => ⟨rfl, hc, hsz, hk⟩) (fun _ h => by cases h) (Nat.le_of_ble_eq_true rfl) (Nat.le_of_ble_eq_true rfl)
  refine lv_iload_n hx hb dX3_demand_0 rfl (lv_at hl 0 rfl) ?_
  refine lv_iload_n hx hb dX3_demand_1 rfl (lv_at hl 1 rfl) ?_
  refine lv_icmp_lt (tgt := 10) hx hb dX3_demand_2 (by decide) (fun c_2 => ?_) (fun c_2 => ?_)
  · exact hthrow (Or.inl c_2)
  · refine lv_iload_n hx hb dX3_demand_5 rfl (lv_at hl 0 rfl) ?_
    refine lv_iload_n hx hb dX3_demand_6 rfl (lv_at hl 2 rfl) ?_
    refine lv_icmp_le (tgt := 20) hx hb dX3_demand_7 (by decide) (fun c_7 => ?_) (fun c_7 => ?_)
    · refine W.widen (k := 1) (n := 6) (by decide) (by decide) ?_
      exact hret _ _ (fun h => h.elim c_2 (fun h => Int32.not_lt.mpr c_7 h)) dX3_demand_20
    · exact hthrow (Or.inr (Int32.not_le.mp c_7))
