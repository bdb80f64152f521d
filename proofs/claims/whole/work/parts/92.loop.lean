/-! LOOP: the law's loop, its start, the claim -/
theorem dl_39 : decode code 39 = .ok (.tableswitch 863 0 13 #[69, 149, 217, 285, 353, 421, 434, 490, 570, 626, 682, 738, 794, 850], 69) := by decide +kernel
theorem lw_len {L i : Nat} (hL : L ≤ 2048) (hi : i ≤ 2052) : (Int32.ofNat L - 4 < nI i) ↔ L < i + 4 := by
  rw [Int32.lt_iff_toInt_lt, nI_toInt (by omega), show (Int32.ofNat L - 4).toInt = (L : Int) - (4 : Nat) from pk_sub_toInt (a := L) (b := 4) (by omega) (by omega)]
  omega
set_option maxHeartbeats 8000000 in
set_option maxRecDepth 100000 in
theorem lw_loop {p : Program} {e : Env} {s : State} {m : MethodId} {below : List Frame} {meth : Method} {c : Code} (l : Launch) (hlt : l.stackTraces = false) {b L : Nat} {xs : Nat → Int32} (hL : L ≤ 2048) (C0 : lw_At p s m meth c b L xs) {dC : Nat → ClassId} {dI : Nat → Nat → Nat} {cI cII cL : ClassId} {aX aN aC aB aH aR ao : Nat → Nat} (hK : va_K (dC, dI) vwCl (dk_TL cI cII cL) s) (hE : dk_E (fun q : Nat => s.heap.size ≤ q) s) (hN : va_Nc dk_ISE dk_IAE s) :
    ∀ (n i : Nat) (H : Heap) (locs : List Loc) (ls : Array Slot) (cells slots : Nat), L ≤ i + 4 * n → i ≤ 2052 → cells + 4 * n ≤ 665567 → slots + 24 * n ≤ 7099402 → lw_I dC dI cI cII cL aX aN aC aB aH aR ao (fun q : Nat => s.heap.size ≤ q) H → va_S (fun q : Nat => s.heap.size ≤ q) s.heap H locs → lv_has ls 7 [(4, .int (nI i)), (3, .ref (ao 0)), (2, .ref (aR 0)), (1, .ref (aX 0)), (0, .ref b)] → W p l e room_1 s m #[Value.ref b] below meth c H locs cells slots (lw_Z below #[Value.ref b] s) (F0 m 23 ls []) := by
  have C1 := C0
  obtain ⟨hx, hb, hr, hml, hown, hts, hX, hbl, hlocks, hgv⟩ := C0
  have hbA : ¬ (fun q : Nat => s.heap.size ≤ q) b := Nat.not_le.mpr hbl
  intro n
  induction n with
  | zero =>
    intro i H locs ls cells slots h1 h2 h3 h4 hI hS hl
    refine lv_iload hx hb dl_23 (lv_at hl 0 rfl) ?_
    refine lv_aload_n hx hb dl_25 rfl (lv_at hl 4 rfl) ?_
    refine va_slen hx hb hX hbl hbA hS dl_26 ?_
    refine lv_iconst (v := 4) hx hb dl_27 (by decide) ?_
    refine lv_isub hx hb dl_28 ?_
    refine lv_icmp_gt (tgt := 908) hx hb dl_29 (by decide) (fun c_29 => ?_) (fun c_29 => ?_)
    · refine lv_iconst (v := 1) hx hb dl_908 (by decide) ?_
      refine va_forget (fun q hq => hS.2.2 q hq) ?_
      refine W.widen (k := 665567) (n := 7099402) (by omega) (by omega) ?_
      exact lw_ret hx hb hr hlocks dl_909
    · exact absurd ((lw_len hL h2).mpr (by omega)) c_29
  | succ n ih =>
    intro i H locs ls cells slots h1 h2 h3 h4 hI hS hl
    refine lv_iload hx hb dl_23 (lv_at hl 0 rfl) ?_
    refine lv_aload_n hx hb dl_25 rfl (lv_at hl 4 rfl) ?_
    refine va_slen hx hb hX hbl hbA hS dl_26 ?_
    refine lv_iconst (v := 4) hx hb dl_27 (by decide) ?_
    refine lv_isub hx hb dl_28 ?_
    refine lv_icmp_gt (tgt := 908) hx hb dl_29 (by decide) (fun c_29 => ?_) (fun c_29 => ?_)
    · refine lv_iconst (v := 1) hx hb dl_908 (by decide) ?_
      refine va_forget (fun q hq => hS.2.2 q hq) ?_
      refine W.widen (k := 665567) (n := 7099402) (by omega) (by omega) ?_
      exact lw_ret hx hb hr hlocks dl_909
    · have hi4 : i + 4 ≤ L := Nat.not_lt.mp (fun q => c_29 ((lw_len hL h2).mpr q))
      refine lv_aload_n hx hb dl_32 rfl (lv_at hl 4 rfl) ?_
      refine lv_iload hx hb dl_33 (lv_at hl 0 rfl) ?_
      refine dk_sld (j := i) hx hb hX hbl hbA hS rfl (by omega) (by omega) rfl dl_35 ?_
      refine lv_bipush (v := 15) hx hb dl_36 (by decide) ?_
      refine lv_iand hx hb dl_38 ?_
      obtain ⟨t, ht, et⟩ := pk_andE (xs i) (m := 15) 4 (by decide)
      refine lv_topi (fun y9 e9 => ?_)
      obtain rfl : y9 = nI t := by rw [e9]; exact et
      have hgo : ∀ (H : Heap) (locs : List Loc) (ls : Array Slot), lw_I dC dI cI cII cL aX aN aC aB aH aR ao (fun q : Nat => s.heap.size ≤ q) H → va_S (fun q : Nat => s.heap.size ≤ q) s.heap H locs → lv_has ls 7 [(4, .int (nI i)), (3, .ref (ao 0)), (2, .ref (aR 0)), (1, .ref (aX 0)), (0, .ref b)] → W p l e room_1 s m #[Value.ref b] below meth c H locs (cells + 4) (slots + 24) (lw_Z below #[Value.ref b] s) (F0 m 902 ls []) := by
        intro H locs ls hI hS hl
        refine lv_iinc (v := nI (i + 4)) (lv' := [(4, .int (nI (i + 4))), (3, .ref (ao 0)), (2, .ref (aR 0)), (1, .ref (aX 0)), (0, .ref b)]) hx hb dl_902 hl (k := 0) rfl (nI_add i 4) (by decide) rfl (fun ls hl => ?_)
        refine lv_goto (tgt := 23) hx hb dl_905 (by decide) ?_
        exact ih (i + 4) H locs ls (cells + 4) (slots + 24) (by omega) (by omega) (by omega) (by omega) hI hS (lv_sub hl [0, 1, 2, 3, 4] rfl)
      have ht : t < 16 := ht
      rcases (show t = 0 ∨ t = 1 ∨ t = 2 ∨ t = 3 ∨ t = 4 ∨ t = 5 ∨ t = 6 ∨ t = 7 ∨ t = 8 ∨ t = 9 ∨ t = 10 ∨ t = 11 ∨ t = 12 ∨ t = 13 ∨ t = 14 ∨ t = 15 by omega) with rfl | rfl | rfl | rfl | rfl | rfl | rfl | rfl | rfl | rfl | rfl | rfl | rfl | rfl | rfl | rfl
      · refine lv_tableIn (x := nI 0) (tgt := 108) hx hb dl_39 (by decide) (by decide) rfl (by decide) ?_
        exact lo_duct l hlt hL C1 hK hE hN hi4 (by omega) (by omega) hI hS hl hgo
      · refine lv_tableIn (x := nI 1) (tgt := 188) hx hb dl_39 (by decide) (by decide) rfl (by decide) ?_
        exact lo_need l hlt hL C1 hK hE hN hi4 (by omega) (by omega) hI hS hl hgo
      · refine lv_tableIn (x := nI 2) (tgt := 256) hx hb dl_39 (by decide) (by decide) rfl (by decide) ?_
        exact lo_size l hlt hL C1 hK hE hN hi4 (by omega) (by omega) hI hS hl hgo
      · refine lv_tableIn (x := nI 3) (tgt := 324) hx hb dl_39 (by decide) (by decide) rfl (by decide) ?_
        exact lo_set l hlt hL C1 hK hE hN hi4 (by omega) (by omega) hI hS hl hgo
      · refine lv_tableIn (x := nI 4) (tgt := 392) hx hb dl_39 (by decide) (by decide) rfl (by decide) ?_
        exact lo_fan l hlt hL C1 hK hE hN hi4 (by omega) (by omega) hI hS hl hgo
      · refine lv_tableIn (x := nI 5) (tgt := 460) hx hb dl_39 (by decide) (by decide) rfl (by decide) ?_
        exact lo_gives l hlt hL C1 hK hE hN hi4 (by omega) (by omega) hI hS hl hgo
      · refine lv_tableIn (x := nI 6) (tgt := 473) hx hb dl_39 (by decide) (by decide) rfl (by decide) ?_
        exact lo_flow l hlt hL C1 hK hE hN hi4 (by omega) (by omega) hI hS hl hgo
      · refine lv_tableIn (x := nI 7) (tgt := 529) hx hb dl_39 (by decide) (by decide) rfl (by decide) ?_
        exact lo_told l hlt hL C1 hK hE hN hi4 (by omega) (by omega) hI hS hl hgo
      · refine lv_tableIn (x := nI 8) (tgt := 609) hx hb dl_39 (by decide) (by decide) rfl (by decide) ?_
        exact lo_best l hlt hL C1 hK hE hN hi4 (by omega) (by omega) hI hS hl hgo
      · refine lv_tableIn (x := nI 9) (tgt := 665) hx hb dl_39 (by decide) (by decide) rfl (by decide) ?_
        exact lo_chosen l hlt hL C1 hK hE hN hi4 (by omega) (by omega) hI hS hl hgo
      · refine lv_tableIn (x := nI 10) (tgt := 721) hx hb dl_39 (by decide) (by decide) rfl (by decide) ?_
        exact lo_pressure l hlt hL C1 hK hE hN hi4 (by omega) (by omega) hI hS hl hgo
      · refine lv_tableIn (x := nI 11) (tgt := 777) hx hb dl_39 (by decide) (by decide) rfl (by decide) ?_
        exact lo_damper l hlt hL C1 hK hE hN hi4 (by omega) (by omega) hI hS hl hgo
      · refine lv_tableIn (x := nI 12) (tgt := 833) hx hb dl_39 (by decide) (by decide) rfl (by decide) ?_
        exact lo_least l hlt hL C1 hK hE hN hi4 (by omega) (by omega) hI hS hl hgo
      · refine lv_tableIn (x := nI 13) (tgt := 889) hx hb dl_39 (by decide) (by decide) rfl (by decide) ?_
        exact lo_worst l hlt hL C1 hK hE hN hi4 (by omega) (by omega) hI hS hl hgo
      · refine lv_tableOut (x := nI 14) (tgt := 902) hx hb dl_39 (Or.inr (by decide)) (by decide) ?_
        refine W.widen (k := cells + 4) (n := slots + 24) (by omega) (by omega) ?_
        exact hgo H locs ls hI hS hl
      · refine lv_tableOut (x := nI 15) (tgt := 902) hx hb dl_39 (Or.inr (by decide)) (by decide) ?_
        refine W.widen (k := cells + 4) (n := slots + 24) (by omega) (by omega) ?_
        exact hgo H locs ls hI hS hl
