/-! BEST: a run of the class's search is the best of all choices, by the numbers -/
section DkBest
theorem dk_loop_inv {α : Type} {f : Nat → α → α} {R : α → Prop} (h : ∀ j x, R x → R (f j x)) : ∀ n j x, R x → R (dk_loop f n j x) := by
  intro n
  induction n with
  | zero => intro j x hx; exact hx
  | succ n ih => intro j x hx; exact ih (j + 1) _ (h j x hx)
theorem dk_place_pa0 {d z : Nat} {fr le pr : Nat → Int32} {F : Nat → Nat → Int32} {li en : Int32} : ∀ (k i : Nat) (p g : Int32) (st : dk_SS), (dk_place d z fr le pr F li en k i p g st).2.2.2.1 0 = st.2.2.2.1 0 := by
  intro k
  induction k with
  | zero =>
    intro i p g st
    show dk_cpL st.2.1 d 1 st.2.2.2.1 0 = _
    rw [dk_cpL_get, if_neg (by omega)]
  | succ k ih =>
    intro i p g st
    refine dk_loop_inv (R := fun x : dk_SS => x.2.2.2.1 0 = st.2.2.2.1 0) (fun j x hx => ?_) z 0 st rfl
    unfold dk_try
    split
    · exact hx
    · unfold dk_step
      generalize (if g < x.2.1 (fr i).toNatClampNeg + F i j then x.2.1 (fr i).toNatClampNeg + F i j else g) = g1
      split
      · exact hx
      · split
        · exact hx
        · rw [ih]
          exact hx
/-- the network's numbers -/
def dk_Nn (d z : Nat) (fr le fi fl ar pr : Nat → Int32) (sp : Int32) (frN leN fiN flN arN prN : Nat → Nat) (spN : Nat) : Prop :=
  d ≤ 6 ∧ z ≤ 4 ∧ (∀ i, 1 ≤ i → i ≤ d → fr i = nI (frN i) ∧ frN i < i ∧ le i = nI (leN i) ∧ leN i ≤ 100 ∧ fi i = nI (fiN i) ∧ fiN i ≤ 50) ∧ (∀ i, i ≤ d → fl i = nI (flN i) ∧ flN i ≤ 6000) ∧
  (∀ j, j < z → ar j = nI (arN j) ∧ 0 < arN j ∧ arN j ≤ 1000 ∧ pr j = nI (prN j) ∧ prN j ≤ 1000) ∧ sp = nI spN ∧ spN ≤ 100000
def dk_okN (flN arN : Nat → Nat) (spN : Nat) (i j : Nat) : Bool := !decide (spN < dk_spN (flN i) (arN j))
def dk_fN (leN fiN flN arN : Nat → Nat) (i j : Nat) : Nat := dk_faN (leN i) (fiN i) (flN i) (arN j)
def dk_bestN (d z : Nat) (frN leN fiN flN arN prN : Nat → Nat) (spN li en : Nat) : dk_Bt :=
  dk_nx (dk_okN flN arN spN) (dk_fN leN fiN flN arN) frN (fun i j => leN i * prN j) li en z d 1 0 0 (fun _ => 0) (fun _ => 0) none
theorem dk_Nn_Hy {d z : Nat} {fr le fi fl ar pr : Nat → Int32} {sp : Int32} {frN leN fiN flN arN prN : Nat → Nat} {spN : Nat} (h : dk_Nn d z fr le fi fl ar pr sp frN leN fiN flN arN prN spN) (F : Nat → Nat → Int32) {li en : Nat} (hli : li ≤ 300) (hen : en ≤ 1000) :
    dk_Hy d z fr le pr (dk_nr le fi fl ar sp z d 1 F) (nI li) (nI en) (dk_okN flN arN spN) (dk_fN leN fiN flN arN) frN leN prN li en := by
  obtain ⟨hd, hz, h1, h2, h3, h4, h5⟩ := h
  refine ⟨hd, hz, fun i a b => ⟨(h1 i a b).1, (h1 i a b).2.1, (h1 i a b).2.2.1, (h1 i a b).2.2.2.1⟩, fun j hj => ⟨(h3 j hj).2.2.2.1, (h3 j hj).2.2.2.2⟩, fun i j a b hj => ?_, rfl, hli, rfl, hen⟩
  obtain ⟨-, -, c1, c2, c3, c4⟩ := h1 i a b
  obtain ⟨d1, d2⟩ := h2 i b
  obtain ⟨e1, e2, e3, -, -⟩ := h3 j hj
  rw [dk_nr_get, if_pos (by omega), dk_fallAt_num d1 e1 c1 c3 h4 d2 e2 e3 c2 h5]
  by_cases q : spN < dk_spN (flN i) (arN j)
  · left
    refine ⟨?_, if_pos q⟩
    unfold dk_okN
    simp [q]
  · right
    refine ⟨?_, if_neg q, dk_faN_le c4⟩
    unfold dk_okN
    simp [q]
/-- a run of the search -/
theorem dk_run_num {d z : Nat} {fr le fi fl ar pr : Nat → Int32} {sp : Int32} {frN leN fiN flN arN prN : Nat → Nat} {spN : Nat} (h : dk_Nn d z fr le fi fl ar pr sp frN leN fiN flN arN prN spN) (F : Nat → Nat → Int32) {li en : Nat} (hli : li ≤ 300) (hen : en ≤ 1000) (ts tp so pa : Nat → Int32) (co ps : Int32) (h0 : tp 0 = 0) (h1 : pa 0 = 0) :
    dk_BR d (dk_place d z fr le pr (dk_nr le fi fl ar sp z d 1 F) (nI li) (nI en) d 1 0 0 (ts, tp, so, pa, 0, co, ps)) (dk_bestN d z frN leN fiN flN arN prN spN li en) ∧
    (dk_place d z fr le pr (dk_nr le fi fl ar sp z d 1 F) (nI li) (nI en) d 1 0 0 (ts, tp, so, pa, 0, co, ps)).2.1 0 = 0 ∧ (dk_place d z fr le pr (dk_nr le fi fl ar sp z d 1 F) (nI li) (nI en) d 1 0 0 (ts, tp, so, pa, 0, co, ps)).2.2.2.1 0 = 0 := by
  have r := dk_place_np (dk_Nn_Hy h F hli hen) d 1 0 0 (fun _ => 0) (fun _ => 0) none (ts, tp, so, pa, 0, co, ps) (by omega) (by omega) (by omega) (by omega) (fun a _ => by omega) (fun a h1 h2 => by omega) (fun a ha => by
    have e : a = 0 := by omega
    subst e
    exact h0) rfl
  rw [dk_np_eq d 1 0 0 (fun _ => 0) (fun _ => 0) none ⟨by omega, rfl⟩] at r
  refine ⟨r.1, ?_, ?_⟩
  · exact ((r.2 0 (by omega)).2).trans h0
  · exact (dk_place_pa0 _ _ _ _ _).trans h1
end DkBest
