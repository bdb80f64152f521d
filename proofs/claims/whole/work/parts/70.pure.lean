/-! PURE: the search over numbers. np: as the class goes (it leaves out what can't be better); nx: all choices, one behind another -/
section DkPure
/-- cost, pressure, sizes, pressures -/
abbrev dk_Bt : Type := Option (Nat × Nat × (Nat → Nat) × (Nat → Nat))
def dk_bt : dk_Bt → Nat → Nat → Bool
  | none, _, _ => true
  | some x, c, q => decide (c < x.1) || (decide (c = x.1) && decide (q < x.2.1))
theorem dk_bt_mono {b : dk_Bt} {c c1 q q1 : Nat} (hc : c ≤ c1) (hq : q ≤ q1) (h : dk_bt b c1 q1 = true) : dk_bt b c q = true := by
  cases b with
  | none => rfl
  | some x =>
    simp only [dk_bt, Bool.or_eq_true, Bool.and_eq_true, decide_eq_true_eq] at h ⊢
    omega
def dk_un (f : Nat → Nat) (i v : Nat) : Nat → Nat := fun a => if a = i then v else f a
/-- the numbers of a search: where a size may be, its fall, from where a duct comes, what a size costs there, the limit, the energy's price -/
def dk_g1 (fa : Nat → Nat → Nat) (fr : Nat → Nat) (tp : Nat → Nat) (i g j : Nat) : Nat := if g < tp (fr i) + fa i j then tp (fr i) + fa i j else g
def dk_np (ok : Nat → Nat → Bool) (fa : Nat → Nat → Nat) (fr : Nat → Nat) (cs : Nat → Nat → Nat) (li en z : Nat) : Nat → Nat → Nat → Nat → (Nat → Nat) → (Nat → Nat) → dk_Bt → dk_Bt
  | 0, _, p, g, ts, tp, _ => some (p + en * g, g, ts, tp)
  | k + 1, i, p, g, ts, tp, b => dk_loop (fun j b => if ok i j = false then b else if li < dk_g1 fa fr tp i g j then b else if dk_bt b (p + cs i j + en * dk_g1 fa fr tp i g j) (dk_g1 fa fr tp i g j) = false then b
      else dk_np ok fa fr cs li en z k (i + 1) (p + cs i j) (dk_g1 fa fr tp i g j) (dk_un ts i j) (dk_un tp i (tp (fr i) + fa i j)) b) z 0 b
def dk_nx (ok : Nat → Nat → Bool) (fa : Nat → Nat → Nat) (fr : Nat → Nat) (cs : Nat → Nat → Nat) (li en z : Nat) : Nat → Nat → Nat → Nat → (Nat → Nat) → (Nat → Nat) → dk_Bt → dk_Bt
  | 0, _, p, g, ts, tp, b => if li < g then b else if dk_bt b (p + en * g) g = false then b else some (p + en * g, g, ts, tp)
  | k + 1, i, p, g, ts, tp, b => dk_loop (fun j b => if ok i j = false then b
      else dk_nx ok fa fr cs li en z k (i + 1) (p + cs i j) (dk_g1 fa fr tp i g j) (dk_un ts i j) (dk_un tp i (tp (fr i) + fa i j)) b) z 0 b
theorem dk_loop_id {α : Type} {f : Nat → α → α} {x : α} (h : ∀ j, f j x = x) : ∀ n i, dk_loop f n i x = x := by
  intro n
  induction n with
  | zero => intro i; rfl
  | succ n ih =>
    intro i
    show dk_loop f n (i + 1) (f i x) = x
    rw [h i]
    exact ih (i + 1)
theorem dk_loop_congr {α : Type} {f g : Nat → α → α} (h : ∀ j x, f j x = g j x) : ∀ n i x, dk_loop f n i x = dk_loop g n i x := by
  intro n
  induction n with
  | zero => intro i x; rfl
  | succ n ih =>
    intro i x
    show dk_loop f n (i + 1) (f i x) = dk_loop g n (i + 1) (g i x)
    rw [h i x]
    exact ih (i + 1) (g i x)
theorem dk_g1_ge {fa : Nat → Nat → Nat} {fr tp : Nat → Nat} {i g j : Nat} : g ≤ dk_g1 fa fr tp i g j := by
  unfold dk_g1
  split
  · omega
  · exact Nat.le_refl _
/-- nothing behind a prefix that is too dear or too much is taken -/
theorem dk_nx_out {ok : Nat → Nat → Bool} {fa : Nat → Nat → Nat} {fr : Nat → Nat} {cs : Nat → Nat → Nat} {li en z : Nat} : ∀ (k i p g : Nat) (ts tp : Nat → Nat) (b : dk_Bt), (li < g ∨ dk_bt b (p + en * g) g = false) → dk_nx ok fa fr cs li en z k i p g ts tp b = b := by
  intro k
  induction k with
  | zero =>
    intro i p g ts tp b h
    unfold dk_nx
    split
    · rfl
    · rename_i h1
      rw [if_pos (h.resolve_left h1)]
  | succ k ih =>
    intro i p g ts tp b h
    unfold dk_nx
    refine dk_loop_id (fun j => ?_) z 0
    split
    · rfl
    · refine ih _ _ _ _ _ _ ?_
      have hg : g ≤ dk_g1 fa fr tp i g j := dk_g1_ge
      rcases h with h | h
      · exact Or.inl (Nat.lt_of_lt_of_le h hg)
      · right
        cases hb : dk_bt b (p + cs i j + en * dk_g1 fa fr tp i g j) (dk_g1 fa fr tp i g j) with
        | false => rfl
        | true =>
          have h2 : p + en * g ≤ p + cs i j + en * dk_g1 fa fr tp i g j := by
            have := Nat.mul_le_mul_left en hg
            omega
          have h3 := dk_bt_mono h2 hg hb
          rw [h] at h3
          cases h3
/-- leaving out what can't be better changes nothing -/
theorem dk_np_eq {ok : Nat → Nat → Bool} {fa : Nat → Nat → Nat} {fr : Nat → Nat} {cs : Nat → Nat → Nat} {li en z : Nat} : ∀ (k i p g : Nat) (ts tp : Nat → Nat) (b : dk_Bt), (¬ li < g ∧ dk_bt b (p + en * g) g = true) → dk_np ok fa fr cs li en z k i p g ts tp b = dk_nx ok fa fr cs li en z k i p g ts tp b := by
  intro k
  induction k with
  | zero =>
    intro i p g ts tp b h
    unfold dk_np dk_nx
    rw [if_neg h.1, if_neg (by rw [h.2]; decide)]
  | succ k ih =>
    intro i p g ts tp b h
    unfold dk_np dk_nx
    refine dk_loop_congr (fun j b => ?_) z 0 b
    split
    · rfl
    · split
      · rename_i h1
        exact (dk_nx_out _ _ _ _ _ _ _ (Or.inl h1)).symm
      · rename_i h1
        split
        · rename_i h2
          exact (dk_nx_out _ _ _ _ _ _ _ (Or.inr h2)).symm
        · rename_i h2
          exact ih _ _ _ _ _ _ ⟨h1, by
            cases hb : dk_bt b (p + cs i j + en * dk_g1 fa fr tp i g j) (dk_g1 fa fr tp i g j) with
            | false => exact absurd hb h2
            | true => rfl⟩
end DkPure
