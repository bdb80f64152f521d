/-! FLOW: what sumFlows comes to: each node's flow is what it and all below it need -/
section DkFlow
/-- from v upwards, as long as the node is above n -/
def dk_cl (fr : Nat → Nat) (n : Nat) : Nat → Nat → Nat
  | 0, v => v
  | k + 1, v => if v ≤ n then v else dk_cl fr n k (fr v)
def dk_sm (f : Nat → Nat) : Nat → Nat
  | 0 => 0
  | m + 1 => dk_sm f m + f m
theorem dk_sm_congr {f g : Nat → Nat} : ∀ m, (∀ v, v < m → f v = g v) → dk_sm f m = dk_sm g m := by
  intro m
  induction m with
  | zero => intro _; rfl
  | succ m ih =>
    intro h
    show dk_sm f m + f m = dk_sm g m + g m
    rw [ih (fun v hv => h v (by omega)), h m (by omega)]
theorem dk_sm_add {f g : Nat → Nat} : ∀ m, dk_sm (fun v => f v + g v) m = dk_sm f m + dk_sm g m := by
  intro m
  induction m with
  | zero => rfl
  | succ m ih =>
    show dk_sm (fun v => f v + g v) m + (f m + g m) = dk_sm f m + f m + (dk_sm g m + g m)
    rw [ih]
    omega
theorem dk_sm_le {f : Nat → Nat} {c : Nat} : ∀ m, (∀ v, v < m → f v ≤ c) → dk_sm f m ≤ m * c := by
  intro m
  induction m with
  | zero => intro _; exact Nat.zero_le _
  | succ m ih =>
    intro h
    show dk_sm f m + f m ≤ (m + 1) * c
    rw [Nat.add_mul, Nat.one_mul]
    exact Nat.add_le_add (ih (fun v hv => h v (by omega))) (h m (by omega))
theorem dk_cl_low {fr : Nat → Nat} {n : Nat} : ∀ k v, v ≤ n → dk_cl fr n k v = v := by
  intro k v h
  cases k with
  | zero => rfl
  | succ k =>
    show (if v ≤ n then v else _) = v
    rw [if_pos h]
theorem dk_cl_pred {fr : Nat → Nat} {n d : Nat} (hfr : ∀ v, 1 ≤ v → v ≤ d → fr v < v) (hn : n + 1 ≤ d) : ∀ k v, v ≤ k → v ≤ d → dk_cl fr n k v = if dk_cl fr (n + 1) k v = n + 1 then fr (n + 1) else dk_cl fr (n + 1) k v := by
  intro k
  induction k with
  | zero =>
    intro v hv _
    have e : v = 0 := by omega
    subst e
    show 0 = if 0 = n + 1 then _ else 0
    rw [if_neg (by omega)]
  | succ k ih =>
    intro v hv hd
    have h1 := hfr (n + 1) (by omega) hn
    by_cases q : v ≤ n
    · rw [dk_cl_low _ _ q, dk_cl_low _ _ (show v ≤ n + 1 by omega), if_neg (by omega)]
    · by_cases q2 : v = n + 1
      · subst q2
        rw [dk_cl_low (n := n + 1) _ _ (Nat.le_refl _), if_pos rfl]
        show (if n + 1 ≤ n then _ else dk_cl fr n k (fr (n + 1))) = _
        rw [if_neg (by omega)]
        exact dk_cl_low _ _ (by omega)
      · have e1 : dk_cl fr n (k + 1) v = dk_cl fr n k (fr v) := by
          show (if v ≤ n then v else _) = _
          rw [if_neg q]
        have e2 : dk_cl fr (n + 1) (k + 1) v = dk_cl fr (n + 1) k (fr v) := by
          show (if v ≤ n + 1 then v else _) = _
          rw [if_neg (by omega)]
        rw [e1, e2]
        have h3 := hfr v (by omega) hd
        exact ih (fr v) (by omega) (by omega)
/-- what comes down to a, with the nodes above n done -/
def dk_Sf (fr ne : Nat → Nat) (d n a : Nat) : Nat := dk_sm (fun v => if dk_cl fr n d v = a then ne v else 0) (d + 1)
theorem dk_Sf_pred {fr ne : Nat → Nat} {d n a : Nat} (hfr : ∀ v, 1 ≤ v → v ≤ d → fr v < v) (hn : n + 1 ≤ d) (ha : a ≤ n) : dk_Sf fr ne d n a = dk_Sf fr ne d (n + 1) a + (if fr (n + 1) = a then dk_Sf fr ne d (n + 1) (n + 1) else 0) := by
  unfold dk_Sf
  by_cases q : fr (n + 1) = a
  · rw [if_pos q, ← dk_sm_add]
    refine dk_sm_congr _ (fun v hv => ?_)
    show (if dk_cl fr n d v = a then ne v else 0) = (if dk_cl fr (n + 1) d v = a then ne v else 0) + (if dk_cl fr (n + 1) d v = n + 1 then ne v else 0)
    rw [dk_cl_pred hfr hn d v (by omega) (by omega)]
    by_cases q2 : dk_cl fr (n + 1) d v = n + 1
    · rw [if_pos q2, if_pos q, if_neg (by omega), if_pos q2, Nat.zero_add]
    · rw [if_neg q2, if_neg q2]
      exact (Nat.add_zero _).symm
  · rw [if_neg q, Nat.add_zero]
    refine dk_sm_congr _ (fun v hv => ?_)
    show (if dk_cl fr n d v = a then ne v else 0) = (if dk_cl fr (n + 1) d v = a then ne v else 0)
    rw [dk_cl_pred hfr hn d v (by omega) (by omega)]
    by_cases q2 : dk_cl fr (n + 1) d v = n + 1
    · rw [if_pos q2, if_neg q, if_neg (by omega)]
    · rw [if_neg q2]
/-- a node's flow -/
def dk_fl (fr ne : Nat → Nat) (d a : Nat) : Nat := dk_Sf fr ne d a a
theorem dk_up_get {d : Nat} {fr : Nat → Int32} {frN ne : Nat → Nat} (hd : d ≤ 6) (hfr : ∀ v, 1 ≤ v → v ≤ d → frN v < v) (hfI : ∀ v, 1 ≤ v → v ≤ d → fr v = nI (frN v)) :
    ∀ (n : Nat) (f : Nat → Int32), n ≤ d → (∀ a, a ≤ d → f a = nI (if a ≤ n then dk_Sf frN ne d n a else dk_fl frN ne d a)) → ∀ a, a ≤ d → dk_up fr n f a = nI (dk_fl frN ne d a) := by
  intro n
  induction n with
  | zero =>
    intro f _ h a ha
    show f a = _
    rw [h a ha]
    by_cases q : a ≤ 0
    · have e : a = 0 := by omega
      subst e
      rw [if_pos q]
      rfl
    · rw [if_neg q]
  | succ n ih =>
    intro f hn h
    have e1 : (fr (n + 1)).toNatClampNeg = frN (n + 1) := by
      rw [hfI (n + 1) (by omega) hn]
      exact nI_clamp (by have := hfr (n + 1) (by omega) hn; omega)
    have hlt := hfr (n + 1) (by omega) hn
    show ∀ a, a ≤ d → dk_up fr n (upd f (fr (n + 1)).toNatClampNeg (f (fr (n + 1)).toNatClampNeg + f (n + 1))) a = _
    rw [e1]
    refine ih _ (by omega) (fun a ha => ?_)
    have g1 := h (n + 1) hn
    rw [if_pos (Nat.le_refl _)] at g1
    by_cases q : a = frN (n + 1)
    · subst q
      rw [pk_us, h _ ha, g1, if_pos (by omega), if_pos (by omega), nI_add, dk_Sf_pred hfr hn (by omega), if_pos rfl]
    · rw [pk_un q, h a ha]
      by_cases q2 : a ≤ n
      · rw [if_pos (by omega), if_pos q2, dk_Sf_pred hfr hn q2, if_neg (fun e => q e.symm)]
        exact congrArg nI (Nat.add_zero _).symm
      · rw [if_neg q2]
        by_cases q3 : a ≤ n + 1
        · have e : a = n + 1 := by omega
          subst e
          rw [if_pos q3]
          rfl
        · rw [if_neg q3]
/-- sumFlows, by the numbers -/
theorem dk_sumFlows {d : Nat} {fr neI fl : Nat → Int32} {frN ne : Nat → Nat} (hd : d ≤ 6) (hfr : ∀ v, 1 ≤ v → v ≤ d → frN v < v) (hfI : ∀ v, 1 ≤ v → v ≤ d → fr v = nI (frN v)) (hne : ∀ v, v ≤ d → neI v = nI (ne v)) : ∀ a, a ≤ d → dk_up fr d (dk_cpL neI (d + 1) 0 fl) a = nI (dk_fl frN ne d a) := by
  refine dk_up_get hd hfr hfI d _ (Nat.le_refl _) (fun a ha => ?_)
  rw [dk_cpL_get, if_pos (by omega), if_pos ha, hne a ha]
  congr 1
  unfold dk_Sf
  have key : ∀ m, a < m → m ≤ d + 1 → dk_sm (fun v => if dk_cl frN d d v = a then ne v else 0) m = ne a := by
    intro m
    induction m with
    | zero => intro h; omega
    | succ m ih =>
      intro h1 h2
      show dk_sm _ m + (if dk_cl frN d d m = a then ne m else 0) = ne a
      rw [dk_cl_low _ _ (show m ≤ d by omega)]
      by_cases q : m = a
      · subst q
        rw [if_pos rfl]
        have z : dk_sm (fun v => if dk_cl frN d d v = m then ne v else 0) m = dk_sm (fun _ => 0) m := dk_sm_congr _ (fun v hv => by
          show (if dk_cl frN d d v = m then ne v else 0) = 0
          rw [dk_cl_low _ _ (show v ≤ d by omega), if_neg (by omega)])
        have z2 : ∀ k, dk_sm (fun _ => 0) k = 0 := by
          intro k
          induction k with
          | zero => rfl
          | succ k ihk => show dk_sm (fun _ => 0) k + 0 = 0; rw [ihk]
        rw [z, z2, Nat.zero_add]
      · rw [if_neg q, Nat.add_zero]
        exact ih (by omega) (by omega)
  exact (key (d + 1) (by omega) (Nat.le_refl _)).symm
end DkFlow
