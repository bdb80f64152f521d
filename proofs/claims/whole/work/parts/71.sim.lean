/-! SIM: the class's search over Int32 is the search over numbers -/
section DkSim
theorem dk_cpL_get {src : Nat → Int32} : ∀ (n i : Nat) (f : Nat → Int32) (a : Nat), dk_cpL src n i f a = if i ≤ a ∧ a < i + n then src a else f a := by
  intro n
  induction n with
  | zero =>
    intro i f a
    rw [if_neg (by omega)]
    rfl
  | succ n ih =>
    intro i f a
    show dk_cpL src n (i + 1) (upd f i (src i)) a = _
    rw [ih]
    by_cases h : i + 1 ≤ a ∧ a < i + 1 + n
    · rw [if_pos h, if_pos (by omega)]
    · rw [if_neg h]
      by_cases e : a = i
      · subst e
        rw [pk_us, if_pos (by omega)]
      · rw [pk_un e, if_neg (by omega)]
/-- the numbers behind a search's Int32s -/
def dk_Hy (d z : Nat) (fr le pr : Nat → Int32) (F : Nat → Nat → Int32) (li en : Int32) (ok : Nat → Nat → Bool) (fa : Nat → Nat → Nat) (frN leN prN : Nat → Nat) (liN enN : Nat) : Prop :=
  d ≤ 6 ∧ z ≤ 4 ∧ (∀ i, 1 ≤ i → i ≤ d → fr i = nI (frN i) ∧ frN i < i ∧ le i = nI (leN i) ∧ leN i ≤ 100) ∧ (∀ j, j < z → pr j = nI (prN j) ∧ prN j ≤ 1000) ∧
  (∀ i j, 1 ≤ i → i ≤ d → j < z → (ok i j = false ∧ F i j = -1) ∨ (ok i j = true ∧ F i j = nI (fa i j) ∧ fa i j ≤ 1000050)) ∧ li = nI liN ∧ liN ≤ 300 ∧ en = nI enN ∧ enN ≤ 1000
/-- what is kept so far -/
def dk_BR (d : Nat) (st : dk_SS) : dk_Bt → Prop
  | none => st.2.2.2.2.1 = 0
  | some x => st.2.2.2.2.1 = 1 ∧ st.2.2.2.2.2.1 = nI x.1 ∧ st.2.2.2.2.2.2 = nI x.2.1 ∧ (∀ a, 1 ≤ a → a ≤ d → st.2.2.1 a = nI (x.2.2.1 a) ∧ st.2.2.2.1 a = nI (x.2.2.2 a)) ∧ x.1 ≤ 900000 ∧ x.2.1 ≤ 300
theorem dk_nIm1 {n : Nat} (h : n < 2 ^ 31) : ¬ nI n = (-1 : Int32) := by
  intro e
  have h1 := congrArg Int32.toInt e
  rw [nI_toInt h] at h1
  have h2 : ((-1 : Int32)).toInt = -1 := by decide
  omega
theorem dk_ite_nI {g h : Nat} (hg : g < 2 ^ 31) (hh : h < 2 ^ 31) : (if nI g < nI h then nI h else nI g) = nI (if g < h then h else g) := by
  by_cases q : g < h
  · rw [if_pos q, if_pos ((nI_ltI hg hh).mpr q)]
  · rw [if_neg q, if_neg (fun e => q ((nI_ltI hg hh).mp e))]
/-- isBetter, by the numbers -/
theorem dk_better_bt {d : Nat} {st : dk_SS} {b : dk_Bt} {en p g : Nat} (hB : dk_BR d st b) (hp : p ≤ 600000) (hg : g ≤ 300) (he : en ≤ 1000) : dk_better (nI en) st.2.2.2.2.1 st.2.2.2.2.2.1 st.2.2.2.2.2.2 (nI p) (nI g) = 0 ↔ dk_bt b (p + en * g) g = false := by
  have hm : en * g ≤ 300000 := Nat.le_trans (Nat.mul_le_mul he hg) (by decide)
  have e1 : nI p + nI en * nI g = nI (p + en * g) := by rw [pk_mul, nI_add]
  cases b with
  | none =>
    have h0 : st.2.2.2.2.1 = 0 := hB
    unfold dk_better
    rw [if_pos h0]
    simp only [dk_bt]
    exact ⟨fun h => absurd h (by decide), fun h => by cases h⟩
  | some x =>
    obtain ⟨h0, h1, h2, -, h4, h5⟩ := hB
    unfold dk_better
    rw [if_neg (by rw [h0]; decide), e1, h1, h2]
    simp only [dk_bt]
    by_cases q1 : p + en * g < x.1
    · rw [if_pos ((nI_ltI (by omega) (by omega)).mpr q1)]
      refine ⟨fun h => absurd h (by decide), fun h => ?_⟩
      simp [q1] at h
    · rw [if_neg (fun e => q1 ((nI_ltI (by omega) (by omega)).mp e))]
      by_cases q2 : p + en * g = x.1
      · rw [if_pos ((nI_eq (by omega) (by omega)).mpr q2)]
        by_cases q3 : x.2.1 ≤ g
        · rw [if_pos ((nI_leI (by omega) (by omega)).mpr q3)]
          refine ⟨fun _ => ?_, fun _ => rfl⟩
          simp [q1, q2]
          omega
        · rw [if_neg (fun e => q3 ((nI_leI (by omega) (by omega)).mp e))]
          refine ⟨fun h => absurd h (by decide), fun h => ?_⟩
          have q4 : g < x.2.1 := by omega
          simp [q2, q4] at h
      · rw [if_neg (fun e => q2 ((nI_eq (by omega) (by omega)).mp e))]
        refine ⟨fun _ => ?_, fun _ => rfl⟩
        simp [q1, q2]
theorem dk_loop_rel {α β : Type} {f : Nat → α → α} {g : Nat → β → β} {R : α → β → Prop} {z : Nat} (h : ∀ j x y, j < z → R x y → R (f j x) (g j y)) : ∀ n j x y, j + n = z → R x y → R (dk_loop f n j x) (dk_loop g n j y) := by
  intro n
  induction n with
  | zero => intro j x y _ hR; exact hR
  | succ n ih =>
    intro j x y hj hR
    exact ih (j + 1) _ _ (by omega) (h j x y (by omega) hR)
set_option maxRecDepth 100000 in
theorem dk_place_np {d z : Nat} {fr le pr : Nat → Int32} {F : Nat → Nat → Int32} {li en : Int32} {ok : Nat → Nat → Bool} {fa : Nat → Nat → Nat} {frN leN prN : Nat → Nat} {liN enN : Nat} (hy : dk_Hy d z fr le pr F li en ok fa frN leN prN liN enN) :
    ∀ (k i p g : Nat) (ts tp : Nat → Nat) (b : dk_Bt) (st : dk_SS), i + k = d + 1 → 1 ≤ i → p ≤ (i - 1) * 100000 → g ≤ 300 → (∀ a, a < i → tp a ≤ 300) → (∀ a, 1 ≤ a → a < i → st.1 a = nI (ts a)) → (∀ a, a < i → st.2.1 a = nI (tp a)) → dk_BR d st b →
      dk_BR d (dk_place d z fr le pr F li en k i (nI p) (nI g) st) (dk_np ok fa frN (fun i j => leN i * prN j) liN enN z k i p g ts tp b) ∧ (∀ a, a < i → (dk_place d z fr le pr F li en k i (nI p) (nI g) st).1 a = st.1 a ∧ (dk_place d z fr le pr F li en k i (nI p) (nI g) st).2.1 a = st.2.1 a) := by
  obtain ⟨hd, hz, hfr, hpr, hF, hli, hli3, hen, hen3⟩ := hy
  subst hli
  subst hen
  intro k
  induction k with
  | zero =>
    intro i p g ts tp b st hik hi hp hg htp h1 h2 hB
    have hi6 : (i - 1) * 100000 ≤ 6 * 100000 := Nat.mul_le_mul_right _ (by omega)
    have hm : enN * g ≤ 300000 := Nat.le_trans (Nat.mul_le_mul hen3 hg) (by decide)
    refine ⟨⟨rfl, ?_, rfl, fun a ha1 ha2 => ?_, by omega, hg⟩, fun a ha => ⟨rfl, rfl⟩⟩
    · show nI p + nI enN * nI g = nI (p + enN * g)
      rw [pk_mul, nI_add]
    · show dk_cpL st.1 d 1 st.2.2.1 a = _ ∧ dk_cpL st.2.1 d 1 st.2.2.2.1 a = _
      rw [dk_cpL_get, dk_cpL_get, if_pos (by omega), if_pos (by omega)]
      exact ⟨h1 a ha1 (by omega), h2 a (by omega)⟩
  | succ k ih =>
    intro i p g ts tp b st hik hi hp hg htp h1 h2 hB
    have hid : i ≤ d := by omega
    obtain ⟨f1, f2, f3, f4⟩ := hfr i hi hid
    have h5 : (i - 1) * 100000 ≤ 500000 := Nat.le_trans (Nat.mul_le_mul_right 100000 (show i - 1 ≤ 5 by omega)) (by decide)
    have key := dk_loop_rel (f := dk_try fr le pr F (nI liN) (nI enN) (dk_place d z fr le pr F (nI liN) (nI enN) k (i + 1)) i (nI p) (nI g))
      (g := fun j b => if ok i j = false then b else if liN < dk_g1 fa frN tp i g j then b else if dk_bt b (p + leN i * prN j + enN * dk_g1 fa frN tp i g j) (dk_g1 fa frN tp i g j) = false then b
        else dk_np ok fa frN (fun i j => leN i * prN j) liN enN z k (i + 1) (p + leN i * prN j) (dk_g1 fa frN tp i g j) (dk_un ts i j) (dk_un tp i (tp (frN i) + fa i j)) b)
      (R := fun x y => dk_BR d x y ∧ ∀ a, a < i → x.1 a = st.1 a ∧ x.2.1 a = st.2.1 a) (z := z) ?_ z 0 st b (by omega) ⟨hB, fun a _ => ⟨rfl, rfl⟩⟩
    · exact key
    · intro j x y hj hR
      obtain ⟨hBx, hag⟩ := hR
      unfold dk_try
      rcases hF i j hi hid hj with ⟨o1, o2⟩ | ⟨o1, o2, o3⟩
      · rw [if_pos o2]
        show dk_BR d x (if ok i j = false then y else _) ∧ _
        rw [if_pos o1]
        exact ⟨hBx, hag⟩
      · rw [if_neg (by rw [o2]; exact dk_nIm1 (by omega))]
        show dk_BR d _ (if ok i j = false then y else _) ∧ _
        rw [if_neg (by rw [o1]; decide)]
        obtain ⟨p1, p2⟩ := hpr j hj
        have hcs : leN i * prN j ≤ 100000 := Nat.le_trans (Nat.mul_le_mul f4 p2) (by decide)
        have hcl : (fr i).toNatClampNeg = frN i := by rw [f1]; exact nI_clamp (by omega)
        have htf : tp (frN i) ≤ 300 := htp _ (by omega)
        have ehere : x.2.1 (fr i).toNatClampNeg + F i j = nI (tp (frN i) + fa i j) := by
          rw [hcl, (hag (frN i) f2).2, h2 (frN i) f2, o2, nI_add]
        have eg : (if nI g < x.2.1 (fr i).toNatClampNeg + F i j then x.2.1 (fr i).toNatClampNeg + F i j else nI g) = nI (dk_g1 fa frN tp i g j) := by
          rw [ehere]
          exact dk_ite_nI (by omega) (by omega)
        have hg1 : dk_g1 fa frN tp i g j ≤ 1000350 := by unfold dk_g1; split <;> omega
        have eprice : nI p + dk_price le pr i j = nI (p + leN i * prN j) := by
          unfold dk_price
          rw [f3, p1, pk_mul, nI_add]
        unfold dk_step
        rw [eg, eprice, ehere]
        by_cases q1 : liN < dk_g1 fa frN tp i g j
        · rw [if_pos ((nI_ltI (by omega) (by omega)).mpr q1), if_pos q1]
          exact ⟨hBx, hag⟩
        · rw [if_neg (fun e => q1 ((nI_ltI (by omega) (by omega)).mp e)), if_neg q1]
          have hbt := dk_better_bt (en := enN) (p := p + leN i * prN j) (g := dk_g1 fa frN tp i g j) hBx (by omega) (by omega) hen3
          by_cases q2 : dk_bt y (p + leN i * prN j + enN * dk_g1 fa frN tp i g j) (dk_g1 fa frN tp i g j) = false
          · rw [if_pos (hbt.mpr q2), if_pos q2]
            exact ⟨hBx, hag⟩
          · rw [if_neg (fun e => q2 (hbt.mp e)), if_neg q2]
            have hhere : tp (frN i) + fa i j ≤ dk_g1 fa frN tp i g j := by unfold dk_g1; split <;> omega
            have r := ih (i + 1) (p + leN i * prN j) (dk_g1 fa frN tp i g j) (dk_un ts i j) (dk_un tp i (tp (frN i) + fa i j)) y (upd x.1 i (nI j), upd x.2.1 i (nI (tp (frN i) + fa i j)), x.2.2) (by omega) (by omega)
              (by
                have e3 : (i + 1 - 1) * 100000 = (i - 1) * 100000 + 100000 := by
                  have : i + 1 - 1 = (i - 1) + 1 := by omega
                  rw [this, Nat.add_mul]
                omega) (by omega)
              (fun a ha => by
                unfold dk_un
                split
                · omega
                · exact htp a (by omega))
              (fun a ha1 ha2 => by
                show upd x.1 i (nI j) a = nI (dk_un ts i j a)
                unfold dk_un
                by_cases e : a = i
                · subst e
                  rw [pk_us, if_pos rfl]
                · rw [pk_un e, if_neg e, (hag a (by omega)).1]
                  exact h1 a ha1 (by omega))
              (fun a ha => by
                show upd x.2.1 i (nI (tp (frN i) + fa i j)) a = nI (dk_un tp i (tp (frN i) + fa i j) a)
                unfold dk_un
                by_cases e : a = i
                · subst e
                  rw [pk_us, if_pos rfl]
                · rw [pk_un e, if_neg e, (hag a (by omega)).2]
                  exact h2 a (by omega))
              (by
                cases y with
                | none => exact hBx
                | some y => exact hBx)
            refine ⟨r.1, fun a ha => ?_⟩
            obtain ⟨s1, s2⟩ := r.2 a (by omega)
            have e : a ≠ i := by omega
            refine ⟨s1.trans ?_, s2.trans ?_⟩
            · show upd x.1 i (nI j) a = st.1 a
              rw [pk_un e]
              exact (hag a ha).1
            · show upd x.2.1 i (nI (tp (frN i) + fa i j)) a = st.2.1 a
              rw [pk_un e]
              exact (hag a ha).2
end DkSim
