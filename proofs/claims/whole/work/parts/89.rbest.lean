/-! RBEST: the other side's search, one number behind another, is the best of all choices too -/
section RkBest
/-- a whole choice is held against the best so far -/
def rk_lf (li en p g : Nat) (ts tp : Nat → Nat) (b : dk_Bt) : dk_Bt := if li < g then b else if dk_bt b (p + en * g) g = false then b else some (p + en * g, g, ts, tp)
/-- the choice c, from duct i on, n ducts are left -/
def rk_ev (ok : Nat → Nat → Bool) (fa : Nat → Nat → Nat) (fr : Nat → Nat) (cs : Nat → Nat → Nat) (li en : Nat) (c : Nat → Nat) : Nat → Nat → Nat → Nat → (Nat → Nat) → (Nat → Nat) → dk_Bt → dk_Bt
  | 0, _, p, g, ts, tp, b => rk_lf li en p g ts tp b
  | n + 1, i, p, g, ts, tp, b => if ok i (c i) = false then b else rk_ev ok fa fr cs li en c n (i + 1) (p + cs i (c i)) (dk_g1 fa fr tp i g (c i)) (dk_un ts i (c i)) (dk_un tp i (tp (fr i) + fa i (c i))) b
theorem rk_ev_congr {ok : Nat → Nat → Bool} {fa : Nat → Nat → Nat} {fr : Nat → Nat} {cs : Nat → Nat → Nat} {li en : Nat} {c c' : Nat → Nat} : ∀ n i p g ts tp b, (∀ a, i ≤ a → a < i + n → c a = c' a) → rk_ev ok fa fr cs li en c n i p g ts tp b = rk_ev ok fa fr cs li en c' n i p g ts tp b := by
  intro n
  induction n with
  | zero => intro i p g ts tp b _; rfl
  | succ n ih =>
    intro i p g ts tp b h
    show (if ok i (c i) = false then b else _) = (if ok i (c' i) = false then b else _)
    rw [h i (Nat.le_refl _) (by omega)]
    split
    · rfl
    · exact ih (i + 1) _ _ _ _ _ (fun a h1 h2 => h a (by omega) (by omega))
theorem rk_loop_congr {α : Type} {f g : Nat → α → α} : ∀ n i x, (∀ j x, i ≤ j → j < i + n → f j x = g j x) → dk_loop f n i x = dk_loop g n i x := by
  intro n
  induction n with
  | zero => intro i x _; rfl
  | succ n ih =>
    intro i x h
    show dk_loop f n (i + 1) (f i x) = dk_loop g n (i + 1) (g i x)
    rw [h i x (Nat.le_refl _) (by omega)]
    exact ih (i + 1) _ (fun j x h1 h2 => h j x (by omega) (by omega))
theorem rk_loop_add {α : Type} {f : Nat → α → α} : ∀ n m i x, dk_loop f (n + m) i x = dk_loop f m (i + n) (dk_loop f n i x) := by
  intro n
  induction n with
  | zero => intro m i x; rw [Nat.zero_add]; rfl
  | succ n ih =>
    intro m i x
    rw [show n + 1 + m = (n + m) + 1 by omega]
    show dk_loop f (n + m) (i + 1) (f i x) = dk_loop f m (i + (n + 1)) (dk_loop f n (i + 1) (f i x))
    rw [ih, show i + 1 + n = i + (n + 1) by omega]
theorem rk_loop_shift {α : Type} {f : Nat → α → α} {s : Nat} : ∀ n i x, dk_loop f n (s + i) x = dk_loop (fun r => f (s + r)) n i x := by
  intro n
  induction n with
  | zero => intro i x; rfl
  | succ n ih =>
    intro i x
    show dk_loop f n (s + i + 1) (f (s + i) x) = dk_loop (fun r => f (s + r)) n (i + 1) (f (s + i) x)
    rw [show s + i + 1 = s + (i + 1) by omega]
    exact ih (i + 1) _
theorem rk_loop_split {α : Type} {f : Nat → α → α} {m : Nat} : ∀ z j x, dk_loop f (z * m) (j * m) x = dk_loop (fun j b => dk_loop (fun r => f (j * m + r)) m 0 b) z j x := by
  intro z
  induction z with
  | zero => intro j x; rw [Nat.zero_mul]; rfl
  | succ z ih =>
    intro j x
    rw [show (z + 1) * m = m + z * m by rw [Nat.succ_mul]; omega, rk_loop_add, show j * m + m = (j + 1) * m by rw [Nat.succ_mul], ih (j + 1)]
    show _ = dk_loop (fun j b => dk_loop (fun r => f (j * m + r)) m 0 b) z (j + 1) (dk_loop (fun r => f (j * m + r)) m 0 x)
    have e := rk_loop_shift (f := f) (s := j * m) m 0 x
    rw [Nat.add_zero] at e
    rw [← e]
/-- all choices one behind another, by their numbers -/
theorem rk_nx_ev {ok : Nat → Nat → Bool} {fa : Nat → Nat → Nat} {fr : Nat → Nat} {cs : Nat → Nat → Nat} {li en z d : Nat} : ∀ k i p g ts tp b, i + k = d + 1 → dk_nx ok fa fr cs li en z k i p g ts tp b = dk_loop (fun w b => rk_ev ok fa fr cs li en (rk_cN z d w) k i p g ts tp b) (z ^ k) 0 b := by
  intro k
  induction k with
  | zero =>
    intro i p g ts tp b h
    rfl
  | succ k ih =>
    intro i p g ts tp b h
    rw [show z ^ (k + 1) = z * z ^ k by rw [Nat.pow_succ, Nat.mul_comm]]
    have hs := rk_loop_split (f := fun w b => rk_ev ok fa fr cs li en (rk_cN z d w) (k + 1) i p g ts tp b) (m := z ^ k) z 0 b
    rw [Nat.zero_mul] at hs
    rw [hs]
    show dk_loop (fun j b => if ok i j = false then b else dk_nx ok fa fr cs li en z k (i + 1) (p + cs i j) (dk_g1 fa fr tp i g j) (dk_un ts i j) (dk_un tp i (tp (fr i) + fa i j)) b) z 0 b = _
    refine rk_loop_congr z 0 b (fun j b _ hj => ?_)
    have hj : j < z := by omega
    have hm : 0 < z ^ k := Nat.pow_pos (by omega)
    have hd : ∀ r, r < z ^ k → rk_cN z d (j * z ^ k + r) i = j ∧ ∀ a, i < a → a ≤ d → rk_cN z d (j * z ^ k + r) a = rk_cN z d r a := by
      intro r hr
      unfold rk_cN
      refine ⟨?_, fun a h1 h2 => ?_⟩
      · rw [show d - i = k by omega, Nat.add_comm, Nat.add_mul_div_right _ _ hm, Nat.div_eq_of_lt hr, Nat.zero_add, Nat.mod_eq_of_lt hj]
      · have hz : 0 < z := by omega
        have hp : 0 < z ^ (d - a) := Nat.pow_pos hz
        have e : z ^ k = z ^ (d - a) * z ^ (k - (d - a)) := by rw [← Nat.pow_add]; congr 1; omega
        have e2 : z ^ (k - (d - a)) = z ^ (k - (d - a) - 1) * z := by rw [← Nat.pow_succ]; congr 1; omega
        rw [e, e2, show j * (z ^ (d - a) * (z ^ (k - (d - a) - 1) * z)) + r = r + z ^ (d - a) * (j * z ^ (k - (d - a) - 1) * z) by rw [Nat.add_comm]; congr 1; rw [Nat.mul_left_comm, Nat.mul_assoc], Nat.add_mul_div_left _ _ hp, Nat.add_mul_mod_self_right]
    by_cases q : ok i j = false
    · rw [if_pos q]
      symm
      refine (rk_loop_congr (g := fun _ b => b) (z ^ k) 0 b (fun r b _ hr => ?_)).trans (dk_loop_id (fun _ => rfl) _ _)
      show (if ok i (rk_cN z d (j * z ^ k + r) i) = false then b else _) = b
      rw [(hd r (by omega)).1, if_pos q]
    · rw [if_neg q, ih (i + 1) _ _ _ _ _ (by omega)]
      refine rk_loop_congr (z ^ k) 0 b (fun r b _ hr => ?_)
      obtain ⟨d1, d2⟩ := hd r (by omega)
      show _ = (if ok i (rk_cN z d (j * z ^ k + r) i) = false then b else rk_ev ok fa fr cs li en (rk_cN z d (j * z ^ k + r)) k (i + 1) (p + cs i (rk_cN z d (j * z ^ k + r) i)) (dk_g1 fa fr tp i g (rk_cN z d (j * z ^ k + r) i)) (dk_un ts i (rk_cN z d (j * z ^ k + r) i)) (dk_un tp i (tp (fr i) + fa i (rk_cN z d (j * z ^ k + r) i))) b)
      rw [d1, if_neg q]
      exact (rk_ev_congr k (i + 1) _ _ _ _ _ (fun a h1 h2 => d2 a (by omega) (by omega))).symm
theorem rk_lk_0 {fs : Nat → Int64} {c fr : Nat → Nat} : ∀ n i la g, 1 ≤ i → (rk_lk fs c fr n i la g).1 0 = la 0 := by
  intro n
  induction n with
  | zero => intro i la g _; rfl
  | succ n ih =>
    intro i la g hi
    show (if 0 ≤ fs (4 * i + c i) then _ else (la, -1)).1 0 = la 0
    split
    · rw [ih (i + 1) _ _ (by omega), rk_un (by omega)]
    · rfl
/-- what look comes to -/
theorem rk_lk_ev {d z : Nat} {fs : Nat → Int64} {ok : Nat → Nat → Bool} {fa : Nat → Nat → Nat} {fr c le pr : Nat → Nat} {li en : Nat} (hF : rk_Fs d z fs ok fa) (hfr : ∀ i, 1 ≤ i → i ≤ d → fr i < i) (hc : ∀ i, 1 ≤ i → i ≤ d → c i < z) :
    ∀ n i la g p gN ts tp, i + n = d + 1 → 1 ≤ i → (∀ a, a < i → la a = lN (tp a) ∧ tp a ≤ gN) → gN + n * 1000050 ≤ 10000000 → g = lN gN → (gN = 0 ∨ ∃ a, 1 ≤ a ∧ a < i ∧ tp a = gN) →
      ((rk_lk fs c fr n i la g).2 = -1 ∧ ∀ b, rk_ev ok fa fr (fun i j => le i * pr j) li en c n i p gN ts tp b = b) ∨
      ∃ g' ts' tp', (rk_lk fs c fr n i la g).2 = lN g' ∧ g' ≤ 10000000 ∧ (∀ a, a ≤ d → (rk_lk fs c fr n i la g).1 a = lN (tp' a) ∧ tp' a ≤ g') ∧ (g' = 0 ∨ ∃ a, 1 ≤ a ∧ a ≤ d ∧ tp' a = g') ∧ (∀ a, i ≤ a → a ≤ d → ts' a = c a) ∧ (∀ a, a < i → ts' a = ts a) ∧ ∀ b, rk_ev ok fa fr (fun i j => le i * pr j) li en c n i p gN ts tp b = rk_lf li en (rk_pr le pr c n i p) g' ts' tp' b := by
  intro n
  induction n with
  | zero =>
    intro i la g p gN ts tp h1 h2 h3 h4 h6 h7
    right
    refine ⟨gN, ts, tp, h6, by omega, fun a ha => h3 a (by omega), ?_, fun a h1 h2 => by omega, fun a _ => rfl, fun b => rfl⟩
    rcases h7 with q | ⟨a, a1, a2, a3⟩
    · exact Or.inl q
    · exact Or.inr ⟨a, a1, by omega, a3⟩
  | succ n ih =>
    intro i la g p gN ts tp h1 h2 h3 h4 h6 h7
    have hid : i ≤ d := by omega
    have hfi := hfr i h2 hid
    have e5 : (n + 1) * 1000050 = n * 1000050 + 1000050 := Nat.succ_mul n 1000050
    rcases hF i (c i) h2 hid (hc i h2 hid) with ⟨o1, o2⟩ | ⟨o1, o2, o3⟩
    · left
      refine ⟨?_, fun b => ?_⟩
      · show (if 0 ≤ fs (4 * i + c i) then _ else (la, (-1 : Int64))).2 = -1
        rw [if_neg (by rw [o2]; decide)]
      · show (if ok i (c i) = false then b else _) = b
        rw [if_pos o1]
    · have hla := h3 (fr i) hfi
      have hv : la (fr i) + fs (4 * i + c i) = lN (tp (fr i) + fa i (c i)) := by rw [hla.1, o2, lN_add]
      have hg1 : (if lN (tp (fr i) + fa i (c i)) ≤ g then g else lN (tp (fr i) + fa i (c i))) = lN (dk_g1 fa fr tp i gN (c i)) := by
        unfold dk_g1
        rw [h6]
        by_cases q : gN < tp (fr i) + fa i (c i)
        · rw [if_pos q, if_neg (fun e => by have := (pk_lLE (by omega) (by omega)).mp e; omega)]
        · rw [if_neg q, if_pos ((pk_lLE (by omega) (by omega)).mpr (by omega))]
      have hs : rk_lk fs c fr (n + 1) i la g = rk_lk fs c fr n (i + 1) (vp_updL la i (lN (tp (fr i) + fa i (c i)))) (lN (dk_g1 fa fr tp i gN (c i))) := by
        show (if 0 ≤ fs (4 * i + c i) then rk_lk fs c fr n (i + 1) (vp_updL la i (la (fr i) + fs (4 * i + c i))) (if vp_updL la i (la (fr i) + fs (4 * i + c i)) i ≤ g then g else vp_updL la i (la (fr i) + fs (4 * i + c i)) i) else (la, -1)) = _
        rw [if_pos (by rw [o2]; exact (pk_lLE (a := 0) (by decide) (by omega)).mpr (Nat.zero_le _)), hv, rk_us, hg1]
      have hg2 : gN ≤ dk_g1 fa fr tp i gN (c i) := dk_g1_ge
      have hg3 : tp (fr i) + fa i (c i) ≤ dk_g1 fa fr tp i gN (c i) := by unfold dk_g1; split <;> omega
      have hg4 : dk_g1 fa fr tp i gN (c i) ≤ gN + 1000050 := by unfold dk_g1; split <;> omega
      have hg5 : dk_g1 fa fr tp i gN (c i) = gN ∨ dk_g1 fa fr tp i gN (c i) = tp (fr i) + fa i (c i) := by unfold dk_g1; split <;> simp
      have r := ih (i + 1) (vp_updL la i (lN (tp (fr i) + fa i (c i)))) (lN (dk_g1 fa fr tp i gN (c i))) (p + le i * pr (c i)) (dk_g1 fa fr tp i gN (c i)) (dk_un ts i (c i)) (dk_un tp i (tp (fr i) + fa i (c i))) (by omega) (by omega)
        (fun a ha => by
          by_cases e : a = i
          · rw [e, rk_us]
            unfold dk_un
            rw [if_pos rfl]
            exact ⟨rfl, hg3⟩
          · rw [rk_un e]
            unfold dk_un
            rw [if_neg e]
            exact ⟨(h3 a (by omega)).1, Nat.le_trans (h3 a (by omega)).2 hg2⟩) (by omega) rfl
        (by
          rcases hg5 with e | e
          · rw [e]
            rcases h7 with q | ⟨a, a1, a2, a3⟩
            · exact Or.inl q
            · right
              refine ⟨a, a1, by omega, ?_⟩
              unfold dk_un
              rw [if_neg (by omega)]
              exact a3
          · right
            refine ⟨i, h2, by omega, ?_⟩
            unfold dk_un
            rw [if_pos rfl, e])
      have he : ∀ b, rk_ev ok fa fr (fun i j => le i * pr j) li en c (n + 1) i p gN ts tp b = rk_ev ok fa fr (fun i j => le i * pr j) li en c n (i + 1) (p + le i * pr (c i)) (dk_g1 fa fr tp i gN (c i)) (dk_un ts i (c i)) (dk_un tp i (tp (fr i) + fa i (c i))) b := by
        intro b
        show (if ok i (c i) = false then b else _) = _
        rw [if_neg (by rw [o1]; decide)]
      rw [hs]
      rcases r with ⟨r1, r2⟩ | ⟨g', ts', tp', r1, r2, r3, r4, r5, r6, r7⟩
      · exact Or.inl ⟨r1, fun b => (he b).trans (r2 b)⟩
      · right
        refine ⟨g', ts', tp', r1, r2, r3, r4, fun a a1 a2 => ?_, fun a ha => ?_, fun b => (he b).trans (r7 b)⟩
        · by_cases e : a = i
          · rw [r6 a (by omega), e]
            unfold dk_un
            rw [if_pos rfl]
          · exact r5 a (by omega) a2
        · rw [r6 a (by omega)]
          unfold dk_un
          rw [if_neg (by omega)]
theorem rk_pr_le {d z : Nat} {le pr c : Nat → Nat} (hl : ∀ i, 1 ≤ i → i ≤ d → le i ≤ 100) (hp : ∀ j, j < z → pr j ≤ 1000) (hc : ∀ i, 1 ≤ i → i ≤ d → c i < z) : ∀ n i s, i + n = d + 1 → 1 ≤ i → rk_pr le pr c n i s ≤ s + n * 100000 := by
  intro n
  induction n with
  | zero => intro i s _ _; show s ≤ _; omega
  | succ n ih =>
    intro i s h1 h2
    have h3 : le i * pr (c i) ≤ 100 * 1000 := Nat.mul_le_mul (hl i h2 (by omega)) (hp _ (hc i h2 (by omega)))
    have h4 := ih (i + 1) (s + le i * pr (c i)) (by omega) (by omega)
    show rk_pr le pr c n (i + 1) (s + le i * pr (c i)) ≤ _
    have e : (n + 1) * 100000 = n * 100000 + 100000 := Nat.succ_mul n 100000
    omega
theorem rk_cpL_get {src : Nat → Int64} : ∀ (n i : Nat) (f : Nat → Int64) (a : Nat), rk_cpL src n i f a = if i ≤ a ∧ a < i + n then src a else f a := by
  intro n
  induction n with
  | zero =>
    intro i f a
    rw [if_neg (by omega)]
    rfl
  | succ n ih =>
    intro i f a
    show rk_cpL src n (i + 1) (vp_updL f i (src i)) a = _
    rw [ih]
    by_cases h : i + 1 ≤ a ∧ a < i + 1 + n
    · rw [if_pos h, if_pos (by omega)]
    · rw [if_neg h]
      by_cases e : a = i
      · subst e
        rw [rk_us, if_pos (by omega)]
      · rw [rk_un e, if_neg (by omega)]
/-- what is kept so far -/
def rk_BR (d : Nat) (st : rk_SS) : dk_Bt → Prop
  | none => st.2.2.1 = 0
  | some x => st.2.2.1 = 1 ∧ st.2.2.2.1 = lN x.1 ∧ st.2.2.2.2.1 = lN x.2.1 ∧ (∀ a, 1 ≤ a → a ≤ d → st.2.2.2.2.2.1 a = nI (x.2.2.1 a) ∧ st.2.2.2.2.2.2 a = lN (x.2.2.2 a) ∧ x.2.2.2 a ≤ x.2.1) ∧ (x.2.1 = 0 ∨ ∃ a, 1 ≤ a ∧ a ≤ d ∧ x.2.2.2 a = x.2.1) ∧ x.1 ≤ 900000 ∧ x.2.1 ≤ 300
/-- the numbers of a search -/
def rk_Sn (d z : Nat) (fs : Nat → Int64) (ok : Nat → Nat → Bool) (fa : Nat → Nat → Nat) (frN leN prN : Nat → Nat) : Prop :=
  d ≤ 6 ∧ z ≤ 4 ∧ rk_Fs d z fs ok fa ∧ (∀ i, 1 ≤ i → i ≤ d → frN i < i ∧ leN i ≤ 100) ∧ ∀ j, j < z → prN j ≤ 1000
theorem rk_btF {x : Nat × Nat × (Nat → Nat) × (Nat → Nat)} {c q : Nat} : dk_bt (some x) c q = false ↔ ¬ (c < x.1 ∨ (c = x.1 ∧ q < x.2.1)) := by
  unfold dk_bt
  rw [← Bool.not_eq_true]
  simp only [Bool.or_eq_true, Bool.and_eq_true, decide_eq_true_eq]
theorem rk_rd_ev {d z : Nat} {fs : Nat → Int64} {ok : Nat → Nat → Bool} {fa : Nat → Nat → Nat} {frN leN prN : Nat → Nat} (h : rk_Sn d z fs ok fa frN leN prN) {li en : Nat} (hli : li ≤ 300) (hen : en ≤ 1000) {w : Nat} (hw : w < z ^ d) {st : rk_SS} {b : dk_Bt} (hB : rk_BR d st b) (h0 : st.2.1 0 = 0) :
    rk_BR d (rk_rd d z fs frN leN prN (nI li) (nI en) w st) (rk_ev ok fa frN (fun i j => leN i * prN j) li en (rk_cN z d w) d 1 0 0 (fun _ => 0) (fun _ => 0) b) ∧ (rk_rd d z fs frN leN prN (nI li) (nI en) w st).2.1 0 = 0 := by
  obtain ⟨hd, hz, hF, hfr, hpr⟩ := h
  have hc : ∀ i, 1 ≤ i → i ≤ d → rk_cN z d w i < z := fun i h1 h2 => Nat.mod_lt _ (rk_z0 hw (by omega))
  have hla0 : (rk_lk fs (rk_cN z d w) frN d 1 st.2.1 0).1 0 = 0 := (rk_lk_0 d 1 st.2.1 0 (Nat.le_refl _)).trans h0
  have hP := rk_pr_le (fun i a b => (hfr i a b).2) hpr hc d 1 0 (by omega) (by omega)
  have r := rk_lk_ev (le := leN) (pr := prN) (li := li) (en := en) hF (fun i a b => (hfr i a b).1) hc d 1 st.2.1 0 0 0 (fun _ => 0) (fun _ => 0) (by omega) (by omega) (fun a ha => ⟨by rw [show a = 0 by omega, h0]; rfl, Nat.le_refl _⟩) (by omega) rfl (Or.inl rfl)
  unfold rk_rd
  generalize hL : rk_lk fs (rk_cN z d w) frN d 1 st.2.1 0 = L at r hla0 ⊢
  generalize hQ : rk_pr leN prN (rk_cN z d w) d 1 0 = PP at r hP ⊢
  have hz0 := rk_z0 hw
  rcases r with ⟨r1, r2⟩ | ⟨g', ts', tp', r1, r2, r3, r4, r5, r6, r7⟩
  · unfold rk_rd1
    rw [r2 b, if_neg (by rw [r1]; decide)]
    refine ⟨?_, hla0⟩
    cases b with
    | none => exact hB
    | some x => exact hB
  · rw [r7 b, r1]
    have h1 : (0 : Int64) ≤ lN g' := (pk_lLE (a := 0) (by decide) (by omega)).mpr (Nat.zero_le _)
    have h2 : (nI li).toInt64 < lN g' ↔ li < g' := by rw [nI_l (by omega)]; exact pk_lLT (by omega) (by omega)
    unfold rk_lf rk_rd1
    rw [if_pos h1]
    have keep : rk_BR d (rk_dg z d st.1 w, L.1, st.2.2) b := by
      cases b with
      | none => exact hB
      | some x => exact hB
    by_cases q1 : li < g'
    · rw [if_pos q1, if_pos (h2.mpr q1)]
      exact ⟨keep, hla0⟩
    · rw [if_neg q1, if_neg (fun e => q1 (h2.mp e))]
      have hg3 : g' ≤ 300 := by omega
      have hm : en * g' ≤ 1000 * 300 := Nat.mul_le_mul hen hg3
      have hco : lN PP + (nI en).toInt64 * lN g' = lN (PP + en * g') := by rw [nI_l (by omega), lN_mul, lN_add]
      rw [hco]
      have take : rk_BR d (rk_dg z d st.1 w, L.1, 1, lN (PP + en * g'), lN g', dk_cpL (rk_dg z d st.1 w) d 1 st.2.2.2.2.2.1, rk_cpL L.1 d 1 st.2.2.2.2.2.2) (some (PP + en * g', g', ts', tp')) := by
        refine ⟨rfl, rfl, rfl, fun a a1 a2 => ⟨?_, ?_, (r3 a a2).2⟩, r4, by omega, hg3⟩
        · show dk_cpL (rk_dg z d st.1 w) d 1 st.2.2.2.2.2.1 a = nI (ts' a)
          rw [dk_cpL_get, if_pos (by omega), r5 a a1 a2]
          exact (rk_dg_in hz0 a a1 a2).1
        · show rk_cpL L.1 d 1 st.2.2.2.2.2.2 a = lN (tp' a)
          rw [rk_cpL_get, if_pos (by omega)]
          exact (r3 a a2).1
      cases b with
      | none =>
        have hfd : st.2.2.1 = 0 := hB
        rw [if_pos hfd]
        exact ⟨take, hla0⟩
      | some x =>
        obtain ⟨b1, b2, b3, b4, b5, b6, b7⟩ := hB
        rw [if_neg (by rw [b1]; decide), b2, b3]
        by_cases q2 : PP + en * g' < x.1
        · rw [if_pos ((pk_lLT (by omega) (by omega)).mpr q2), if_neg (fun e => rk_btF.mp e (Or.inl q2))]
          exact ⟨take, hla0⟩
        · rw [if_neg (fun e => q2 ((pk_lLT (by omega) (by omega)).mp e))]
          by_cases q3 : PP + en * g' = x.1
          · rw [if_pos ((pk_lEQ (by omega) (by omega)).mpr q3)]
            by_cases q4 : x.2.1 ≤ g'
            · rw [if_pos ((pk_lLE (by omega) (by omega)).mpr q4), if_pos (rk_btF.mpr (by omega))]
              exact ⟨keep, hla0⟩
            · rw [if_neg (fun e => q4 ((pk_lLE (by omega) (by omega)).mp e)), if_neg (fun e => rk_btF.mp e (by omega))]
              exact ⟨take, hla0⟩
          · rw [if_neg (fun e => q3 ((pk_lEQ (by omega) (by omega)).mp e)), if_pos (rk_btF.mpr (by omega))]
            exact ⟨keep, hla0⟩
/-- findBest, by the numbers -/
theorem rk_fb_num {d z : Nat} {fs : Nat → Int64} {ok : Nat → Nat → Bool} {fa : Nat → Nat → Nat} {frN leN prN : Nat → Nat} (h : rk_Sn d z fs ok fa frN leN prN) {li en : Nat} (hli : li ≤ 300) (hen : en ≤ 1000) {st : rk_SS} (h0 : st.2.1 0 = 0) :
    rk_BR d (rk_fb d z fs frN leN prN (nI li) (nI en) st) (dk_nx ok fa frN (fun i j => leN i * prN j) li en z d 1 0 0 (fun _ => 0) (fun _ => 0) none) ∧ (rk_fb d z fs frN leN prN (nI li) (nI en) st).2.1 0 = 0 := by
  rw [rk_nx_ev (d := d) d 1 0 0 (fun _ => 0) (fun _ => 0) none (by omega)]
  exact dk_loop_rel (f := rk_rd d z fs frN leN prN (nI li) (nI en)) (g := fun w b => rk_ev ok fa frN (fun i j => leN i * prN j) li en (rk_cN z d w) d 1 0 0 (fun _ => 0) (fun _ => 0) b) (R := fun x y => rk_BR d x y ∧ x.2.1 0 = 0) (z := z ^ d) (fun w x y hw hR => rk_rd_ev h hli hen hw hR.1 hR.2) (z ^ d) 0 (st.1, st.2.1, 0, st.2.2.2) none (by omega) ⟨rfl, h0⟩
def rk_LR (st : rk_LS) : dk_Bt → Prop
  | none => st.2.2 = -1
  | some x => st.2.2 = lN x.1 ∧ x.1 ≤ 900000
theorem rk_lr_ev {d z : Nat} {fs : Nat → Int64} {ok : Nat → Nat → Bool} {fa : Nat → Nat → Nat} {frN leN prN : Nat → Nat} (h : rk_Sn d z fs ok fa frN leN prN) {li : Nat} (hli : li ≤ 300) {w : Nat} (hw : w < z ^ d) {st : rk_LS} {b : dk_Bt} (hB : rk_LR st b) (h0 : st.2.1 0 = 0) :
    rk_LR (rk_lr d z fs frN leN prN (nI li) w st) (rk_ev ok fa frN (fun i j => leN i * prN j) li 0 (rk_cN z d w) d 1 0 0 (fun _ => 0) (fun _ => 0) b) ∧ (rk_lr d z fs frN leN prN (nI li) w st).2.1 0 = 0 := by
  obtain ⟨hd, hz, hF, hfr, hpr⟩ := h
  have hc : ∀ i, 1 ≤ i → i ≤ d → rk_cN z d w i < z := fun i h1 h2 => Nat.mod_lt _ (rk_z0 hw (by omega))
  have hla0 : (rk_lk fs (rk_cN z d w) frN d 1 st.2.1 0).1 0 = 0 := (rk_lk_0 d 1 st.2.1 0 (Nat.le_refl _)).trans h0
  have hP := rk_pr_le (fun i a b => (hfr i a b).2) hpr hc d 1 0 (by omega) (by omega)
  have r := rk_lk_ev (le := leN) (pr := prN) (li := li) (en := 0) hF (fun i a b => (hfr i a b).1) hc d 1 st.2.1 0 0 0 (fun _ => 0) (fun _ => 0) (by omega) (by omega) (fun a ha => ⟨by rw [show a = 0 by omega, h0]; rfl, Nat.le_refl _⟩) (by omega) rfl (Or.inl rfl)
  unfold rk_lr
  generalize hL : rk_lk fs (rk_cN z d w) frN d 1 st.2.1 0 = L at r hla0 ⊢
  generalize hQ : rk_pr leN prN (rk_cN z d w) d 1 0 = PP at r hP ⊢
  rcases r with ⟨r1, r2⟩ | ⟨g', ts', tp', r1, r2, r3, r4, r5, r6, r7⟩
  · unfold rk_lr1
    rw [r2 b, if_pos (by rw [r1]; decide)]
    refine ⟨?_, hla0⟩
    cases b with
    | none => exact hB
    | some x => exact hB
  · rw [r7 b, r1]
    have h1 : ¬ lN g' < (0 : Int64) := fun e => by have := (pk_lLT (b := 0) (by omega) (by decide)).mp e; omega
    have h2 : (nI li).toInt64 < lN g' ↔ li < g' := by rw [nI_l (by omega)]; exact pk_lLT (by omega) (by omega)
    unfold rk_lf rk_lr1
    rw [if_neg h1, Nat.zero_mul, Nat.add_zero]
    have keep : rk_LR (rk_dg z d st.1 w, L.1, st.2.2) b := by
      cases b with
      | none => exact hB
      | some x => exact hB
    by_cases q1 : li < g'
    · rw [if_pos q1, if_pos (h2.mpr q1)]
      exact ⟨keep, hla0⟩
    · rw [if_neg q1, if_neg (fun e => q1 (h2.mp e))]
      have take : rk_LR (rk_dg z d st.1 w, L.1, lN PP) (some (PP, g', ts', tp')) := ⟨rfl, by show PP ≤ 900000; omega⟩
      cases b with
      | none =>
        have hm : st.2.2 = -1 := hB
        rw [if_pos (by rw [hm]; decide)]
        exact ⟨take, hla0⟩
      | some x =>
        obtain ⟨b2, b6⟩ := hB
        have hx0 : ¬ lN x.1 < (0 : Int64) := fun e => by have := (pk_lLT (b := 0) (by omega) (by decide)).mp e; omega
        rw [b2, if_neg hx0]
        by_cases q2 : PP < x.1
        · rw [if_neg (fun e => by have := (pk_lLE (by omega) (by omega)).mp e; omega), if_neg (fun e => rk_btF.mp e (Or.inl q2))]
          exact ⟨take, hla0⟩
        · rw [if_pos ((pk_lLE (by omega) (by omega)).mpr (by omega))]
          refine ⟨?_, hla0⟩
          by_cases q3 : PP = x.1 ∧ g' < x.2.1
          · rw [if_neg (fun e => rk_btF.mp e (Or.inr q3))]
            exact ⟨by rw [q3.1], by show PP ≤ 900000; omega⟩
          · rw [if_pos (rk_btF.mpr (by omega))]
            exact ⟨rfl, b6⟩
/-- least, by the numbers -/
theorem rk_least_num {d z : Nat} {fs : Nat → Int64} {ok : Nat → Nat → Bool} {fa : Nat → Nat → Nat} {frN leN prN : Nat → Nat} (h : rk_Sn d z fs ok fa frN leN prN) {li : Nat} (hli : li ≤ 300) {ch : Nat → Int32} {la : Nat → Int64} (h0 : la 0 = 0) :
    rk_LR (dk_loop (rk_lr d z fs frN leN prN (nI li)) (z ^ d) 0 (ch, la, (-1 : Int64))) (dk_nx ok fa frN (fun i j => leN i * prN j) li 0 z d 1 0 0 (fun _ => 0) (fun _ => 0) none) ∧ (dk_loop (rk_lr d z fs frN leN prN (nI li)) (z ^ d) 0 (ch, la, (-1 : Int64))).2.1 0 = 0 := by
  rw [rk_nx_ev (d := d) d 1 0 0 (fun _ => 0) (fun _ => 0) none (by omega)]
  exact dk_loop_rel (f := rk_lr d z fs frN leN prN (nI li)) (g := fun w b => rk_ev ok fa frN (fun i j => leN i * prN j) li 0 (rk_cN z d w) d 1 0 0 (fun _ => 0) (fun _ => 0) b) (R := fun x y => rk_LR x y ∧ x.2.1 0 = 0) (z := z ^ d) (fun w x y hw hR => rk_lr_ev h hli hw hR.1 hR.2) (z ^ d) 0 (ch, la, (-1 : Int64)) none (by omega) ⟨rfl, h0⟩
/-- the node of the greatest pressure -/
theorem rk_first_stay {pa : Nat → Int32} {tp : Nat → Nat} {g : Nat} (hg : g ≤ 300) : ∀ n i b, (∀ a, i ≤ a → a < i + n → pa a = nI (tp a) ∧ tp a ≤ g) → pa b = nI g → dk_first pa n i b = b := by
  intro n
  induction n with
  | zero => intro i b _ _; rfl
  | succ n ih =>
    intro i b h hb
    show dk_first pa n (i + 1) (if pa i ≤ pa b then b else i) = b
    obtain ⟨h1, h2⟩ := h i (Nat.le_refl _) (by omega)
    rw [if_pos (by rw [h1, hb]; exact nI_le h2 (by omega))]
    exact ih (i + 1) b (fun a h1 h2 => h a (by omega) (by omega)) hb
theorem rk_first_wst {pa : Nat → Int32} {ba : Nat → Int64} {tp : Nat → Nat} {g : Nat} (hg : g ≤ 300) (hg0 : 0 < g) : ∀ n i b m, (∀ a, i ≤ a → a < i + n → pa a = nI (tp a) ∧ ba a = lN (tp a) ∧ tp a ≤ g) → pa b = nI m → m < g → (∃ a, i ≤ a ∧ a < i + n ∧ tp a = g) → dk_first pa n i b = rk_wst ba (lN g) n i := by
  intro n
  induction n with
  | zero =>
    intro i b m _ _ _ ⟨a, h1, h2, _⟩
    omega
  | succ n ih =>
    intro i b m h hb hm ⟨a, a1, a2, a3⟩
    show dk_first pa n (i + 1) (if pa i ≤ pa b then b else i) = (if lN g ≤ 0 then 0 else if ba i = lN g then i else rk_wst ba (lN g) n (i + 1))
    obtain ⟨h1, h2, h3⟩ := h i (Nat.le_refl _) (by omega)
    have hng : ¬ lN g ≤ (0 : Int64) := fun e => by have := (pk_lLE (a := g) (b := 0) (by omega) (by decide)).mp e; omega
    rw [if_neg hng, h2]
    by_cases q : tp i = g
    · rw [if_pos (show lN (tp i) = lN g by rw [q]), if_neg (show ¬ pa i ≤ pa b by rw [h1, hb, q]; exact nI_ge hm (by omega))]
      exact rk_first_stay (tp := tp) hg n (i + 1) i (fun a h4 h5 => ⟨(h a (by omega) (by omega)).1, (h a (by omega) (by omega)).2.2⟩) (by rw [h1, q])
    · rw [if_neg (show ¬ lN (tp i) = lN g from fun e => q ((pk_lEQ (by omega) (by omega)).mp e))]
      have hex : ∃ a, i + 1 ≤ a ∧ a < i + 1 + n ∧ tp a = g := by
        have e : a ≠ i := fun e => q (by rw [← e]; exact a3)
        exact ⟨a, by omega, by omega, a3⟩
      by_cases q2 : pa i ≤ pa b
      · rw [if_pos q2]
        exact ih (i + 1) b m (fun a h4 h5 => h a (by omega) (by omega)) hb hm hex
      · rw [if_neg q2]
        exact ih (i + 1) i (tp i) (fun a h4 h5 => h a (by omega) (by omega)) h1 (by omega) hex
theorem rk_wst_0 {ba : Nat → Int64} : ∀ n i, rk_wst ba 0 n i = 0 := by
  intro n i
  cases n with
  | zero => rfl
  | succ n =>
    show (if (0 : Int64) ≤ 0 then 0 else _) = 0
    rw [if_pos (by decide)]
end RkBest
