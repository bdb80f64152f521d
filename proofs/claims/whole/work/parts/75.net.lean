/-! NET: what the changes of the network do to its numbers -/
section DkNet
theorem dk_cl_fuel {fr : Nat → Nat} {n d : Nat} (hfr : ∀ v, 1 ≤ v → v ≤ d → fr v < v) : ∀ k v, v ≤ k → v ≤ d → dk_cl fr n (k + 1) v = dk_cl fr n k v := by
  intro k
  induction k with
  | zero =>
    intro v hv _
    have e : v = 0 := by omega
    subst e
    show (if 0 ≤ n then 0 else _) = 0
    rw [if_pos (Nat.zero_le _)]
  | succ k ih =>
    intro v hv hd
    show (if v ≤ n then v else dk_cl fr n (k + 1) (fr v)) = (if v ≤ n then v else dk_cl fr n k (fr v))
    by_cases q : v ≤ n
    · rw [if_pos q, if_pos q]
    · rw [if_neg q, if_neg q]
      have h3 := hfr v (by omega) hd
      exact ih (fr v) (by omega) (by omega)
theorem dk_cl_congr {fr fr' : Nat → Nat} {n d : Nat} (hfr : ∀ v, 1 ≤ v → v ≤ d → fr v < v) (he : ∀ v, 1 ≤ v → v ≤ d → fr' v = fr v) : ∀ k v, v ≤ d → dk_cl fr' n k v = dk_cl fr n k v := by
  intro k
  induction k with
  | zero => intro v _; rfl
  | succ k ih =>
    intro v hd
    show (if v ≤ n then v else dk_cl fr' n k (fr' v)) = (if v ≤ n then v else dk_cl fr n k (fr v))
    by_cases q : v ≤ n
    · rw [if_pos q, if_pos q]
    · rw [if_neg q, if_neg q, he v (by omega) hd]
      have h3 := hfr v (by omega) hd
      exact ih (fr v) (by omega)
/-- a new duct, whose node needs nothing: the flows stay, its own is 0 -/
theorem dk_fl_ext {fr fr' ne : Nat → Nat} {d : Nat} (hfr : ∀ v, 1 ≤ v → v ≤ d → fr v < v) (he : ∀ v, 1 ≤ v → v ≤ d → fr' v = fr v) (hn : ne (d + 1) = 0) : ∀ a, a ≤ d → dk_fl fr' ne (d + 1) a = dk_fl fr ne d a := by
  intro a ha
  unfold dk_fl dk_Sf
  show dk_sm _ (d + 1) + (if dk_cl fr' a (d + 1) (d + 1) = a then ne (d + 1) else 0) = _
  rw [hn, ite_self, Nat.add_zero]
  refine dk_sm_congr _ (fun v hv => ?_)
  show (if dk_cl fr' a (d + 1) v = a then ne v else 0) = (if dk_cl fr a d v = a then ne v else 0)
  rw [dk_cl_congr hfr he (d + 1) v (by omega), dk_cl_fuel hfr d v (by omega) (by omega)]
theorem dk_cl_le {fr : Nat → Nat} {n d : Nat} (hfr : ∀ v, 1 ≤ v → v ≤ d → fr v < v) : ∀ k v, v ≤ d → dk_cl fr n k v ≤ v := by
  intro k
  induction k with
  | zero => intro v _; exact Nat.le_refl _
  | succ k ih =>
    intro v hd
    show (if v ≤ n then v else dk_cl fr n k (fr v)) ≤ v
    by_cases q : v ≤ n
    · rw [if_pos q]; exact Nat.le_refl _
    · rw [if_neg q]
      have h3 := hfr v (by omega) hd
      exact Nat.le_trans (ih (fr v) (by omega)) (by omega)
theorem dk_fl_new {fr' ne : Nat → Nat} {d : Nat} (hfr : ∀ v, 1 ≤ v → v ≤ d + 1 → fr' v < v) (hn : ne (d + 1) = 0) : dk_fl fr' ne (d + 1) (d + 1) = 0 := by
  unfold dk_fl dk_Sf
  show dk_sm _ (d + 1) + (if dk_cl fr' (d + 1) (d + 1) (d + 1) = d + 1 then ne (d + 1) else 0) = _
  rw [hn, ite_self, Nat.add_zero]
  have z : ∀ m, m ≤ d + 1 → dk_sm (fun v => if dk_cl fr' (d + 1) (d + 1) v = d + 1 then ne v else 0) m = 0 := by
    intro m
    induction m with
    | zero => intro _; rfl
    | succ m ih =>
      intro hm
      show dk_sm _ m + (if dk_cl fr' (d + 1) (d + 1) m = d + 1 then ne m else 0) = 0
      have := dk_cl_le (n := d + 1) hfr (d + 1) m (by omega)
      rw [ih (by omega), if_neg (by omega)]
  exact z (d + 1) (Nat.le_refl _)
theorem dk_sm_le0 {f : Nat → Nat} {c : Nat} (h0 : f 0 = 0) : ∀ m, (∀ v, v ≤ m → f v ≤ c) → dk_sm f (m + 1) ≤ m * c := by
  intro m
  induction m with
  | zero =>
    intro _
    show 0 + f 0 ≤ 0 * c
    rw [h0]
    omega
  | succ m ih =>
    intro h
    show dk_sm f (m + 1) + f (m + 1) ≤ (m + 1) * c
    rw [Nat.add_mul, Nat.one_mul]
    exact Nat.add_le_add (ih (fun v hv => h v (by omega))) (h (m + 1) (Nat.le_refl _))
theorem dk_fl_le {fr ne : Nat → Nat} {d : Nat} (hd : d ≤ 6) (h0 : ne 0 = 0) (hne : ∀ v, v ≤ d → ne v ≤ 1000) : ∀ a, dk_fl fr ne d a ≤ 6000 := by
  intro a
  have h := dk_sm_le0 (f := fun v => if dk_cl fr a d v = a then ne v else 0) (c := 1000) (by show (if _ then ne 0 else 0) = 0; rw [h0, ite_self]) d (fun v hv => by
    show (if _ then ne v else 0) ≤ 1000
    split
    · exact hne v hv
    · exact Nat.zero_le _)
  refine Nat.le_trans h ?_
  omega
theorem dk_up_out {d : Nat} {fr : Nat → Int32} {frN : Nat → Nat} (hd : d ≤ 6) (hfr : ∀ v, 1 ≤ v → v ≤ d → frN v < v) (hfI : ∀ v, 1 ≤ v → v ≤ d → fr v = nI (frN v)) : ∀ (n : Nat) (f : Nat → Int32) (a : Nat), n ≤ d → d < a → dk_up fr n f a = f a := by
  intro n
  induction n with
  | zero => intro f a _ _; rfl
  | succ n ih =>
    intro f a hn ha
    have hlt := hfr (n + 1) (by omega) hn
    have e1 : (fr (n + 1)).toNatClampNeg = frN (n + 1) := by
      rw [hfI (n + 1) (by omega) hn]
      exact nI_clamp (by omega)
    show dk_up fr n (upd f (fr (n + 1)).toNatClampNeg _) a = _
    rw [ih _ a (by omega) ha, e1, pk_un (by omega)]
/-- the whole network: the ducts, the needs, the flows, the sizes -/
def dk_Net (d z : Nat) (fr le fi ne fl ar pr : Nat → Int32) (sp : Int32) (frN leN fiN neN arN prN : Nat → Nat) (spN : Nat) : Prop :=
  dk_Nn d z fr le fi fl ar pr sp frN leN fiN (dk_fl frN neN d) arN prN spN ∧ (∀ v, v < 7 → ne v = nI (neN v) ∧ neN v ≤ 1000) ∧ neN 0 = 0 ∧ (∀ v, d < v → neN v = 0) ∧ (∀ v, v < 7 → vp_in (fr v) 7) ∧ ∀ a, d < a → a < 7 → fl a = 0
theorem dk_Net_0 : dk_Net 0 0 (fun _ => 0) (fun _ => 0) (fun _ => 0) (fun _ => 0) (fun _ => 0) (fun _ => 0) (fun _ => 0) 100000 (fun _ => 0) (fun _ => 0) (fun _ => 0) (fun _ => 0) (fun _ => 0) (fun _ => 0) 100000 := by
  refine ⟨⟨by decide, by decide, fun i h1 h2 => by omega, fun i hi => ?_, fun j hj => by omega, rfl, by decide⟩, fun v _ => ⟨rfl, Nat.zero_le _⟩, rfl, fun _ _ => rfl, fun v _ => show vp_in 0 7 by (unfold vp_in; decide), fun _ _ _ => rfl⟩
  have e : i = 0 := by omega
  subst e
  exact ⟨rfl, by decide⟩
theorem dk_Net_duct {d z : Nat} {fr le fi ne fl ar pr : Nat → Int32} {sp : Int32} {frN leN fiN neN arN prN : Nat → Nat} {spN : Nat} (h : dk_Net d z fr le fi ne fl ar pr sp frN leN fiN neN arN prN spN) (hd : d < 6) {f L t : Nat} (hf : f ≤ d) (hL : L ≤ 100) (ht : t ≤ 50) :
    dk_Net (d + 1) z (upd fr (d + 1) (nI f)) (upd le (d + 1) (nI L)) (upd fi (d + 1) (nI t)) ne fl ar pr sp (dk_un frN (d + 1) f) (dk_un leN (d + 1) L) (dk_un fiN (d + 1) t) neN arN prN spN := by
  obtain ⟨⟨h1, h2, h3, h4, h5, h6, h7⟩, i2, i3, i4, i5, i6⟩ := h
  have hn : neN (d + 1) = 0 := i4 _ (by omega)
  have hfr0 : ∀ v, 1 ≤ v → v ≤ d → frN v < v := fun v a b => (h3 v a b).2.1
  have he : ∀ v, 1 ≤ v → v ≤ d → dk_un frN (d + 1) f v = frN v := fun v a b => by unfold dk_un; rw [if_neg (by omega)]
  have hfr1 : ∀ v, 1 ≤ v → v ≤ d + 1 → dk_un frN (d + 1) f v < v := fun v a b => by
    unfold dk_un
    split
    · omega
    · exact (h3 v a (by omega)).2.1
  refine ⟨⟨by omega, h2, fun i a b => ?_, fun i hi => ?_, h5, h6, h7⟩, i2, i3, fun v hv => i4 v (by omega), fun v hv => ?_, fun a ha1 ha2 => i6 a (by omega) ha2⟩
  · by_cases q : i = d + 1
    · subst q
      unfold dk_un
      rw [pk_us, pk_us, pk_us, if_pos rfl, if_pos rfl, if_pos rfl]
      exact ⟨rfl, by omega, rfl, hL, rfl, ht⟩
    · unfold dk_un
      rw [pk_un q, pk_un q, pk_un q, if_neg q, if_neg q, if_neg q]
      exact h3 i a (by omega)
  · by_cases q : i = d + 1
    · subst q
      rw [dk_fl_new hfr1 hn]
      exact ⟨i6 _ (by omega) (by omega), by omega⟩
    · rw [dk_fl_ext hfr0 he hn i (by omega)]
      exact h4 i (by omega)
  · by_cases q : v = d + 1
    · subst q
      rw [pk_us]
      exact vp_in_nI (by omega) (by decide)
    · rw [pk_un q]
      exact i5 v hv
theorem dk_Net_need {d z : Nat} {fr le fi ne fl ar pr : Nat → Int32} {sp : Int32} {frN leN fiN neN arN prN : Nat → Nat} {spN : Nat} (h : dk_Net d z fr le fi ne fl ar pr sp frN leN fiN neN arN prN spN) {j v : Nat} (hj1 : 1 ≤ j) (hj : j ≤ d) (hv : v ≤ 1000) :
    dk_Net d z fr le fi (upd ne j (nI v)) (dk_up fr d (dk_cpL (upd ne j (nI v)) (d + 1) 0 fl)) ar pr sp frN leN fiN (dk_un neN j v) arN prN spN := by
  obtain ⟨⟨h1, h2, h3, h4, h5, h6, h7⟩, i2, i3, i4, i5, i6⟩ := h
  have hfr0 : ∀ v, 1 ≤ v → v ≤ d → frN v < v := fun v a b => (h3 v a b).2.1
  have hfI : ∀ v, 1 ≤ v → v ≤ d → fr v = nI (frN v) := fun v a b => (h3 v a b).1
  have hne : ∀ w, w < 7 → upd ne j (nI v) w = nI (dk_un neN j v w) ∧ dk_un neN j v w ≤ 1000 := fun w hw => by
    unfold dk_un
    by_cases q : w = j
    · subst q
      rw [pk_us, if_pos rfl]
      exact ⟨rfl, hv⟩
    · rw [pk_un q, if_neg q]
      exact i2 w hw
  have h0 : dk_un neN j v 0 = 0 := by
    unfold dk_un
    rw [if_neg (by omega)]
    exact i3
  refine ⟨⟨h1, h2, h3, fun i hi => ⟨dk_sumFlows h1 hfr0 hfI (fun w hw => (hne w (by omega)).1) i hi, dk_fl_le h1 h0 (fun w hw => (hne w (by omega)).2) i⟩, h5, h6, h7⟩, hne, h0, fun w hw => ?_, i5, fun a ha1 ha2 => ?_⟩
  · unfold dk_un
    rw [if_neg (by omega)]
    exact i4 w hw
  · rw [dk_up_out h1 hfr0 hfI d _ a (Nat.le_refl _) ha1, dk_cpL_get, if_neg (by omega)]
    exact i6 a ha1 ha2
theorem dk_Net_size {d z : Nat} {fr le fi ne fl ar pr : Nat → Int32} {sp : Int32} {frN leN fiN neN arN prN : Nat → Nat} {spN : Nat} (h : dk_Net d z fr le fi ne fl ar pr sp frN leN fiN neN arN prN spN) (hz : z < 4) {A Pr : Nat} (hA0 : 0 < A) (hA : A ≤ 1000) (hP : Pr ≤ 1000) :
    dk_Net d (z + 1) fr le fi ne fl (upd ar z (nI A)) (upd pr z (nI Pr)) sp frN leN fiN neN (dk_un arN z A) (dk_un prN z Pr) spN := by
  obtain ⟨⟨h1, h2, h3, h4, h5, h6, h7⟩, i⟩ := h
  refine ⟨⟨h1, by omega, h3, h4, fun j hj => ?_, h6, h7⟩, i⟩
  unfold dk_un
  by_cases q : j = z
  · subst q
    rw [pk_us, pk_us, if_pos rfl, if_pos rfl]
    exact ⟨rfl, hA0, hA, rfl, hP⟩
  · rw [pk_un q, pk_un q, if_neg q, if_neg q]
    exact h5 j (by omega)
theorem dk_Net_speed {d z : Nat} {fr le fi ne fl ar pr : Nat → Int32} {sp : Int32} {frN leN fiN neN arN prN : Nat → Nat} {spN : Nat} (h : dk_Net d z fr le fi ne fl ar pr sp frN leN fiN neN arN prN spN) {s : Nat} (hs : s ≤ 100000) : dk_Net d z fr le fi ne fl ar pr (nI s) frN leN fiN neN arN prN s := by
  obtain ⟨⟨h1, h2, h3, h4, h5, -, -⟩, i⟩ := h
  exact ⟨⟨h1, h2, h3, h4, h5, rfl, hs⟩, i⟩
theorem dk_Cv_0 : dk_Cv (fun _ => 0) (fun _ => 0) (fun _ => 0) (fun _ => 0) 0 := ⟨by decide, fun i hi => by omega, fun i _ hi => by omega⟩
theorem dk_Cv_add {cfI cpI : Nat → Int32} {cf cp : Nat → Nat} {k : Nat} (h : dk_Cv cfI cpI cf cp k) (hk : k < 5) {f q : Nat} (hf : f ≤ 10000) (hq : q ≤ 300) (hr : 0 < k → cf (k - 1) < f ∧ q ≤ cp (k - 1)) : dk_Cv (upd cfI k (nI f)) (upd cpI k (nI q)) (dk_un cf k f) (dk_un cp k q) (k + 1) := by
  obtain ⟨h1, h2, h3⟩ := h
  refine ⟨by omega, fun i hi => ?_, fun i hi0 hi => ?_⟩
  · unfold dk_un
    by_cases e : i = k
    · subst e
      rw [pk_us, pk_us, if_pos rfl, if_pos rfl]
      exact ⟨rfl, rfl, hf, hq⟩
    · rw [pk_un e, pk_un e, if_neg e, if_neg e]
      exact h2 i (by omega)
  · unfold dk_un
    by_cases e : i = k
    · subst e
      rw [if_pos rfl, if_pos rfl, if_neg (by omega), if_neg (by omega)]
      exact hr hi0
    · rw [if_neg e, if_neg e, if_neg (by omega), if_neg (by omega)]
      exact h3 i hi0 (by omega)
end DkNet
