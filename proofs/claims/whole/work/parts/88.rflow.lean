/-! RFLOW: the other side's flows and falls are the same numbers -/
section RkFlow
theorem rk_cl_le {fr : Nat → Nat} {t d : Nat} (hfr : ∀ v, 1 ≤ v → v ≤ d → fr v < v) : ∀ n v, v ≤ d → rk_cl fr t n v ≤ v := by
  intro n
  induction n with
  | zero => intro v _; exact Nat.le_refl _
  | succ n ih =>
    intro v hv
    show (if v = 0 then v else if v = t then v else rk_cl fr t n (fr v)) ≤ v
    split
    · exact Nat.le_refl _
    · split
      · exact Nat.le_refl _
      · have h := hfr v (by omega) hv
        have := ih (fr v) (by omega)
        omega
theorem rk_cl_iff {fr : Nat → Nat} {t d : Nat} (hfr : ∀ v, 1 ≤ v → v ≤ d → fr v < v) : ∀ n k v, v ≤ n → v ≤ k → v ≤ d → (rk_cl fr t n v = t ↔ dk_cl fr t k v = t) := by
  intro n
  induction n with
  | zero =>
    intro k v h1 h2 h3
    have e : v = 0 := by omega
    subst e
    rw [dk_cl_low k 0 (Nat.zero_le _)]
    exact Iff.rfl
  | succ n ih =>
    intro k v h1 h2 h3
    by_cases q0 : v = 0
    · subst q0
      rw [dk_cl_low k 0 (Nat.zero_le _)]
      show (if 0 = 0 then 0 else _) = t ↔ _
      rw [if_pos rfl]
    · show (if v = 0 then v else if v = t then v else rk_cl fr t n (fr v)) = t ↔ _
      rw [if_neg q0]
      have hf := hfr v (by omega) h3
      by_cases q1 : v = t
      · rw [if_pos q1, dk_cl_low k v (by omega)]
      · rw [if_neg q1]
        by_cases q2 : v ≤ t
        · rw [dk_cl_low k v q2]
          have := rk_cl_le (t := t) hfr n (fr v) (by omega)
          exact ⟨fun e => by omega, fun e => absurd e q1⟩
        · cases k with
          | zero => omega
          | succ k =>
            show _ ↔ (if v ≤ t then v else dk_cl fr t k (fr v)) = t
            rw [if_neg q2]
            exact ih k (fr v) (by omega) (by omega) (by omega)
theorem rk_fs_sm {fr ne : Nat → Nat} {t d : Nat} (hfr : ∀ v, 1 ≤ v → v ≤ d → fr v < v) : ∀ n k s, k + n = d + 1 → rk_fs fr ne t n k s + dk_sm (fun v => if dk_cl fr t d v = t then ne v else 0) k = s + dk_sm (fun v => if dk_cl fr t d v = t then ne v else 0) (d + 1) := by
  intro n
  induction n with
  | zero =>
    intro k s h
    have e : k = d + 1 := by omega
    subst e
    rfl
  | succ n ih =>
    intro k s h
    show rk_fs fr ne t n (k + 1) (s + if rk_bl fr k t = 0 then 0 else ne k) + _ = _
    have e : (if rk_bl fr k t = 0 then 0 else ne k) = (if dk_cl fr t d k = t then ne k else 0) := by
      have hi := rk_cl_iff (t := t) hfr k d k (Nat.le_refl _) (by omega) (by omega)
      unfold rk_bl
      by_cases q : dk_cl fr t d k = t
      · rw [if_pos q, if_pos (hi.mpr q), if_neg (by decide)]
      · rw [if_neg q, if_neg (fun e => q (hi.mp e)), if_pos rfl]
    rw [e]
    have h2 := ih (k + 1) (s + if dk_cl fr t d k = t then ne k else 0) (by omega)
    have h3 : dk_sm (fun v => if dk_cl fr t d v = t then ne v else 0) (k + 1) = dk_sm (fun v => if dk_cl fr t d v = t then ne v else 0) k + (if dk_cl fr t d k = t then ne k else 0) := rfl
    omega
theorem rk_flow_eq {fr ne : Nat → Nat} {t d : Nat} (hfr : ∀ v, 1 ≤ v → v ≤ d → fr v < v) (h0 : ne 0 = 0) : rk_flow fr ne d t = dk_fl fr ne d t := by
  have h1 := rk_fs_sm (ne := ne) (t := t) hfr d 1 0 (by omega)
  have h2 : dk_sm (fun v => if dk_cl fr t d v = t then ne v else 0) 1 = 0 := by
    show 0 + (if dk_cl fr t d 0 = t then ne 0 else 0) = 0
    rw [h0]
    split <;> rfl
  unfold rk_flow dk_fl dk_Sf
  omega
theorem rk_tot_sm {ne : Nat → Nat} : ∀ n k s, rk_tot ne n k s + dk_sm ne k = s + dk_sm ne (k + n) := by
  intro n
  induction n with
  | zero => intro k s; rfl
  | succ n ih =>
    intro k s
    show rk_tot ne n (k + 1) (s + ne k) + _ = _
    have h2 := ih (k + 1) (s + ne k)
    have h3 : dk_sm ne (k + 1) = dk_sm ne k + ne k := rfl
    rw [show k + (n + 1) = k + 1 + n by omega]
    omega
theorem rk_cl0 {fr : Nat → Nat} {d : Nat} (hfr : ∀ v, 1 ≤ v → v ≤ d → fr v < v) : ∀ k v, v ≤ k → v ≤ d → dk_cl fr 0 k v = 0 := by
  intro k
  induction k with
  | zero => intro v h1 _; show v = 0; omega
  | succ k ih =>
    intro v h1 h2
    show (if v ≤ 0 then v else dk_cl fr 0 k (fr v)) = 0
    split
    · omega
    · have h := hfr v (by omega) h2
      exact ih (fr v) (by omega) (by omega)
theorem rk_tot_eq {fr ne : Nat → Nat} {d : Nat} (hfr : ∀ v, 1 ≤ v → v ≤ d → fr v < v) (h0 : ne 0 = 0) : rk_tot ne d 1 0 = dk_fl fr ne d 0 := by
  have h1 := rk_tot_sm (ne := ne) d 1 0
  have h2 : dk_sm ne 1 = 0 := by
    show 0 + ne 0 = 0
    omega
  have h3 : dk_fl fr ne d 0 = dk_sm ne (d + 1) := by
    unfold dk_fl dk_Sf
    refine dk_sm_congr (d + 1) (fun v hv => ?_)
    rw [if_pos (rk_cl0 hfr d v (by omega) (by omega))]
  rw [h3, show d + 1 = 1 + d by omega]
  omega
theorem rk_us {f : Nat → Int64} {k : Nat} {x : Int64} : vp_updL f k x k = x := if_pos rfl
theorem rk_un {f : Nat → Int64} {k j : Nat} {x : Int64} (h : j ≠ k) : vp_updL f k x j = f j := if_neg h
theorem rk_nc_get {v : Nat → Nat → Int64} {i : Nat} : ∀ (n j : Nat) (G : Nat → Int64) (a b : Nat), j + n ≤ 4 → b < 4 → rk_nc v i n j G (4 * a + b) = if a = i ∧ j ≤ b ∧ b < j + n then v i b else G (4 * a + b) := by
  intro n
  induction n with
  | zero =>
    intro j G a b _ _
    rw [if_neg (by omega)]
    rfl
  | succ n ih =>
    intro j G a b h1 h2
    show rk_nc v i n (j + 1) (vp_updL G (4 * i + j) (v i j)) (4 * a + b) = _
    rw [ih _ _ _ _ (by omega) h2]
    by_cases q : a = i ∧ j + 1 ≤ b ∧ b < j + 1 + n
    · rw [if_pos q, if_pos (by omega)]
    · rw [if_neg q]
      by_cases q1 : a = i ∧ b = j
      · rw [if_pos (by omega), q1.1, q1.2, rk_us]
      · rw [rk_un (by omega), if_neg (by omega)]
theorem rk_nr_get {v : Nat → Nat → Int64} {z : Nat} (hz : z ≤ 4) : ∀ (n i : Nat) (G : Nat → Int64) (a b : Nat), b < 4 → rk_nr v z n i G (4 * a + b) = if i ≤ a ∧ a < i + n ∧ b < z then v a b else G (4 * a + b) := by
  intro n
  induction n with
  | zero =>
    intro i G a b _
    rw [if_neg (by omega)]
    rfl
  | succ n ih =>
    intro i G a b h2
    show rk_nr v z n (i + 1) (rk_nc v i z 0 G) (4 * a + b) = _
    rw [ih _ _ _ _ h2, rk_nc_get z 0 G a b (by omega) h2]
    by_cases q : i + 1 ≤ a ∧ a < i + 1 + n ∧ b < z
    · rw [if_pos q, if_pos (by omega)]
    · rw [if_neg q]
      by_cases q1 : a = i ∧ 0 ≤ b ∧ b < 0 + z
      · rw [if_pos q1, if_pos (by omega)]
        rw [q1.1]
      · rw [if_neg q1, if_neg (by omega)]
/-- what is noted of the falls -/
def rk_Fs (d z : Nat) (fs : Nat → Int64) (ok : Nat → Nat → Bool) (fa : Nat → Nat → Nat) : Prop :=
  ∀ i j, 1 ≤ i → i ≤ d → j < z → (ok i j = false ∧ fs (4 * i + j) = -1) ∨ (ok i j = true ∧ fs (4 * i + j) = lN (fa i j) ∧ fa i j ≤ 1000050)
theorem rk_Fs_of {d z : Nat} {fr le fi ne ar pr : Nat → Int32} {frN leN fiN neN arN prN : Nat → Nat} (h : rk_Ok d z fr le fi ne ar pr frN leN fiN neN arN prN) (h0 : neN 0 = 0) {spN : Nat} (hs : spN ≤ 100000) (fs : Nat → Int64) :
    rk_Fs d z (rk_nr (rk_fa frN leN fiN neN arN spN d) z d 1 fs) (dk_okN (dk_fl frN neN d) arN spN) (dk_fN leN fiN (dk_fl frN neN d) arN) := by
  intro i j h1 h2 hj
  have hz := h.2.1
  rw [rk_nr_get hz d 1 fs i j (by omega), if_pos (by omega)]
  have e : rk_flow frN neN d i = dk_fl frN neN d i := rk_flow_eq (fun v a b => (h.fr a b).2) h0
  have hle := rk_flow_le h i
  unfold rk_fa
  rw [e] at hle ⊢
  have hsp := dk_spN_le (a := arN j) hle
  unfold dk_okN dk_fN
  by_cases q : spN < dk_spN (dk_fl frN neN d i) (arN j)
  · left
    refine ⟨by simp [q], ?_⟩
    rw [if_pos]
    rw [nI_l (by omega)]
    exact (pk_lLT (by omega) (by omega)).mpr q
  · right
    refine ⟨by simp [q], ?_, dk_faN_le (h.fi h1 h2).2⟩
    rw [if_neg]
    rw [nI_l (by omega)]
    exact fun w => q ((pk_lLT (by omega) (by omega)).mp w)
end RkFlow
