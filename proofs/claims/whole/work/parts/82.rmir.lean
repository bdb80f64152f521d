/-! RMIRROR: what the other side's methods compute -/
section RkMirror
def rk_isIn (v lo hi : Int64) : Int32 := if v < lo then 0 else if hi < v then 0 else 1
theorem rk_isIn_b {v lo hi : Int64} : narrow .boolean (.int (rk_isIn v lo hi)) = .int (rk_isIn v lo hi) := by
  unfold rk_isIn
  split
  · rfl
  · split <;> rfl
def rk_kDuct (d : Nat) (a b c : Int32) : Int32 := if rk_isIn a.toInt64 0 (nI d).toInt64 = 0 then 1 else if rk_isIn b.toInt64 1 100 = 0 then 1 else if rk_isIn c.toInt64 0 50 = 0 then 1 else if nI d = 6 then 2 else 0
def rk_kNeed (d : Nat) (a b : Int32) : Int32 := if rk_isIn a.toInt64 1 (nI d).toInt64 = 0 then 1 else if rk_isIn b.toInt64 0 1000 = 0 then 1 else 0
def rk_kSize (z : Nat) (a b : Int32) : Int32 := if rk_isIn a.toInt64 1 1000 = 0 then 1 else if rk_isIn b.toInt64 1 1000 = 0 then 1 else if nI z = 4 then 2 else 0
def rk_kSet1 (a b : Int32) : Int32 := if a = 1 then (if rk_isIn b.toInt64 0 1000 = 0 then 1 else 0) else 1
def rk_kSet (a b : Int32) : Int32 := if a = 0 then (if rk_isIn b.toInt64 1 100000 = 0 then rk_kSet1 a b else 0) else rk_kSet1 a b
def rk_late (cf cp : Nat → Int32) (k : Nat) (f p : Int32) : Int32 := if nI k ≤ 0 then 0 else if f ≤ cf (k - 1) then 1 else if p ≤ cp (k - 1) then 0 else 1
def rk_kFan (cf cp : Nat → Int32) (k : Nat) (a b : Int32) : Int32 := if rk_isIn a.toInt64 0 10000 = 0 then 1 else if rk_isIn b.toInt64 0 300 = 0 then 1 else if nI k = 5 then 2 else if rk_late cf cp k a b = 0 then 0 else 2
def rk_kIn (lo : Int64) (d : Nat) (a : Int32) : Int32 := if rk_isIn a.toInt64 lo (nI d).toInt64 = 0 then 1 else 0
def rk_kTold (d z : Nat) (a b c : Int32) : Int32 := if rk_isIn a.toInt64 1 (nI d).toInt64 = 0 then 1 else if rk_isIn b.toInt64 0 (nI z - 1).toInt64 = 0 then 1 else if rk_isIn c.toInt64 0 1 = 0 then 1 else 0
def rk_kBest (a : Int32) : Int32 := if rk_isIn a.toInt64 0 1 = 0 then 1 else 0
def rk_kLeast (a : Int32) : Int32 := if rk_isIn a.toInt64 0 300 = 0 then 1 else 0
/-- the numbers behind the arrays -/
def rk_Ok (d z : Nat) (fr le fi ne ar pr : Nat → Int32) (frN leN fiN neN arN prN : Nat → Nat) : Prop :=
  d ≤ 6 ∧ z ≤ 4 ∧ (∀ i, 1 ≤ i → i ≤ d → (fr i = nI (frN i) ∧ frN i < i) ∧ (le i = nI (leN i) ∧ leN i ≤ 100) ∧ (fi i = nI (fiN i) ∧ fiN i ≤ 50) ∧ ne i = nI (neN i) ∧ neN i ≤ 1000) ∧ (∀ j, j < z → (ar j = nI (arN j) ∧ 0 < arN j ∧ arN j ≤ 1000) ∧ pr j = nI (prN j) ∧ prN j ≤ 1000)
theorem rk_Ok.fr {d z : Nat} {fr le fi ne ar pr : Nat → Int32} {frN leN fiN neN arN prN : Nat → Nat} (h : rk_Ok d z fr le fi ne ar pr frN leN fiN neN arN prN) {i : Nat} (h1 : 1 ≤ i) (h2 : i ≤ d) : fr i = nI (frN i) ∧ frN i < i := (h.2.2.1 i h1 h2).1
theorem rk_Ok.le {d z : Nat} {fr le fi ne ar pr : Nat → Int32} {frN leN fiN neN arN prN : Nat → Nat} (h : rk_Ok d z fr le fi ne ar pr frN leN fiN neN arN prN) {i : Nat} (h1 : 1 ≤ i) (h2 : i ≤ d) : le i = nI (leN i) ∧ leN i ≤ 100 := (h.2.2.1 i h1 h2).2.1
theorem rk_Ok.fi {d z : Nat} {fr le fi ne ar pr : Nat → Int32} {frN leN fiN neN arN prN : Nat → Nat} (h : rk_Ok d z fr le fi ne ar pr frN leN fiN neN arN prN) {i : Nat} (h1 : 1 ≤ i) (h2 : i ≤ d) : fi i = nI (fiN i) ∧ fiN i ≤ 50 := (h.2.2.1 i h1 h2).2.2.1
theorem rk_Ok.ne {d z : Nat} {fr le fi ne ar pr : Nat → Int32} {frN leN fiN neN arN prN : Nat → Nat} (h : rk_Ok d z fr le fi ne ar pr frN leN fiN neN arN prN) {i : Nat} (h1 : 1 ≤ i) (h2 : i ≤ d) : ne i = nI (neN i) ∧ neN i ≤ 1000 := (h.2.2.1 i h1 h2).2.2.2
theorem rk_Ok.ar {d z : Nat} {fr le fi ne ar pr : Nat → Int32} {frN leN fiN neN arN prN : Nat → Nat} (h : rk_Ok d z fr le fi ne ar pr frN leN fiN neN arN prN) {j : Nat} (h1 : j < z) : ar j = nI (arN j) ∧ 0 < arN j ∧ arN j ≤ 1000 := (h.2.2.2 j h1).1
theorem rk_Ok.pr {d z : Nat} {fr le fi ne ar pr : Nat → Int32} {frN leN fiN neN arN prN : Nat → Nat} (h : rk_Ok d z fr le fi ne ar pr frN leN fiN neN arN prN) {j : Nat} (h1 : j < z) : pr j = nI (prN j) ∧ prN j ≤ 1000 := (h.2.2.2 j h1).2
theorem rk_Ok.prc {d z : Nat} {fr le fi ne ar pr : Nat → Int32} {frN leN fiN neN arN prN : Nat → Nat} (h : rk_Ok d z fr le fi ne ar pr frN leN fiN neN arN prN) {i j : Nat} (h1 : 1 ≤ i) (h2 : i ≤ d) (h3 : j < z) : (le i * pr j).toInt64 = lN (leN i * prN j) := by
  have a := h.le h1 h2
  have b := h.pr h3
  have c : leN i * prN j ≤ 100 * 1000 := Nat.mul_le_mul a.2 b.2
  rw [a.1, b.1, pk_mul, nI_l (by omega)]
-- flows
/-- from k upwards until t or 0 -/
def rk_cl (fr : Nat → Nat) (t : Nat) : Nat → Nat → Nat
  | 0, k => k
  | n + 1, k => if k = 0 then k else if k = t then k else rk_cl fr t n (fr k)
def rk_bl (fr : Nat → Nat) (v t : Nat) : Int32 := if rk_cl fr t v v = t then 1 else 0
def rk_fs (fr ne : Nat → Nat) (t : Nat) : Nat → Nat → Nat → Nat
  | 0, _, s => s
  | n + 1, k, s => rk_fs fr ne t n (k + 1) (s + if rk_bl fr k t = 0 then 0 else ne k)
def rk_flow (fr ne : Nat → Nat) (d t : Nat) : Nat := rk_fs fr ne t d 1 0
theorem rk_fs_le {fr ne : Nat → Nat} {t d : Nat} (hne : ∀ i, 1 ≤ i → i ≤ d → ne i ≤ 1000) : ∀ n k s, 1 ≤ k → k + n = d + 1 → rk_fs fr ne t n k s ≤ s + n * 1000 := by
  intro n
  induction n with
  | zero => intro k s _ _; show s ≤ _; omega
  | succ n ih =>
    intro k s h1 h2
    have h3 := hne k h1 (by omega)
    refine Nat.le_trans (ih (k + 1) _ (by omega) (by omega)) ?_
    have e : (n + 1) * 1000 = n * 1000 + 1000 := Nat.succ_mul n 1000
    split <;> omega
theorem rk_flow_le {d z : Nat} {fr le fi ne ar pr : Nat → Int32} {frN leN fiN neN arN prN : Nat → Nat} (h : rk_Ok d z fr le fi ne ar pr frN leN fiN neN arN prN) (t : Nat) : rk_flow frN neN d t ≤ 6000 := by
  have h1 := rk_fs_le (fr := frN) (t := t) (d := d) (fun i a b => (h.ne a b).2) d 1 0 (by omega) (by omega)
  have h2 := h.1
  unfold rk_flow
  omega
def rk_tot (ne : Nat → Nat) : Nat → Nat → Nat → Nat
  | 0, _, s => s
  | n + 1, k, s => rk_tot ne n (k + 1) (s + ne k)
-- speeds and falls
theorem rk_l0 {a : Nat} (h0 : 0 < a) (h : a < 2 ^ 31) : ¬ (nI a).toInt64 = 0 := by
  rw [nI_l h]
  intro e
  have := (pk_lEQ (a := a) (b := 0) (by omega) (by decide)).mp e
  omega
theorem rk_speed {f a : Nat} (hf : f ≤ 6000) (h0 : 0 < a) (ha : a ≤ 1000) : 100 * lN f / (nI a).toInt64 = lN (dk_spN f a) := by
  rw [nI_l (by omega), show (100 : Int64) = lN 100 from rfl, lN_mul, pk_lDiv (by omega) h0 (by omega)]
  rfl
theorem rk_raw {L f a : Nat} {le : Int32} (hL : le = nI L) (hL1 : L ≤ 100) (hf : f ≤ 6000) (h0 : 0 < a) (ha : a ≤ 1000) : le.toInt64 * (1000 * lN f * lN f / (nI (a * a)).toInt64) / 100 = lN (dk_raw L f a) ∧ dk_raw L f a ≤ 3600000000000 := by
  have haa : a * a ≤ 1000 * 1000 := Nat.mul_le_mul ha ha
  have haa0 : 0 < a * a := Nat.mul_pos h0 h0
  have h1 : 1000 * f * f ≤ 1000 * 6000 * 6000 := Nat.mul_le_mul (Nat.mul_le_mul_left _ hf) hf
  have h2 : 1000 * f * f / (a * a) ≤ 1000 * f * f := Nat.div_le_self _ _
  have h3 : L * (1000 * f * f / (a * a)) ≤ 100 * (1000 * 6000 * 6000) := Nat.mul_le_mul hL1 (Nat.le_trans h2 h1)
  refine ⟨?_, ?_⟩
  · rw [hL, nI_l (n := L) (by omega), nI_l (n := a * a) (by omega), show (1000 : Int64) = lN 1000 from rfl, lN_mul, lN_mul, pk_lDiv (by omega) haa0 (by omega), lN_mul, show (100 : Int64) = lN 100 from rfl, pk_lDiv (by omega) (by decide) (by decide)]
    rfl
  · unfold dk_raw
    exact Nat.le_trans (Nat.div_le_self _ _) (Nat.le_trans h3 (by decide))
theorem rk_fall1 {L t f a : Nat} {fi : Int32} (hr : dk_raw L f a ≤ 3600000000000) (ht : fi = nI t) (ht1 : t ≤ 50) (h : (1000000 : Int64) ≤ lN (dk_raw L f a)) : 1000000 + fi.toInt64 = lN (dk_faN L t f a) := by
  have h1 : 1000000 ≤ dk_raw L f a := (pk_lLE (a := 1000000) (by decide) (by omega)).mp h
  unfold dk_faN
  rw [ht, nI_l (by omega), show (1000000 : Int64) = lN 1000000 from rfl, lN_add]
  congr 2
  by_cases q : 1000000 < dk_raw L f a
  · rw [if_pos q]
  · rw [if_neg q]
    omega
theorem rk_fall2 {L t f a : Nat} {fi : Int32} (hr : dk_raw L f a ≤ 3600000000000) (ht : fi = nI t) (ht1 : t ≤ 50) (h : ¬ (1000000 : Int64) ≤ lN (dk_raw L f a)) : lN (dk_raw L f a) + fi.toInt64 = lN (dk_faN L t f a) := by
  have h1 : ¬ 1000000 < dk_raw L f a := fun q => h ((pk_lLE (a := 1000000) (by decide) (by omega)).mpr (by omega))
  unfold dk_faN
  rw [ht, nI_l (by omega), if_neg h1, lN_add]
/-- what is noted of duct i with size j -/
def rk_fa (frN leN fiN neN arN : Nat → Nat) (spN d i j : Nat) : Int64 := if (nI spN).toInt64 < lN (dk_spN (rk_flow frN neN d i) (arN j)) then -1 else lN (dk_faN (leN i) (fiN i) (rk_flow frN neN d i) (arN j))
def rk_nc (v : Nat → Nat → Int64) (i : Nat) : Nat → Nat → (Nat → Int64) → (Nat → Int64)
  | 0, _, G => G
  | n + 1, j, G => rk_nc v i n (j + 1) (vp_updL G (4 * i + j) (v i j))
def rk_nr (v : Nat → Nat → Int64) (z : Nat) : Nat → Nat → (Nat → Int64) → (Nat → Int64)
  | 0, _, G => G
  | n + 1, i, G => rk_nr v z n (i + 1) (rk_nc v i z 0 G)
-- a choice, by its number
def rk_dg (z : Nat) : Nat → (Nat → Int32) → Nat → (Nat → Int32)
  | 0, f, _ => f
  | n + 1, f, r => rk_dg z n (upd f (n + 1) (nI (r % z))) (r / z)
def rk_cN (z d w i : Nat) : Nat := w / z ^ (d - i) % z
theorem rk_dg_get {z : Nat} : ∀ (n : Nat) (f : Nat → Int32) (r a : Nat), (1 ≤ a → a ≤ n → rk_dg z n f r a = nI (r / z ^ (n - a) % z)) ∧ (¬ (1 ≤ a ∧ a ≤ n) → rk_dg z n f r a = f a) := by
  intro n
  induction n with
  | zero => intro f r a; exact ⟨fun h1 h2 => by omega, fun _ => rfl⟩
  | succ n ih =>
    intro f r a
    refine ⟨fun h1 h2 => ?_, fun h => ?_⟩
    · show rk_dg z n (upd f (n + 1) (nI (r % z))) (r / z) a = _
      by_cases q : a ≤ n
      · rw [(ih _ _ a).1 h1 q, Nat.div_div_eq_div_mul, show n + 1 - a = (n - a) + 1 by omega, Nat.pow_succ, Nat.mul_comm z]
      · have e : a = n + 1 := by omega
        rw [(ih _ _ a).2 (by omega), e, pk_us, Nat.sub_self, Nat.pow_zero, Nat.div_one]
    · show rk_dg z n (upd f (n + 1) (nI (r % z))) (r / z) a = _
      rw [(ih _ _ a).2 (by omega), pk_un (by omega)]
theorem rk_dg_in {z d w : Nat} {f : Nat → Int32} (hz : 0 < d → 0 < z) : ∀ i, 1 ≤ i → i ≤ d → rk_dg z d f w i = nI (rk_cN z d w i) ∧ rk_cN z d w i < z := fun i h1 h2 => ⟨(rk_dg_get d f w i).1 h1 h2, Nat.mod_lt _ (hz (by omega))⟩
theorem rk_z0 {z d w : Nat} (h : w < z ^ d) : 0 < d → 0 < z := by
  intro hd
  rcases Nat.eq_zero_or_pos z with e | e
  · rw [e, Nat.zero_pow hd] at h
    omega
  · exact e
theorem rk_pow {z d : Nat} (hz : z ≤ 4) (hd : d ≤ 6) : z ^ d ≤ 4096 := Nat.le_trans (Nat.pow_le_pow_left hz d) (Nat.le_trans (Nat.pow_le_pow_right (by decide) hd) (by decide))
/-- look, its second loop: n ducts are left, the next is i -/
def rk_lk (fs : Nat → Int64) (c fr : Nat → Nat) : Nat → Nat → (Nat → Int64) → Int64 → (Nat → Int64) × Int64
  | 0, _, la, g => (la, g)
  | n + 1, i, la, g => if 0 ≤ fs (4 * i + c i) then rk_lk fs c fr n (i + 1) (vp_updL la i (la (fr i) + fs (4 * i + c i))) (if vp_updL la i (la (fr i) + fs (4 * i + c i)) i ≤ g then g else vp_updL la i (la (fr i) + fs (4 * i + c i)) i) else (la, -1)
def rk_pr (le pr c : Nat → Nat) : Nat → Nat → Nat → Nat
  | 0, _, s => s
  | n + 1, i, s => rk_pr le pr c n (i + 1) (s + le i * pr (c i))
def rk_cpL (src : Nat → Int64) : Nat → Nat → (Nat → Int64) → (Nat → Int64)
  | 0, _, f => f
  | n + 1, i, f => rk_cpL src n (i + 1) (vp_updL f i (src i))
/-- choice, pressures, found, cost, pressure, the best's choice and pressures -/
abbrev rk_SS : Type := (Nat → Int32) × (Nat → Int64) × Int32 × Int64 × Int64 × (Nat → Int32) × (Nat → Int64)
/-- a round: ch, la, v: what look has left and answered; co: the cost -/
def rk_rd1 (d : Nat) (mo : Int32) (ch : Nat → Int32) (la : Nat → Int64) (v co : Int64) (st : rk_SS) : rk_SS :=
  if 0 ≤ v then (if mo.toInt64 < v then (ch, la, st.2.2) else if st.2.2.1 = 0 then (ch, la, 1, co, v, dk_cpL ch d 1 st.2.2.2.2.2.1, rk_cpL la d 1 st.2.2.2.2.2.2) else if co < st.2.2.2.1 then (ch, la, 1, co, v, dk_cpL ch d 1 st.2.2.2.2.2.1, rk_cpL la d 1 st.2.2.2.2.2.2)
    else if co = st.2.2.2.1 then (if st.2.2.2.2.1 ≤ v then (ch, la, st.2.2) else (ch, la, 1, co, v, dk_cpL ch d 1 st.2.2.2.2.2.1, rk_cpL la d 1 st.2.2.2.2.2.2)) else (ch, la, st.2.2)) else (ch, la, st.2.2)
def rk_rd (d z : Nat) (fs : Nat → Int64) (frN leN prN : Nat → Nat) (mo en : Int32) (w : Nat) (st : rk_SS) : rk_SS :=
  rk_rd1 d mo (rk_dg z d st.1 w) (rk_lk fs (rk_cN z d w) frN d 1 st.2.1 0).1 (rk_lk fs (rk_cN z d w) frN d 1 st.2.1 0).2 (lN (rk_pr leN prN (rk_cN z d w) d 1 0) + en.toInt64 * (rk_lk fs (rk_cN z d w) frN d 1 st.2.1 0).2) st
def rk_mo (cf cp : Nat → Int32) (k : Nat) (T : Int32) : Int32 := if 300 ≤ dk_gives cf cp k T then 300 else dk_gives cf cp k T
def rk_fb (d z : Nat) (fs : Nat → Int64) (frN leN prN : Nat → Nat) (mo en : Int32) (st : rk_SS) : rk_SS := dk_loop (rk_rd d z fs frN leN prN mo en) (z ^ d) 0 (st.1, st.2.1, 0, st.2.2.2)
/-- least: choice, pressures, the least so far -/
abbrev rk_LS : Type := (Nat → Int32) × (Nat → Int64) × Int64
def rk_lr1 (p : Int32) (ch : Nat → Int32) (la : Nat → Int64) (v c m : Int64) : rk_LS := if v < 0 then (ch, la, m) else if p.toInt64 < v then (ch, la, m) else if m < 0 then (ch, la, c) else if m ≤ c then (ch, la, m) else (ch, la, c)
def rk_lr (d z : Nat) (fs : Nat → Int64) (frN leN prN : Nat → Nat) (p : Int32) (w : Nat) (st : rk_LS) : rk_LS :=
  rk_lr1 p (rk_dg z d st.1 w) (rk_lk fs (rk_cN z d w) frN d 1 st.2.1 0).1 (rk_lk fs (rk_cN z d w) frN d 1 st.2.1 0).2 (lN (rk_pr leN prN (rk_cN z d w) d 1 0)) st.2.2
/-- worst: n nodes are left, the next is i -/
def rk_wst (ba : Nat → Int64) (bp : Int64) : Nat → Nat → Nat
  | 0, _ => 0
  | n + 1, i => if bp ≤ 0 then 0 else if ba i = bp then i else rk_wst ba bp n (i + 1)
theorem rk_bl0 {fr : Nat → Nat} {v t k : Nat} (e : rk_cl fr t v v = k) (hk : k < 2 ^ 31) (ht : t < 2 ^ 31) (h : ¬ nI k = nI t) : (0 : Int32) = rk_bl fr v t := by
  unfold rk_bl
  rw [e, if_neg (fun q => h (by rw [q]))]
theorem rk_bl1 {fr : Nat → Nat} {v t k : Nat} (e : rk_cl fr t v v = k) (hk : k < 2 ^ 31) (ht : t < 2 ^ 31) (h : nI k = nI t) : (1 : Int32) = rk_bl fr v t := by
  unfold rk_bl
  rw [e, if_pos ((nI_eq hk ht).mp h)]
theorem rk_isIn_nat {x : Int32} {lo : Int64} {l d : Nat} (h : ¬ rk_isIn x.toInt64 lo (nI d).toInt64 = 0) (e : lo = lN l) (hl : l < 2 ^ 31) (hd : d < 2 ^ 31) : ∃ j, l ≤ j ∧ j ≤ d ∧ x = nI j := by
  unfold rk_isIn at h
  subst e
  by_cases q1 : x.toInt64 < lN l
  · rw [if_pos q1] at h
    exact absurd rfl h
  · rw [if_neg q1] at h
    by_cases q2 : (nI d).toInt64 < x.toInt64
    · rw [if_pos q2] at h
      exact absurd rfl h
    · rw [Int64.lt_iff_toInt_lt, Int32.toInt_toInt64, lN_toInt hl] at q1
      rw [Int64.lt_iff_toInt_lt, Int32.toInt_toInt64, Int32.toInt_toInt64, nI_toInt hd] at q2
      obtain ⟨j, hj, rfl⟩ := nI_of (x := x) (fun q => by
        rw [Int32.lt_iff_toInt_lt] at q
        have : (0 : Int32).toInt = 0 := rfl
        omega)
      rw [nI_toInt hj] at q1 q2
      exact ⟨j, by omega, by omega, rfl⟩
theorem rk_isIn_nat1 {x : Int32} {z : Nat} (h : ¬ rk_isIn x.toInt64 0 (nI z - 1).toInt64 = 0) (hz : z ≤ 4) : ∃ j, j < z ∧ x = nI j := by
  cases z with
  | zero =>
    refine absurd ?_ h
    unfold rk_isIn
    by_cases q1 : x.toInt64 < 0
    · rw [if_pos q1]
    · rw [if_neg q1, if_pos (Int64.lt_of_lt_of_le (by decide) (Int64.not_lt.mp q1))]
  | succ z =>
    rw [nI_pred] at h
    obtain ⟨j, -, h2, h3⟩ := rk_isIn_nat (l := 0) h rfl (by decide) (by omega)
    exact ⟨j, by omega, h3⟩
end RkMirror
def dk_R (cI cII : ClassId) (a : Nat → Nat) (cd : Int32) (du : Int32) (fr : Nat → Int32) (le : Nat → Int32) (fi : Nat → Int32) (ne : Nat → Int32) (sz : Int32) (ar : Nat → Int32) (pr : Nat → Int32) (sp : Int32) (ep : Int32) (pt : Int32) (cf : Nat → Int32) (cp : Nat → Int32) (ch : Nat → Int32) (la : Nat → Int64) (fd : Int32) (bc : Int64) (bp : Int64) (bh : Nat → Int32) (ba : Nat → Int64) (fs : Nat → Int64) : va_W :=
  [(a 0, .inr (4, [.int cd, .int du, .ref (a 1), .ref (a 2), .ref (a 3), .ref (a 4), .int sz, .ref (a 5), .ref (a 6), .int sp, .int ep, .int pt, .ref (a 7), .ref (a 8), .ref (a 9), .ref (a 10), .int fd, .long bc, .long bp, .ref (a 11), .ref (a 12), .ref (a 13)])),
   (a 1, .inl (cI, 7, .inl fr)),
   (a 2, .inl (cI, 7, .inl le)),
   (a 3, .inl (cI, 7, .inl fi)),
   (a 4, .inl (cI, 7, .inl ne)),
   (a 5, .inl (cI, 4, .inl ar)),
   (a 6, .inl (cI, 4, .inl pr)),
   (a 7, .inl (cI, 5, .inl cf)),
   (a 8, .inl (cI, 5, .inl cp)),
   (a 9, .inl (cI, 7, .inl ch)),
   (a 10, .inl (cII, 7, .inr (.inl la))),
   (a 11, .inl (cI, 7, .inl bh)),
   (a 12, .inl (cII, 7, .inr (.inl ba))),
   (a 13, .inl (cII, 28, .inr (.inl fs)))]
