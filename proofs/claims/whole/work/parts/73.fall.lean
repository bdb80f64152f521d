/-! FALL: speeds and falls by the numbers; what noteFalls comes to; what the fan gives -/
section DkFallN
def dk_spN (f a : Nat) : Nat := 100 * f / a
def dk_raw (L f a : Nat) : Nat := L * (1000 * f * f / (a * a)) / 100
def dk_faN (L t f a : Nat) : Nat := (if 1000000 < dk_raw L f a then 1000000 else dk_raw L f a) + t
theorem dk_speed_num {fl ar : Nat → Int32} {i j f a : Nat} (h1 : fl i = nI f) (h2 : ar j = nI a) (hf : f ≤ 6000) (ha0 : 0 < a) (ha : a ≤ 1000) : dk_speed fl ar i j = nI (dk_spN f a) := by
  unfold dk_speed dk_spN
  rw [h1, h2, show (100 : Int32) = nI 100 from rfl, pk_mul, pk_div (by omega) ha0 (by omega)]
theorem dk_fall_num {le fi fl ar : Nat → Int32} {i j L t f a : Nat} (h1 : fl i = nI f) (h2 : ar j = nI a) (h3 : le i = nI L) (h4 : fi i = nI t) (hf : f ≤ 6000) (ha0 : 0 < a) (ha : a ≤ 1000) (hL : L ≤ 100) : dk_fall le fi fl ar i j = nI (dk_faN L t f a) := by
  have hff : 1000 * f * f ≤ 1000 * 6000 * 6000 := Nat.mul_le_mul (Nat.mul_le_mul_left 1000 hf) hf
  have haa : a * a ≤ 1000 * 1000 := Nat.mul_le_mul ha ha
  have haa0 : 0 < a * a := Nat.mul_pos ha0 ha0
  have hq : 1000 * f * f / (a * a) ≤ 36000000000 := Nat.le_trans (Nat.div_le_self _ _) (Nat.le_trans hff (by decide))
  have hLq : L * (1000 * f * f / (a * a)) ≤ 100 * 36000000000 := Nat.mul_le_mul hL hq
  have e1 : dk_per fl ar i j = lN (1000 * f * f / (a * a)) := by
    unfold dk_per
    rw [h1, h2, nI_l (by omega), nI_l (by omega), show (1000 : Int64) = lN 1000 from rfl, lN_mul, lN_mul, lN_mul, pk_lDiv (by omega) haa0 (by omega)]
  have e2 : (le i).toInt64 * dk_per fl ar i j / 100 = lN (dk_raw L f a) := by
    unfold dk_raw
    rw [e1, h3, nI_l (by omega), lN_mul, show (100 : Int64) = lN 100 from rfl, pk_lDiv (by omega) (by decide) (by decide)]
  have hraw : dk_raw L f a ≤ 3600000000000 := by
    unfold dk_raw
    exact Nat.le_trans (Nat.div_le_self _ _) (Nat.le_trans hLq (by decide))
  unfold dk_fall dk_faN
  rw [e2, h4]
  have e3 : (1000000 : Int64) = lN 1000000 := rfl
  rw [e3]
  by_cases q : 1000000 < dk_raw L f a
  · rw [if_pos ((pk_lLT (by decide) (by omega)).mpr q), if_pos q, lN_i, nI_add]
  · rw [if_neg (fun e => q ((pk_lLT (by decide) (by omega)).mp e)), if_neg q, lN_i, nI_add]
theorem dk_faN_le {L t f a : Nat} (ht : t ≤ 50) : dk_faN L t f a ≤ 1000050 := by
  unfold dk_faN
  split <;> omega
theorem dk_spN_le {f a : Nat} (hf : f ≤ 6000) : dk_spN f a ≤ 600000 := by
  unfold dk_spN
  exact Nat.le_trans (Nat.div_le_self _ _) (by omega)
theorem dk_fallAt_num {le fi fl ar : Nat → Int32} {sp : Int32} {i j L t f a s : Nat} (h1 : fl i = nI f) (h2 : ar j = nI a) (h3 : le i = nI L) (h4 : fi i = nI t) (h5 : sp = nI s) (hf : f ≤ 6000) (ha0 : 0 < a) (ha : a ≤ 1000) (hL : L ≤ 100) (hs : s ≤ 100000) : dk_fallAt le fi fl ar sp i j = if s < dk_spN f a then (-1) else nI (dk_faN L t f a) := by
  have h6 := dk_spN_le (a := a) hf
  unfold dk_fallAt dk_allows
  rw [dk_speed_num h1 h2 hf ha0 ha, h5]
  by_cases q : s < dk_spN f a
  · rw [if_pos q, if_pos ((nI_ltI (by omega) (by omega)).mpr q), if_pos rfl]
  · rw [if_neg q, if_neg (fun e => q ((nI_ltI (by omega) (by omega)).mp e)), if_neg (by decide)]
    exact dk_fall_num h1 h2 h3 h4 hf ha0 ha hL
theorem dk_area64 {ar : Nat → Int32} {j a : Nat} (h2 : ar j = nI a) (ha0 : 0 < a) (ha : a ≤ 1000) : ¬ (ar j).toInt64 * (ar j).toInt64 = 0 := by
  have haa : a * a ≤ 1000 * 1000 := Nat.mul_le_mul ha ha
  have haa0 : 0 < a * a := Nat.mul_pos ha0 ha0
  rw [h2, nI_l (by omega), lN_mul]
  intro e
  have := (pk_lEQ (a := a * a) (b := 0) (by omega) (by decide)).mp e
  omega
theorem dk_nc_get {le fi fl ar : Nat → Int32} {sp : Int32} {i : Nat} : ∀ (n j : Nat) (F : Nat → Nat → Int32) (a b : Nat), dk_nc le fi fl ar sp i n j F a b = if a = i ∧ j ≤ b ∧ b < j + n then dk_fallAt le fi fl ar sp i b else F a b := by
  intro n
  induction n with
  | zero =>
    intro j F a b
    rw [if_neg (by omega)]
    rfl
  | succ n ih =>
    intro j F a b
    show dk_nc le fi fl ar sp i n (j + 1) (dk_updF F i j (dk_fallAt le fi fl ar sp i j)) a b = _
    rw [ih]
    by_cases q : a = i ∧ j + 1 ≤ b ∧ b < j + 1 + n
    · rw [if_pos q, if_pos (by omega)]
    · rw [if_neg q]
      unfold dk_updF
      by_cases q1 : a = i
      · subst q1
        rw [if_pos rfl]
        by_cases q2 : b = j
        · subst q2
          rw [pk_us, if_pos (by omega)]
        · rw [pk_un q2, if_neg (by omega)]
      · rw [if_neg q1, if_neg (by omega)]
theorem dk_nr_get {le fi fl ar : Nat → Int32} {sp : Int32} {z : Nat} : ∀ (n i : Nat) (F : Nat → Nat → Int32) (a b : Nat), dk_nr le fi fl ar sp z n i F a b = if i ≤ a ∧ a < i + n ∧ b < z then dk_fallAt le fi fl ar sp a b else F a b := by
  intro n
  induction n with
  | zero =>
    intro i F a b
    rw [if_neg (by omega)]
    rfl
  | succ n ih =>
    intro i F a b
    show dk_nr le fi fl ar sp z n (i + 1) (dk_nc le fi fl ar sp i z 0 F) a b = _
    rw [ih, dk_nc_get]
    by_cases q : i + 1 ≤ a ∧ a < i + 1 + n ∧ b < z
    · rw [if_pos q, if_pos (by omega)]
    · rw [if_neg q]
      by_cases q1 : a = i ∧ 0 ≤ b ∧ b < 0 + z
      · rw [if_pos q1, if_pos (by omega)]
        rw [q1.1]
      · rw [if_neg q1, if_neg (by omega)]
-- the fan
/-- between point i - 1 and point i -/
def dk_pbN (cf cp : Nat → Nat) (i f : Nat) : Nat := cp (i - 1) - ((cp (i - 1) - cp i) * (f - cf (i - 1)) + (cf i - cf (i - 1)) - 1) / (cf i - cf (i - 1))
def dk_atN (cf cp : Nat → Nat) (f : Nat) : Nat → Nat → Nat
  | 0, _ => 0
  | k + 1, i => if cf i < f then dk_atN cf cp f k (i + 1) else dk_pbN cf cp i f
def dk_gvN (cf cp : Nat → Nat) (k f : Nat) : Nat := if k = 0 then 300 else if cf 0 < f then dk_atN cf cp f (k - 1) 1 else cp 0
/-- the fan's points: flows rise, pressures don't -/
def dk_Cv (cfI cpI : Nat → Int32) (cf cp : Nat → Nat) (k : Nat) : Prop := k ≤ 5 ∧ (∀ i, i < k → cfI i = nI (cf i) ∧ cpI i = nI (cp i) ∧ cf i ≤ 10000 ∧ cp i ≤ 300) ∧ ∀ i, 0 < i → i < k → cf (i - 1) < cf i ∧ cp i ≤ cp (i - 1)
theorem dk_quot_le {x y s : Nat} (hs : 0 < s) (hy : y ≤ s) : (x * y + s - 1) / s ≤ x := by
  have h : x * y ≤ x * s := Nat.mul_le_mul_left x hy
  have h2 : x * y + s - 1 < (x + 1) * s := by
    rw [Nat.add_mul, Nat.one_mul]
    omega
  have := (Nat.div_lt_iff_lt_mul hs).mpr h2
  omega
theorem dk_pb_num {cfI cpI : Nat → Int32} {cf cp : Nat → Nat} {k i f : Nat} (hC : dk_Cv cfI cpI cf cp k) (hi : 0 < i) (hk : i < k) (h1 : cf (i - 1) < f) (h2 : f ≤ cf i) : dk_pb cfI cpI i (nI f) = nI (dk_pbN cf cp i f) ∧ dk_pbN cf cp i f ≤ 300 := by
  obtain ⟨-, hv, hr⟩ := hC
  obtain ⟨a1, a2, a3, a4⟩ := hv i hk
  obtain ⟨b1, b2, b3, b4⟩ := hv (i - 1) (by omega)
  obtain ⟨r1, r2⟩ := hr i hi hk
  have hm : (cp (i - 1) - cp i) * (f - cf (i - 1)) ≤ 300 * 10000 := Nat.mul_le_mul (by omega) (by omega)
  have hq : ((cp (i - 1) - cp i) * (f - cf (i - 1)) + (cf i - cf (i - 1)) - 1) / (cf i - cf (i - 1)) ≤ cp (i - 1) - cp i := dk_quot_le (by omega) (by omega)
  refine ⟨?_, ?_⟩
  · unfold dk_pb dk_pbN
    rw [a1, a2, b1, b2, pk_sub (by omega), pk_sub (by omega), pk_sub (by omega), pk_mul, nI_add, show (1 : Int32) = nI 1 from rfl, pk_sub (by omega), pk_div (by omega) (by omega) (by omega), pk_sub (by omega)]
  · unfold dk_pbN
    exact Nat.le_trans (Nat.sub_le _ _) b4
theorem dk_at_num {cfI cpI : Nat → Int32} {cf cp : Nat → Nat} {k f : Nat} (hC : dk_Cv cfI cpI cf cp k) (hf : f ≤ 6000) : ∀ (n i : Nat), 0 < i → i + n = k → cf (i - 1) < f → dk_at cfI cpI (nI f) n i = nI (dk_atN cf cp f n i) ∧ dk_atN cf cp f n i ≤ 300 := by
  intro n
  induction n with
  | zero => intro i _ _ _; exact ⟨rfl, Nat.zero_le _⟩
  | succ n ih =>
    intro i hi hk h1
    obtain ⟨a1, a2, a3, a4⟩ := hC.2.1 i (by omega)
    unfold dk_at dk_atN
    by_cases q : cf i < f
    · rw [if_pos q, if_pos (by rw [a1]; exact (nI_ltI (by omega) (by omega)).mpr q)]
      exact ih (i + 1) (by omega) (by omega) q
    · rw [if_neg q, if_neg (fun e => q (by rw [a1] at e; exact (nI_ltI (by omega) (by omega)).mp e))]
      exact dk_pb_num hC hi (by omega) h1 (by omega)
/-- what the fan gives, by the numbers -/
theorem dk_gives_num {cfI cpI : Nat → Int32} {cf cp : Nat → Nat} {k f : Nat} (hC : dk_Cv cfI cpI cf cp k) (hf : f ≤ 6000) : dk_gives cfI cpI k (nI f) = nI (dk_gvN cf cp k f) ∧ dk_gvN cf cp k f ≤ 300 := by
  have hk := hC.1
  unfold dk_gives dk_gvN
  by_cases q : k = 0
  · subst q
    rw [if_pos (show nI 0 = 0 from rfl), if_pos rfl]
    exact ⟨rfl, Nat.le_refl _⟩
  · rw [if_neg q, if_neg (show ¬ nI k = 0 from fun e => q ((nI_eq (b := 0) (by omega) (by decide)).mp e))]
    obtain ⟨a1, a2, a3, a4⟩ := hC.2.1 0 (by omega)
    by_cases q1 : cf 0 < f
    · rw [if_pos q1, if_pos (by rw [a1]; exact (nI_ltI (by omega) (by omega)).mpr q1)]
      exact dk_at_num hC hf (k - 1) 1 (by omega) (by omega) q1
    · rw [if_neg q1, if_neg (fun e => q1 (by rw [a1] at e; exact (nI_ltI (by omega) (by omega)).mp e))]
      exact ⟨a2, a4⟩
theorem dk_span_ne {cfI cpI : Nat → Int32} {cf cp : Nat → Nat} {k : Nat} (hC : dk_Cv cfI cpI cf cp k) : ∀ i, 0 < i → i < k → ¬ cfI i - cfI (i - 1) = 0 := by
  intro i hi hk
  obtain ⟨a1, a2, a3, a4⟩ := hC.2.1 i hk
  obtain ⟨b1, b2, b3, b4⟩ := hC.2.1 (i - 1) (by omega)
  obtain ⟨r1, r2⟩ := hC.2.2 i hi hk
  rw [a1, b1, pk_sub (by omega)]
  exact nI_ne0 (by omega) (by omega)
end DkFallN
