/-! CODE: both sides refuse the same calls -/
section RkCode
theorem rk_isIn_iff {x lo hi : Int32} {l h : Int64} (e1 : l = lo.toInt64) (e2 : h = hi.toInt64) : rk_isIn x.toInt64 l h = 0 ↔ (x < lo ∨ hi < x) := by
  subst e1
  subst e2
  unfold rk_isIn
  have a : x.toInt64 < lo.toInt64 ↔ x < lo := by rw [Int64.lt_iff_toInt_lt, Int32.lt_iff_toInt_lt, Int32.toInt_toInt64, Int32.toInt_toInt64]
  have b : hi.toInt64 < x.toInt64 ↔ hi < x := by rw [Int64.lt_iff_toInt_lt, Int32.lt_iff_toInt_lt, Int32.toInt_toInt64, Int32.toInt_toInt64]
  by_cases q : x < lo
  · rw [if_pos (a.mpr q)]
    exact ⟨fun _ => Or.inl q, fun _ => rfl⟩
  · rw [if_neg (fun e => q (a.mp e))]
    by_cases r : hi < x
    · rw [if_pos (b.mpr r)]
      exact ⟨fun _ => Or.inr r, fun _ => rfl⟩
    · rw [if_neg (fun e => r (b.mp e))]
      exact ⟨fun h => absurd h (by decide), fun h => h.elim (fun h => absurd h q) (fun h => absurd h r)⟩
theorem rk_full {d n : Nat} (hd : d ≤ n) (hn : n < 2 ^ 31) : (if nI d = nI n then (2 : Int32) else 0) = (if nI d < nI n then 0 else 2) := by
  by_cases q : d < n
  · rw [if_neg (fun e => by have := (nI_eq (by omega) hn).mp e; omega), if_pos (nI_lt q hn)]
  · rw [if_pos (by rw [show d = n by omega]), if_neg (fun e => q ((nI_ltI (by omega) hn).mp e))]
theorem rk_kDuct_eq {d : Nat} {a b c : Int32} (hd : d ≤ 6) : rk_kDuct d a b c = dk_kDuct d a b c := by
  unfold rk_kDuct dk_kDuct
  simp only [rk_isIn_iff (x := a) (lo := 0) (hi := nI d) (l := 0) (by decide) rfl, rk_isIn_iff (x := b) (lo := 1) (hi := 100) (l := 1) (h := 100) (by decide) (by decide), rk_isIn_iff (x := c) (lo := 0) (hi := 50) (l := 0) (h := 50) (by decide) (by decide)]
  rw [show (if nI d = 6 then (2 : Int32) else 0) = (if nI d < 6 then 0 else 2) from rk_full (n := 6) hd (by decide)]
theorem rk_kNeed_eq {d : Nat} {a b : Int32} : rk_kNeed d a b = dk_kNeed d a b := by
  unfold rk_kNeed dk_kNeed
  simp only [rk_isIn_iff (x := a) (lo := 1) (hi := nI d) (l := 1) (by decide) rfl, rk_isIn_iff (x := b) (lo := 0) (hi := 1000) (l := 0) (h := 1000) (by decide) (by decide)]
theorem rk_kSize_eq {z : Nat} {a b : Int32} (hz : z ≤ 4) : rk_kSize z a b = dk_kSize z a b := by
  unfold rk_kSize dk_kSize
  simp only [rk_isIn_iff (x := a) (lo := 1) (hi := 1000) (l := 1) (h := 1000) (by decide) (by decide), rk_isIn_iff (x := b) (lo := 1) (hi := 1000) (l := 1) (h := 1000) (by decide) (by decide)]
  rw [show (if nI z = 4 then (2 : Int32) else 0) = (if nI z < 4 then 0 else 2) from rk_full (n := 4) hz (by decide)]
theorem rk_01 {a : Int32} (h0 : ¬ a = 0) (h1 : ¬ a = 1) : a < 0 ∨ 1 < a := by
  rw [← Int32.toInt_inj] at h0 h1
  rw [Int32.lt_iff_toInt_lt, Int32.lt_iff_toInt_lt]
  have e0 : (0 : Int32).toInt = 0 := rfl
  have e1 : (1 : Int32).toInt = 1 := rfl
  omega
theorem rk_kSet_eq {a b : Int32} : rk_kSet a b = dk_kSet a b := by
  unfold rk_kSet rk_kSet1 dk_kSet dk_kSpeed dk_kEnergy
  simp only [rk_isIn_iff (x := b) (lo := 1) (hi := 100000) (l := 1) (h := 100000) (by decide) (by decide), rk_isIn_iff (x := b) (lo := 0) (hi := 1000) (l := 0) (h := 1000) (by decide) (by decide)]
  by_cases h0 : a = 0
  · subst h0
    rw [if_pos rfl, if_neg (show ¬ (0 : Int32) = 1 by decide), if_neg (show ¬ ((0 : Int32) < 0 ∨ (1 : Int32) < 0) by decide), if_pos rfl]
  · by_cases h1 : a = 1
    · subst h1
      rw [if_neg (show ¬ (1 : Int32) = 0 by decide), if_pos rfl, if_neg (show ¬ ((1 : Int32) < 0 ∨ (1 : Int32) < 1) by decide), if_neg (show ¬ (1 : Int32) = 0 by decide)]
    · rw [if_neg h0, if_neg h1, if_pos (rk_01 h0 h1)]
theorem rk_kFan_eq {cf cp : Nat → Int32} {k : Nat} {a b : Int32} (hk : k ≤ 5) : rk_kFan cf cp k a b = dk_kFan cf cp k a b := by
  unfold rk_kFan dk_kFan
  simp only [rk_isIn_iff (x := a) (lo := 0) (hi := 10000) (l := 0) (h := 10000) (by decide) (by decide), rk_isIn_iff (x := b) (lo := 0) (hi := 300) (l := 0) (h := 300) (by decide) (by decide)]
  have e : (if nI k = 5 then (2 : Int32) else if rk_late cf cp k a b = 0 then 0 else 2) = if dk_takes cf cp k a b = 0 then 2 else 0 := by
    unfold dk_takes rk_late
    rw [show (5 : Int32) = nI 5 from rfl, show (0 : Int32) = nI 0 from rfl]
    by_cases q1 : k < 5
    · rw [if_neg (fun e => by have := (nI_eq (by omega) (by decide)).mp e; omega), if_pos ((nI_ltI (by omega) (by decide)).mpr q1)]
      by_cases q2 : k = 0
      · rw [if_pos (show nI k ≤ nI 0 by rw [q2]; exact Int32.le_refl _), if_pos (show nI k = nI 0 by rw [q2]), if_pos rfl, if_neg (show ¬ (1 : Int32) = nI 0 by decide)]
      · rw [if_neg (fun e => q2 (Nat.le_zero.mp ((nI_leI (by omega) (by decide)).mp e))), if_neg (fun e => q2 ((nI_eq (by omega) (by decide)).mp e))]
        by_cases q3 : a ≤ cf (k - 1)
        · rw [if_pos q3, if_pos q3, if_neg (show ¬ (1 : Int32) = nI 0 by decide), if_pos rfl]
        · rw [if_neg q3, if_neg q3]
          by_cases q4 : b ≤ cp (k - 1)
          · rw [if_pos q4, if_neg (Int32.not_lt.mpr q4), if_pos rfl, if_neg (show ¬ (1 : Int32) = nI 0 by decide)]
          · rw [if_neg q4, if_pos (Int32.not_le.mp q4), if_neg (show ¬ (1 : Int32) = nI 0 by decide), if_pos rfl]
    · rw [if_pos (by rw [show k = 5 by omega]), if_neg (fun e => q1 ((nI_ltI (by omega) (by decide)).mp e)), if_pos rfl]
  rw [e]
theorem rk_kIn_eq {d : Nat} {a lo : Int32} {l : Int64} (e : l = lo.toInt64) : rk_kIn l d a = dk_kIn lo d a := by
  unfold rk_kIn dk_kIn
  simp only [rk_isIn_iff (x := a) (lo := lo) (hi := nI d) e rfl]
theorem rk_kTold_eq {d z : Nat} {a b c : Int32} : rk_kTold d z a b c = dk_kTold d z a b c := by
  unfold rk_kTold dk_kTold
  simp only [rk_isIn_iff (x := a) (lo := 1) (hi := nI d) (l := 1) (by decide) rfl, rk_isIn_iff (x := b) (lo := 0) (hi := nI z - 1) (l := 0) (by decide) rfl, rk_isIn_iff (x := c) (lo := 0) (hi := 1) (l := 0) (h := 1) (by decide) (by decide)]
theorem rk_kBest_eq {a : Int32} : rk_kBest a = dk_kBest a := by
  unfold rk_kBest dk_kBest
  simp only [rk_isIn_iff (x := a) (lo := 0) (hi := 1) (l := 0) (h := 1) (by decide) (by decide)]
theorem rk_kLeast_eq {a : Int32} : rk_kLeast a = dk_kLeast a := by
  unfold rk_kLeast dk_kLeast
  simp only [rk_isIn_iff (x := a) (lo := 0) (hi := 300) (l := 0) (h := 300) (by decide) (by decide)]
end RkCode
