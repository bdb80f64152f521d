/-! FACE: what the public methods answer: 0 and a value, 1 an illegal argument, 2 an illegal state -/
section DkFace
def dk_px (K : Int32) (E : String) : Prop := (E = "java/lang/IllegalArgumentException" ∧ K = 1) ∨ (E = "java/lang/IllegalStateException" ∧ K = 2)
def dk_kDuct (d : Nat) (a b c : Int32) : Int32 := if a < 0 ∨ nI d < a then 1 else if b < 1 ∨ 100 < b then 1 else if c < 0 ∨ 50 < c then 1 else if nI d < 6 then 0 else 2
def dk_kNeed (d : Nat) (a b : Int32) : Int32 := if a < 1 ∨ nI d < a then 1 else if b < 0 ∨ 1000 < b then 1 else 0
def dk_kSize (z : Nat) (a b : Int32) : Int32 := if a < 1 ∨ 1000 < a then 1 else if b < 1 ∨ 1000 < b then 1 else if nI z < 4 then 0 else 2
def dk_kSpeed (a : Int32) : Int32 := if a < 1 ∨ 100000 < a then 1 else 0
def dk_kEnergy (a : Int32) : Int32 := if a < 0 ∨ 1000 < a then 1 else 0
def dk_kSet (a b : Int32) : Int32 := if a < 0 ∨ 1 < a then 1 else if a = 0 then dk_kSpeed b else dk_kEnergy b
def dk_kFan (cf cp : Nat → Int32) (k : Nat) (a b : Int32) : Int32 := if a < 0 ∨ 10000 < a then 1 else if b < 0 ∨ 300 < b then 1 else if dk_takes cf cp k a b = 0 then 2 else 0
def dk_kIn (lo : Int32) (d : Nat) (a : Int32) : Int32 := if a < lo ∨ nI d < a then 1 else 0
def dk_kTold (d z : Nat) (a b c : Int32) : Int32 := if a < 1 ∨ nI d < a then 1 else if b < 0 ∨ nI z - 1 < b then 1 else if c < 0 ∨ 1 < c then 1 else 0
def dk_kBest (a : Int32) : Int32 := if a < 0 ∨ 1 < a then 1 else 0
def dk_kLeast (a : Int32) : Int32 := if a < 0 ∨ 300 < a then 1 else 0
/-- the best choice's search behind bestChoice: its falls, its limit, its price of energy, its seven values -/
def dk_bF (ol : Int32) (d z : Nat) (le fi fl ar : Nat → Int32) (sp : Int32) (F : Nat → Nat → Int32) : Nat → Nat → Int32 := if ol = 0 then F else dk_nr le fi fl ar sp z d 1 F
def dk_bL (ol : Int32) (cf cp : Nat → Int32) (k : Nat) (fl : Nat → Int32) (li : Int32) : Int32 := if ol = 0 then li else dk_gives cf cp k (fl 0)
def dk_bE (ol ep en : Int32) : Int32 := if ol = 0 then en else ep
def dk_bS (ol : Int32) (d z : Nat) (fr le fi fl ar pr : Nat → Int32) (sp : Int32) (cf cp : Nat → Int32) (k : Nat) (ep : Int32) (F : Nat → Nat → Int32) (st : dk_SS) : dk_SS :=
  if ol = 0 then st else dk_place d z fr le pr (dk_nr le fi fl ar sp z d 1 F) (dk_gives cf cp k (fl 0)) ep d 1 0 0 (st.1, st.2.1, st.2.2.1, st.2.2.2.1, 0, st.2.2.2.2.2.1, st.2.2.2.2.2.2)
theorem dk_of1 {x : Int32} {z : Nat} (h : ¬ (x < 0 ∨ nI z - 1 < x)) (hz : z < 2 ^ 31) : ∃ j, j < z ∧ x = nI j := by
  have h1 : ¬ x < 0 := fun q => h (Or.inl q)
  cases z with
  | zero =>
    refine absurd ?_ (fun q => h (Or.inr q))
    have h3 : (0 : Int32) ≤ x := Int32.not_lt.mp h1
    exact Int32.lt_of_lt_of_le (by decide) h3
  | succ z =>
    obtain ⟨j, hj, rfl⟩ := nI_of h1
    refine ⟨j, ?_, rfl⟩
    rcases Nat.lt_or_ge z j with q | q
    · exact absurd (Or.inr (by rw [nI_pred]; exact nI_lt q hj)) h
    · omega
end DkFace
theorem dk_takesLt {cf cp : Nat → Int32} {k : Nat} {a b : Int32} (hk : k ≤ 5) (h : ¬ dk_takes cf cp k a b = 0) : k < 5 := by
  rcases Nat.lt_or_ge k 5 with q | q
  · exact q
  · have e : k = 5 := by omega
    subst e
    refine absurd ?_ h
    unfold dk_takes
    rw [if_neg (by decide)]
