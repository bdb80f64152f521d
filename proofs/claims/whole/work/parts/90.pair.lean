/-! PAIR: both sides answer alike; what holds between two calls of the law's loop -/
section DkPair
-- what a call that isn't refused has been given
theorem dk_in0 {a lo' hi' : Int32} {lo hi : Nat} (h : ¬ (a < lo' ∨ hi' < a)) (e1 : lo' = nI lo) (e2 : hi' = nI hi) (h1 : lo < 2 ^ 31) (h2 : hi < 2 ^ 31) : ∃ j, lo ≤ j ∧ j ≤ hi ∧ a = nI j := by
  subst e2
  exact dk_of h e1 h2 h1
theorem dk_kDuct0 {d : Nat} {a b c : Int32} (hd : d ≤ 6) (h : dk_kDuct d a b c = 0) : ∃ f L t, d < 6 ∧ f ≤ d ∧ L ≤ 100 ∧ t ≤ 50 ∧ a = nI f ∧ b = nI L ∧ c = nI t := by
  unfold dk_kDuct at h
  by_cases q1 : a < 0 ∨ nI d < a
  · rw [if_pos q1] at h
    exact absurd h (by decide)
  · rw [if_neg q1] at h
    by_cases q2 : b < 1 ∨ 100 < b
    · rw [if_pos q2] at h
      exact absurd h (by decide)
    · rw [if_neg q2] at h
      by_cases q3 : c < 0 ∨ 50 < c
      · rw [if_pos q3] at h
        exact absurd h (by decide)
      · rw [if_neg q3] at h
        by_cases q4 : nI d < 6
        · obtain ⟨f, -, hf, ef⟩ := dk_in0 (lo := 0) (hi := d) q1 rfl rfl (by decide) (by omega)
          obtain ⟨L, -, hL, eL⟩ := dk_in0 (lo := 1) (hi := 100) q2 rfl rfl (by decide) (by decide)
          obtain ⟨t, -, ht, et⟩ := dk_in0 (lo := 0) (hi := 50) q3 rfl rfl (by decide) (by decide)
          exact ⟨f, L, t, (nI_ltI (by omega) (by decide)).mp (show nI d < nI 6 from q4), hf, hL, ht, ef, eL, et⟩
        · rw [if_neg q4] at h
          exact absurd h (by decide)
theorem dk_kNeed0 {d : Nat} {a b : Int32} (hd : d ≤ 6) (h : dk_kNeed d a b = 0) : ∃ j v, 1 ≤ j ∧ j ≤ d ∧ v ≤ 1000 ∧ a = nI j ∧ b = nI v := by
  unfold dk_kNeed at h
  by_cases q1 : a < 1 ∨ nI d < a
  · rw [if_pos q1] at h
    exact absurd h (by decide)
  · rw [if_neg q1] at h
    by_cases q2 : b < 0 ∨ 1000 < b
    · rw [if_pos q2] at h
      exact absurd h (by decide)
    · obtain ⟨j, h1, h2, e1⟩ := dk_in0 (lo := 1) (hi := d) q1 rfl rfl (by decide) (by omega)
      obtain ⟨v, -, h3, e2⟩ := dk_in0 (lo := 0) (hi := 1000) q2 rfl rfl (by decide) (by decide)
      exact ⟨j, v, h1, h2, h3, e1, e2⟩
theorem dk_kSize0 {z : Nat} {a b : Int32} (hz : z ≤ 4) (h : dk_kSize z a b = 0) : ∃ Ar Pr, z < 4 ∧ 0 < Ar ∧ Ar ≤ 1000 ∧ Pr ≤ 1000 ∧ a = nI Ar ∧ b = nI Pr := by
  unfold dk_kSize at h
  by_cases q1 : a < 1 ∨ 1000 < a
  · rw [if_pos q1] at h
    exact absurd h (by decide)
  · rw [if_neg q1] at h
    by_cases q2 : b < 1 ∨ 1000 < b
    · rw [if_pos q2] at h
      exact absurd h (by decide)
    · rw [if_neg q2] at h
      by_cases q4 : nI z < 4
      · obtain ⟨j, h1, h2, e1⟩ := dk_in0 (lo := 1) (hi := 1000) q1 rfl rfl (by decide) (by decide)
        obtain ⟨v, -, h3, e2⟩ := dk_in0 (lo := 1) (hi := 1000) q2 rfl rfl (by decide) (by decide)
        exact ⟨j, v, (nI_ltI (by omega) (by decide)).mp (show nI z < nI 4 from q4), h1, h2, h3, e1, e2⟩
      · rw [if_neg q4] at h
        exact absurd h (by decide)
theorem dk_kSet0 {a b : Int32} (h : dk_kSet a b = 0) : (∃ s, s ≤ 100000 ∧ a = 0 ∧ b = nI s) ∨ (∃ s, s ≤ 1000 ∧ a = 1 ∧ b = nI s) := by
  unfold dk_kSet dk_kSpeed dk_kEnergy at h
  by_cases q1 : a < 0 ∨ 1 < a
  · rw [if_pos q1] at h
    exact absurd h (by decide)
  · rw [if_neg q1] at h
    by_cases q2 : a = 0
    · rw [if_pos q2] at h
      by_cases q3 : b < 1 ∨ 100000 < b
      · rw [if_pos q3] at h
        exact absurd h (by decide)
      · obtain ⟨s, -, h3, e2⟩ := dk_in0 (lo := 1) (hi := 100000) q3 rfl rfl (by decide) (by decide)
        exact Or.inl ⟨s, h3, q2, e2⟩
    · rw [if_neg q2] at h
      by_cases q3 : b < 0 ∨ 1000 < b
      · rw [if_pos q3] at h
        exact absurd h (by decide)
      · obtain ⟨s, -, h3, e2⟩ := dk_in0 (lo := 0) (hi := 1000) q3 rfl rfl (by decide) (by decide)
        exact Or.inr ⟨s, h3, Decidable.byContradiction (fun q => q1 (rk_01 q2 q)), e2⟩
theorem dk_kFan0 {cf cp : Nat → Int32} {k : Nat} {a b : Int32} (h : dk_kFan cf cp k a b = 0) : ∃ f q, f ≤ 10000 ∧ q ≤ 300 ∧ a = nI f ∧ b = nI q ∧ ¬ dk_takes cf cp k a b = 0 := by
  unfold dk_kFan at h
  by_cases q1 : a < 0 ∨ 10000 < a
  · rw [if_pos q1] at h
    exact absurd h (by decide)
  · rw [if_neg q1] at h
    by_cases q2 : b < 0 ∨ 300 < b
    · rw [if_pos q2] at h
      exact absurd h (by decide)
    · rw [if_neg q2] at h
      by_cases q3 : dk_takes cf cp k a b = 0
      · rw [if_pos q3] at h
        exact absurd h (by decide)
      · obtain ⟨f, -, h1, e1⟩ := dk_in0 (lo := 0) (hi := 10000) q1 rfl rfl (by decide) (by decide)
        obtain ⟨q, -, h2, e2⟩ := dk_in0 (lo := 0) (hi := 300) q2 rfl rfl (by decide) (by decide)
        exact ⟨f, q, h1, h2, e1, e2, q3⟩
theorem dk_kIn0 {lo' a : Int32} {lo d : Nat} (e : lo' = nI lo) (hlo : lo < 2 ^ 31) (hd : d ≤ 6) (h : dk_kIn lo' d a = 0) : ∃ j, lo ≤ j ∧ j ≤ d ∧ a = nI j := by
  unfold dk_kIn at h
  by_cases q1 : a < lo' ∨ nI d < a
  · rw [if_pos q1] at h
    exact absurd h (by decide)
  · exact dk_in0 (lo := lo) (hi := d) q1 e rfl hlo (by omega)
theorem dk_kTold0 {d z : Nat} {a b c : Int32} (hd : d ≤ 6) (hz : z ≤ 4) (h : dk_kTold d z a b c = 0) : ∃ j g, 1 ≤ j ∧ j ≤ d ∧ g < z ∧ a = nI j ∧ b = nI g := by
  unfold dk_kTold at h
  by_cases q1 : a < 1 ∨ nI d < a
  · rw [if_pos q1] at h
    exact absurd h (by decide)
  · rw [if_neg q1] at h
    by_cases q2 : b < 0 ∨ nI z - 1 < b
    · rw [if_pos q2] at h
      exact absurd h (by decide)
    · obtain ⟨j, h1, h2, e1⟩ := dk_in0 (lo := 1) (hi := d) q1 rfl rfl (by decide) (by omega)
      obtain ⟨g, h3, e2⟩ := dk_of1 q2 (by omega)
      exact ⟨j, g, h1, h2, h3, e1, e2⟩
theorem dk_kLeast0 {a : Int32} (h : dk_kLeast a = 0) : ∃ q, q ≤ 300 ∧ a = nI q := by
  unfold dk_kLeast at h
  by_cases q1 : a < 0 ∨ 300 < a
  · rw [if_pos q1] at h
    exact absurd h (by decide)
  · obtain ⟨q, -, h2, e1⟩ := dk_in0 (lo := 0) (hi := 300) q1 rfl rfl (by decide) (by decide)
    exact ⟨q, h2, e1⟩
-- the answers about the best choice, out of one and the same best
theorem dk_ansBest {d : Nat} {S : dk_SS} {R : rk_SS} {b : dk_Bt} (h1 : dk_BR d S b) (h2 : rk_BR d R b) (x : Int32) : (if S.2.2.2.2.1 = 0 then (-1) else if x = 0 then S.2.2.2.2.2.1 else S.2.2.2.2.2.2) = (if R.2.2.1 = 0 then (-1) else (if x = 0 then R.2.2.2.1 else R.2.2.2.2.1).toInt32) := by
  cases b with
  | none => rw [if_pos (show S.2.2.2.2.1 = 0 from h1), if_pos (show R.2.2.1 = 0 from h2)]
  | some y =>
    obtain ⟨a1, a2, a3, -⟩ := h1
    obtain ⟨b1, b2, b3, -⟩ := h2
    rw [if_neg (show ¬ S.2.2.2.2.1 = 0 by rw [a1]; decide), if_neg (show ¬ R.2.2.1 = 0 by rw [b1]; decide), a2, a3, b2, b3]
    by_cases q : x = 0
    · rw [if_pos q, if_pos q, lN_i]
    · rw [if_neg q, if_neg q, lN_i]
theorem dk_ansChosen {d j : Nat} {S : dk_SS} {R : rk_SS} {b : dk_Bt} (h1 : dk_BR d S b) (h2 : rk_BR d R b) (hj1 : 1 ≤ j) (hj : j ≤ d) : (if S.2.2.2.2.1 = 0 then (-1) else S.2.2.1 j) = (if R.2.2.1 = 0 then (-1) else R.2.2.2.2.2.1 j) := by
  cases b with
  | none => rw [if_pos (show S.2.2.2.2.1 = 0 from h1), if_pos (show R.2.2.1 = 0 from h2)]
  | some y =>
    obtain ⟨a1, -, -, a4, -⟩ := h1
    obtain ⟨b1, -, -, b4, -⟩ := h2
    rw [if_neg (show ¬ S.2.2.2.2.1 = 0 by rw [a1]; decide), if_neg (show ¬ R.2.2.1 = 0 by rw [b1]; decide), (a4 j hj1 hj).1, (b4 j hj1 hj).1]
theorem dk_ansPressure {d j : Nat} {S : dk_SS} {R : rk_SS} {b : dk_Bt} (h1 : dk_BR d S b) (h2 : rk_BR d R b) (h0 : S.2.2.2.1 0 = 0) (hj : j ≤ d) (hd : d ≤ 6) : (if S.2.2.2.2.1 = 0 then (-1) else S.2.2.2.1 j) = (if R.2.2.1 = 0 then (-1) else if nI j = 0 then 0 else (R.2.2.2.2.2.2 j).toInt32) := by
  cases b with
  | none => rw [if_pos (show S.2.2.2.2.1 = 0 from h1), if_pos (show R.2.2.1 = 0 from h2)]
  | some y =>
    obtain ⟨a1, -, -, a4, -⟩ := h1
    obtain ⟨b1, -, -, b4, -⟩ := h2
    rw [if_neg (show ¬ S.2.2.2.2.1 = 0 by rw [a1]; decide), if_neg (show ¬ R.2.2.1 = 0 by rw [b1]; decide)]
    by_cases q : j = 0
    · rw [q, h0, if_pos (show nI 0 = 0 from rfl)]
    · rw [if_neg (nI_ne0 (by omega) (by omega)), (a4 j (by omega) hj).2, (b4 j (by omega) hj).2.1, lN_i]
theorem dk_ansDamper {d j : Nat} {S : dk_SS} {R : rk_SS} {b : dk_Bt} (h1 : dk_BR d S b) (h2 : rk_BR d R b) (hj1 : 1 ≤ j) (hj : j ≤ d) {x y : Int32} (e : x = y) : (if S.2.2.2.2.1 = 0 then (-1) else if x = 0 then 0 else S.2.2.2.2.2.2 - S.2.2.2.1 j) = (if R.2.2.1 = 0 then (-1) else if y = 0 then 0 else (R.2.2.2.2.1 - R.2.2.2.2.2.2 j).toInt32) := by
  subst e
  cases b with
  | none => rw [if_pos (show S.2.2.2.2.1 = 0 from h1), if_pos (show R.2.2.1 = 0 from h2)]
  | some y =>
    obtain ⟨a1, -, a3, a4, -⟩ := h1
    obtain ⟨b1, -, b3, b4, -⟩ := h2
    obtain ⟨-, c2, c3⟩ := b4 j hj1 hj
    rw [if_neg (show ¬ S.2.2.2.2.1 = 0 by rw [a1]; decide), if_neg (show ¬ R.2.2.1 = 0 by rw [b1]; decide), a3, (a4 j hj1 hj).2, b3, c2, lN_sub c3, lN_i, pk_sub c3]
theorem dk_ansWorst {d : Nat} {S : dk_SS} {R : rk_SS} {b : dk_Bt} (h1 : dk_BR d S b) (h2 : rk_BR d R b) (h0 : S.2.2.2.1 0 = 0) : (if S.2.2.2.2.1 = 0 then (-1) else nI (dk_first S.2.2.2.1 d 1 0)) = (if R.2.2.1 = 0 then (-1) else nI (rk_wst R.2.2.2.2.2.2 R.2.2.2.2.1 d 1)) := by
  cases b with
  | none => rw [if_pos (show S.2.2.2.2.1 = 0 from h1), if_pos (show R.2.2.1 = 0 from h2)]
  | some y =>
    obtain ⟨a1, -, -, a4, -, -⟩ := h1
    obtain ⟨b1, -, b3, b4, b5, -, b7⟩ := h2
    rw [if_neg (show ¬ S.2.2.2.2.1 = 0 by rw [a1]; decide), if_neg (show ¬ R.2.2.1 = 0 by rw [b1]; decide), b3]
    congr 1
    by_cases q : y.2.1 = 0
    · rw [q]
      refine (rk_first_stay (tp := y.2.2.2) (g := 0) (by omega) d 1 0 (fun a h3 h4 => ⟨(a4 a h3 (by omega)).2, ?_⟩) h0).trans (rk_wst_0 d 1).symm
      have := (b4 a h3 (by omega)).2.2
      omega
    · refine rk_first_wst (tp := y.2.2.2) b7 (by omega) d 1 0 0 (fun a h3 h4 => ⟨(a4 a h3 (by omega)).2, (b4 a h3 (by omega)).2.1, (b4 a h3 (by omega)).2.2⟩) h0 (by omega) ?_
      rcases b5 with e | ⟨a, c1, c2, c3⟩
      · exact absurd e q
      · exact ⟨a, c1, by omega, c3⟩
theorem dk_ansLeast {d : Nat} {S : dk_SS} {R : rk_LS} {b : dk_Bt} (h1 : dk_BR d S b) (h2 : rk_LR R b) : (if S.2.2.2.2.1 = 0 then (-1) else S.2.2.2.2.2.1) = R.2.2.toInt32 := by
  cases b with
  | none =>
    rw [if_pos (show S.2.2.2.2.1 = 0 from h1), show R.2.2 = -1 from h2]
    rfl
  | some y =>
    obtain ⟨a1, a2, -⟩ := h1
    rw [if_neg (by rw [a1]; decide), a2, h2.1, lN_i]
section V
variable {d z k : Nat} {fr le fi ne fl ar pr cf cp : Nat → Int32} {sp ep ol : Int32} {sB sH : dk_SS} {frN leN fiN neN arN prN cfN cpN : Nat → Nat} {spN epN : Nat} {neR : Nat → Int32}
theorem dk_Inv.ok (h : dk_Inv d z k fr le fi ne fl ar pr cf cp sp ep ol sB sH frN leN fiN neN arN prN cfN cpN spN epN) (hn : ∀ i, 1 ≤ i → i ≤ d → neR i = nI (neN i)) : rk_Ok d z fr le fi neR ar pr frN leN fiN neN arN prN := by
  obtain ⟨⟨⟨h1, h2, h3, -, h5, -, -⟩, i1, -⟩, -⟩ := h
  refine ⟨h1, h2, fun i a b => ?_, fun j hj => ?_⟩
  · obtain ⟨c1, c2, c3, c4, c5, c6⟩ := h3 i a b
    exact ⟨⟨c1, c2⟩, ⟨c3, c4⟩, ⟨c5, c6⟩, hn i a b, (i1 i (by omega)).2⟩
  · obtain ⟨c1, c2, c3, c4, c5⟩ := h5 j hj
    exact ⟨⟨c1, c2, c3⟩, c4, c5⟩
theorem dk_Inv.fr0 (h : dk_Inv d z k fr le fi ne fl ar pr cf cp sp ep ol sB sH frN leN fiN neN arN prN cfN cpN spN epN) : (∀ v, 1 ≤ v → v ≤ d → frN v < v) ∧ neN 0 = 0 := ⟨fun v a b => (h.1.1.2.2.1 v a b).2.1, h.1.2.2.1⟩
theorem dk_Inv.tot (h : dk_Inv d z k fr le fi ne fl ar pr cf cp sp ep ol sB sH frN leN fiN neN arN prN cfN cpN spN epN) : fl 0 = nI (rk_tot neN d 1 0) := by
  rw [(h.fl0 0 (Nat.zero_le _)).1, rk_tot_eq h.fr0.1 h.fr0.2]
theorem dk_Inv.mo (h : dk_Inv d z k fr le fi ne fl ar pr cf cp sp ep ol sB sH frN leN fiN neN arN prN cfN cpN spN epN) : rk_mo cf cp k (nI (rk_tot neN d 1 0)) = nI (dk_gvN cfN cpN k (dk_fl frN neN d 0)) := by
  obtain ⟨g1, g2⟩ := h.gives
  rw [← h.tot]
  unfold rk_mo
  rw [g1]
  by_cases q : dk_gvN cfN cpN k (dk_fl frN neN d 0) = 300
  · rw [q, if_pos (show (300 : Int32) ≤ nI 300 by decide)]
    rfl
  · rw [if_neg (show ¬ (300 : Int32) ≤ nI (dk_gvN cfN cpN k (dk_fl frN neN d 0)) from fun e => q (Nat.le_antisymm g2 ((nI_leI (a := 300) (by decide) (by omega)).mp e)))]
theorem dk_Inv.sn (h : dk_Inv d z k fr le fi ne fl ar pr cf cp sp ep ol sB sH frN leN fiN neN arN prN cfN cpN spN epN) (hn : ∀ i, 1 ≤ i → i ≤ d → neR i = nI (neN i)) (fs : Nat → Int64) : rk_Sn d z (rk_nr (rk_fa frN leN fiN neN arN spN d) z d 1 fs) (dk_okN (dk_fl frN neN d) arN spN) (dk_fN leN fiN (dk_fl frN neN d) arN) frN leN prN := by
  have hO := h.ok hn
  exact ⟨hO.1, hO.2.1, rk_Fs_of hO h.fr0.2 h.1.1.2.2.2.2.2.2 fs, fun i a b => ⟨(hO.fr a b).2, (hO.le a b).2⟩, fun j hj => (hO.pr hj).2⟩
/-- findBest of the other side -/
theorem dk_Inv.other (h : dk_Inv d z k fr le fi ne fl ar pr cf cp sp (nI epN) ol sB sH frN leN fiN neN arN prN cfN cpN spN epN) (hn : ∀ i, 1 ≤ i → i ≤ d → neR i = nI (neN i)) (fs : Nat → Int64) {st : rk_SS} (h0 : st.2.1 0 = 0) :
    rk_BR d (rk_fb d z (rk_nr (rk_fa frN leN fiN neN arN spN d) z d 1 fs) frN leN prN (rk_mo cf cp k (nI (rk_tot neN d 1 0))) (nI epN) st) (dk_best d z k frN leN fiN neN arN prN cfN cpN spN epN) ∧ (rk_fb d z (rk_nr (rk_fa frN leN fiN neN arN spN d) z d 1 fs) frN leN prN (rk_mo cf cp k (nI (rk_tot neN d 1 0))) (nI epN) st).2.1 0 = 0 := by
  rw [h.mo]
  exact rk_fb_num (h.sn hn fs) h.gives.2 h.2.2.2.1 h0
theorem dk_Inv.otherLeast (h : dk_Inv d z k fr le fi ne fl ar pr cf cp sp ep ol sB sH frN leN fiN neN arN prN cfN cpN spN epN) (hn : ∀ i, 1 ≤ i → i ≤ d → neR i = nI (neN i)) (fs : Nat → Int64) {q : Nat} (hq : q ≤ 300) {ch : Nat → Int32} {la : Nat → Int64} (h0 : la 0 = 0) :
    rk_LR (dk_loop (rk_lr d z (rk_nr (rk_fa frN leN fiN neN arN spN d) z d 1 fs) frN leN prN (nI q)) (z ^ d) 0 (ch, la, (-1 : Int64))) (dk_bestN d z frN leN fiN (dk_fl frN neN d) arN prN spN q 0) ∧ (dk_loop (rk_lr d z (rk_nr (rk_fa frN leN fiN neN arN spN d) z d 1 fs) frN leN prN (nI q)) (z ^ d) 0 (ch, la, (-1 : Int64))).2.1 0 = 0 :=
  rk_least_num (h.sn hn fs) hq h0
theorem dk_Inv.ansFlow (h : dk_Inv d z k fr le fi ne fl ar pr cf cp sp ep ol sB sH frN leN fiN neN arN prN cfN cpN spN epN) {j : Nat} (hj : j ≤ d) : fl j = (lN (rk_flow frN neN d j)).toInt32 := by
  rw [(h.fl0 j hj).1, rk_flow_eq h.fr0.1 h.fr0.2, lN_i]
theorem dk_Inv.ansTold (h : dk_Inv d z k fr le fi ne fl ar pr cf cp sp ep ol sB sH frN leN fiN neN arN prN cfN cpN spN epN) {i j : Nat} (hi1 : 1 ≤ i) (hi : i ≤ d) (hj : j < z) (x : Int32) : (if x = 0 then dk_speed fl ar i j else dk_fall le fi fl ar i j) = (if x = 0 then lN (dk_spN (rk_flow frN neN d i) (arN j)) else lN (dk_faN (leN i) (fiN i) (rk_flow frN neN d i) (arN j))).toInt32 := by
  obtain ⟨e1, e2⟩ := h.told hi1 hi hj
  rw [rk_flow_eq h.fr0.1 h.fr0.2, e1, e2]
  split <;> rw [lN_i]
end V
theorem lw_neD {d : Nat} {neR : Nat → Int32} {neN : Nat → Nat} (h : ∀ i, 1 ≤ i → i ≤ d → neR i = nI (neN i)) (h0 : neN (d + 1) = 0) : ∀ i, 1 ≤ i → i ≤ d + 1 → upd neR (d + 1) 0 i = nI (neN i) := by
  intro i h1 h2
  by_cases e : i = d + 1
  · rw [e, pk_us, h0]
    rfl
  · rw [pk_un e]
    exact h i h1 (by omega)
theorem lw_neN {d j v : Nat} {neR : Nat → Int32} {neN : Nat → Nat} (h : ∀ i, 1 ≤ i → i ≤ d → neR i = nI (neN i)) : ∀ i, 1 ≤ i → i ≤ d → upd neR j (nI v) i = nI (dk_un neN j v i) := by
  intro i h1 h2
  unfold dk_un
  by_cases e : i = j
  · rw [e, pk_us, if_pos rfl]
  · rw [pk_un e, if_neg e]
    exact h i h1 h2
-- rows for the law's own walk
section L
variable {p : Program} {l : Launch} {e : Env} {R : Room} {s : State} {m : MethodId} {args : Array Value} {below : List Frame} {meth : Method} {c : Code} {H H0 : Heap} {locs : List Loc} {cells slots : Nat} {Q : State → Prop}
variable {D : va_G} {tys : List (ClassId × FieldType)} {ws wc : va_W} {A0 : Nat → Prop} {pc : Nat} {ls : Array Slot} {rest : List Value} {cc : ByteArray}
theorem dk_preL (hK : va_K D vwCl tys s) (hP : va_P D vwCl ws H) (hD : va_D A0 ws) (hE : dk_E A0 s) (hN : va_Nc dk_ISE dk_IAE s) (hS : va_S A0 s.heap H locs) (hA : ∀ q, s.heap.size ≤ q → A0 q) (isC : List Nat) (h2 : isC.map (fun i => ws[i]?) = wc.map some) (hn : va_nd isC = true) {av : List Value} :
    PreS s H (va_Pc av (fun U => dk_Pre D tys wc H.size U ∧ dk_E (va_A wc H.size) U ∧ va_Nc dk_ISE dk_IAE U)) av := by
  refine ⟨?_, fun U hU hW => ⟨rfl, ⟨by rw [hU], by rw [hU]; exact hP.sub isC (dk_fm h2), va_K.moved hW.alike hK, (hD.sub isC hn h2).weaken (fun _ _ _ _ => trivial)⟩, hE.call hS (va_free hD hS hA isC h2) U hU hW, va_Nc.moved hW.alike hN⟩⟩
  intro a U g mk q
  obtain ⟨q0, ⟨q1, qP, qK, qD⟩, qE, qN⟩ := q
  exact ⟨q0, ⟨q1, qP, va_K.moved (u := U) (U := U.calling g mk a) (Vm.Alike.refl U.vm) qK, qD⟩, qE.blind, va_Nc.moved (u := U) (U := U.calling g mk a) (Vm.Alike.refl U.vm) qN⟩
theorem dk_sld {b L j : Nat} {xs : Nat → Int32} {x v : Int32} (hx : p.tables.exec = Jvm.exec) (hb : c.code = cc) (hX : va_X b L xs s H0) (hbl : b < H0.size) (hbA : ¬ A0 b) (hS : va_S A0 H0 H locs) (hxi : x = nI j) (hj : j < L) (hL : L < 2 ^ 31) (hv : xs j = v) (hdg : decode cc pc = .ok (.iaload, 1))
    (kk : W p l e R s m args below meth c H locs cells slots Q (F0 m (pc + 1) ls (.int v :: rest))) : W p l e R s m args below meth c H locs cells slots Q (F0 m pc ls (.int x :: .ref b :: rest)) := by
  subst hxi
  refine va_sld hx hb hX hbl hbA hS (vp_in_nI hj hL) hdg ?_
  rw [nI_clamp (by omega), hv]
  exact kk
theorem dk_gW {own : String} {idx n : Nat} {y : MethodName} {c : ByteArray} {r : Option FieldType} {hh : List (Nat × Nat × Nat × Nat)} (h1 : Cond.methodLink own idx y ∈ dk_tbl) (h2 : Cond.static y ∈ dk_tbl) (h4 : Cond.initialized y.cls ∈ dk_tbl) (h5 : Cond.codeWith y c n r hh ∈ dk_tbl) : GoodIn dk_tbl (va_wsS own idx y (.codeWith y c n r hh :: dk_tbl)) := by
  intro w hw
  rcases List.mem_append.mp hw with h | h
  · simp only [List.mem_cons, List.not_mem_nil, or_false] at h
    rcases h with rfl | rfl | rfl
    · exact dk_gd h1
    · exact dk_gd h2
    · exact dk_gd h4
  · exact dk_gC h5 w h
end L
/-- the law's world -/
abbrev lw_W (cI cII cL : ClassId) (aX aN aC aB aH aR ao : Nat → Nat) (d z k : Nat) (fr le fi ne fl ar pr cf cp : Nat → Int32) (spN epN : Nat) (ol : Int32) (FB : Nat → Nat → Int32) (lB eB : Int32) (sB : dk_SS) (FH : Nat → Nat → Int32) (lH eH : Int32) (sH : dk_SS) (cd : Int32) (neR : Nat → Int32) (sR : rk_SS) (fs fo : Nat → Int64) : va_W :=
  dk_X cI cII aX (aN 0) (aC 0) (aB 0) (aH 0) (nI epN) ol ++ dk_N cI cII aN fr le fi ne fl (nI d) ar pr (nI z) (nI spN) ++ dk_C cI cII aC cf cp (nI k) ++ dk_SW cI cII aB (aN 0) FB lB eB sB ++ dk_SW cI cII aH (aN 0) FH lH eH sH ++ dk_R cI cL aR cd (nI d) fr le fi neR (nI z) ar pr (nI spN) (nI epN) (nI k) cf cp sR.1 sR.2.1 sR.2.2.1 sR.2.2.2.1 sR.2.2.2.2.1 sR.2.2.2.2.2.1 sR.2.2.2.2.2.2 fs ++ dk_O cL ao fo
/-- what holds between two calls -/
def lw_I (dC : Nat → ClassId) (dI : Nat → Nat → Nat) (cI cII cL : ClassId) (aX aN aC aB aH aR ao : Nat → Nat) (A : Nat → Prop) (H : Heap) : Prop :=
  ∃ (d z k : Nat) (fr le fi ne fl ar pr cf cp : Nat → Int32) (spN epN : Nat) (ol : Int32) (FB : Nat → Nat → Int32) (lB eB : Int32) (sB : dk_SS) (FH : Nat → Nat → Int32) (lH eH : Int32) (sH : dk_SS) (cd : Int32) (neR : Nat → Int32) (sR : rk_SS) (fs fo : Nat → Int64) (frN leN fiN neN arN prN cfN cpN : Nat → Nat),
    dk_Inv d z k fr le fi ne fl ar pr cf cp (nI spN) (nI epN) ol sB sH frN leN fiN neN arN prN cfN cpN spN epN ∧ (∀ i, 1 ≤ i → i ≤ d → neR i = nI (neN i)) ∧ sR.2.1 0 = 0 ∧
    va_P (dC, dI) vwCl (lw_W cI cII cL aX aN aC aB aH aR ao d z k fr le fi ne fl ar pr cf cp spN epN ol FB lB eB sB FH lH eH sH cd neR sR fs fo) H ∧ va_D A (lw_W cI cII cL aX aN aC aB aH aR ao d z k fr le fi ne fl ar pr cf cp spN epN ol FB lB eB sB FH lH eH sH cd neR sR fs fo)
end DkPair
