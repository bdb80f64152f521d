/-! CLASS: the class's invariant, what it gives to the contracts, and the answers by the numbers -/
section DkClass
/-- the best choice, by the numbers -/
def dk_best (d z k : Nat) (frN leN fiN neN arN prN cfN cpN : Nat → Nat) (spN epN : Nat) : dk_Bt := dk_bestN d z frN leN fiN (dk_fl frN neN d) arN prN spN (dk_gvN cfN cpN k (dk_fl frN neN d 0)) epN
def dk_Inv (d z k : Nat) (fr le fi ne fl ar pr cf cp : Nat → Int32) (sp ep ol : Int32) (sB sH : dk_SS) (frN leN fiN neN arN prN cfN cpN : Nat → Nat) (spN epN : Nat) : Prop :=
  dk_Net d z fr le fi ne fl ar pr sp frN leN fiN neN arN prN spN ∧ dk_Cv cf cp cfN cpN k ∧ ep = nI epN ∧ epN ≤ 1000 ∧ (sB.2.1 0 = 0 ∧ sB.2.2.2.1 0 = 0) ∧ (sH.2.1 0 = 0 ∧ sH.2.2.2.1 0 = 0) ∧ (ol = 0 → dk_BR d sB (dk_best d z k frN leN fiN neN arN prN cfN cpN spN epN))
section V
variable {d z k : Nat} {fr le fi ne fl ar pr cf cp : Nat → Int32} {sp ep ol : Int32} {sB sH : dk_SS} {frN leN fiN neN arN prN cfN cpN : Nat → Nat} {spN epN : Nat}
theorem dk_Inv_0 : dk_Inv 0 0 0 (fun _ => 0) (fun _ => 0) (fun _ => 0) (fun _ => 0) (fun _ => 0) (fun _ => 0) (fun _ => 0) (fun _ => 0) (fun _ => 0) 100000 0 1 ((fun _ => 0), (fun _ => 0), (fun _ => 0), (fun _ => 0), 0, 0, 0) ((fun _ => 0), (fun _ => 0), (fun _ => 0), (fun _ => 0), 0, 0, 0) (fun _ => 0) (fun _ => 0) (fun _ => 0) (fun _ => 0) (fun _ => 0) (fun _ => 0) (fun _ => 0) (fun _ => 0) 100000 0 :=
  ⟨dk_Net_0, dk_Cv_0, rfl, Nat.zero_le _, ⟨rfl, rfl⟩, ⟨rfl, rfl⟩, fun h => absurd h (by decide)⟩
theorem dk_Inv.HA (h : dk_Inv d z k fr le fi ne fl ar pr cf cp sp ep ol sB sH frN leN fiN neN arN prN cfN cpN spN epN) : z ≤ 4 ∧ d ≤ 6 ∧ (∀ k, k < 7 → vp_in (fr k) 7) ∧ (∀ j, j < z → ¬ ar j = 0) ∧ (∀ j, j < z → ¬ (ar j).toInt64 * (ar j).toInt64 = 0) := by
  obtain ⟨⟨⟨h1, h2, -, -, h5, -, -⟩, -, -, -, i5, -⟩, -⟩ := h
  refine ⟨h2, h1, i5, fun j hj => ?_, fun j hj => ?_⟩
  · obtain ⟨e1, e2, e3, -⟩ := h5 j hj
    rw [e1]
    exact nI_ne0 e2 (by omega)
  · obtain ⟨e1, e2, e3, -⟩ := h5 j hj
    exact dk_area64 e1 e2 e3
theorem dk_Inv.CU (h : dk_Inv d z k fr le fi ne fl ar pr cf cp sp ep ol sB sH frN leN fiN neN arN prN cfN cpN spN epN) : k ≤ 5 ∧ ∀ i, 0 < i → i < k → ¬ cf i - cf (i - 1) = 0 := ⟨h.2.1.1, dk_span_ne h.2.1⟩
theorem dk_Inv.fl0 (h : dk_Inv d z k fr le fi ne fl ar pr cf cp sp ep ol sB sH frN leN fiN neN arN prN cfN cpN spN epN) : ∀ i, i ≤ d → fl i = nI (dk_fl frN neN d i) ∧ dk_fl frN neN d i ≤ 6000 := h.1.1.2.2.2.1
/-- gives() -/
theorem dk_Inv.gives (h : dk_Inv d z k fr le fi ne fl ar pr cf cp sp ep ol sB sH frN leN fiN neN arN prN cfN cpN spN epN) : dk_gives cf cp k (fl 0) = nI (dk_gvN cfN cpN k (dk_fl frN neN d 0)) ∧ dk_gvN cfN cpN k (dk_fl frN neN d 0) ≤ 300 := by
  obtain ⟨e1, e2⟩ := h.fl0 0 (Nat.zero_le _)
  rw [e1]
  exact dk_gives_num h.2.1 e2
/-- bestChoice() -/
theorem dk_Inv.choice (h : dk_Inv d z k fr le fi ne fl ar pr cf cp sp ep ol sB sH frN leN fiN neN arN prN cfN cpN spN epN) (F : Nat → Nat → Int32) : dk_BR d (dk_bS ol d z fr le fi fl ar pr sp cf cp k ep F sB) (dk_best d z k frN leN fiN neN arN prN cfN cpN spN epN) ∧ (dk_bS ol d z fr le fi fl ar pr sp cf cp k ep F sB).2.1 0 = 0 ∧ (dk_bS ol d z fr le fi fl ar pr sp cf cp k ep F sB).2.2.2.1 0 = 0 := by
  obtain ⟨g1, g2⟩ := h.gives
  obtain ⟨hN, hC, he, he3, ⟨b1, b2⟩, -, ho⟩ := h
  unfold dk_bS
  by_cases q : ol = 0
  · rw [if_pos q]
    exact ⟨ho q, b1, b2⟩
  · rw [if_neg q, g1, he]
    exact dk_run_num hN.1 F g2 he3 _ _ _ _ _ _ b1 b2
theorem dk_Inv.keepB (h : dk_Inv d z k fr le fi ne fl ar pr cf cp sp ep ol sB sH frN leN fiN neN arN prN cfN cpN spN epN) (F : Nat → Nat → Int32) : dk_Inv d z k fr le fi ne fl ar pr cf cp sp ep 0 (dk_bS ol d z fr le fi fl ar pr sp cf cp k ep F sB) sH frN leN fiN neN arN prN cfN cpN spN epN := by
  obtain ⟨r1, r2, r3⟩ := h.choice F
  exact ⟨h.1, h.2.1, h.2.2.1, h.2.2.2.1, ⟨r2, r3⟩, h.2.2.2.2.2.1, fun _ => r1⟩
/-- least(p) -/
theorem dk_Inv.least (h : dk_Inv d z k fr le fi ne fl ar pr cf cp sp ep ol sB sH frN leN fiN neN arN prN cfN cpN spN epN) (F : Nat → Nat → Int32) {q : Nat} (hq : q ≤ 300) :
    dk_BR d (dk_place d z fr le pr (dk_nr le fi fl ar sp z d 1 F) (nI q) 0 d 1 0 0 (sH.1, sH.2.1, sH.2.2.1, sH.2.2.2.1, 0, sH.2.2.2.2.2.1, sH.2.2.2.2.2.2)) (dk_bestN d z frN leN fiN (dk_fl frN neN d) arN prN spN q 0) ∧
    dk_Inv d z k fr le fi ne fl ar pr cf cp sp ep ol sB (dk_place d z fr le pr (dk_nr le fi fl ar sp z d 1 F) (nI q) 0 d 1 0 0 (sH.1, sH.2.1, sH.2.2.1, sH.2.2.2.1, 0, sH.2.2.2.2.2.1, sH.2.2.2.2.2.2)) frN leN fiN neN arN prN cfN cpN spN epN := by
  have r := dk_run_num h.1.1 F (li := q) (en := 0) hq (by decide) sH.1 sH.2.1 sH.2.2.1 sH.2.2.2.1 sH.2.2.2.2.2.1 sH.2.2.2.2.2.2 h.2.2.2.2.2.1.1 h.2.2.2.2.2.1.2
  exact ⟨r.1, h.1, h.2.1, h.2.2.1, h.2.2.2.1, h.2.2.2.2.1, ⟨r.2.1, r.2.2⟩, h.2.2.2.2.2.2⟩
-- changes
theorem dk_Inv.duct (h : dk_Inv d z k fr le fi ne fl ar pr cf cp sp ep ol sB sH frN leN fiN neN arN prN cfN cpN spN epN) (hd : d < 6) {f L t : Nat} (hf : f ≤ d) (hL : L ≤ 100) (ht : t ≤ 50) : dk_Inv (d + 1) z k (upd fr (d + 1) (nI f)) (upd le (d + 1) (nI L)) (upd fi (d + 1) (nI t)) ne fl ar pr cf cp sp ep 1 sB sH (dk_un frN (d + 1) f) (dk_un leN (d + 1) L) (dk_un fiN (d + 1) t) neN arN prN cfN cpN spN epN :=
  ⟨dk_Net_duct h.1 hd hf hL ht, h.2.1, h.2.2.1, h.2.2.2.1, h.2.2.2.2.1, h.2.2.2.2.2.1, fun q => absurd q (by decide)⟩
theorem dk_Inv.need (h : dk_Inv d z k fr le fi ne fl ar pr cf cp sp ep ol sB sH frN leN fiN neN arN prN cfN cpN spN epN) {j v : Nat} (hj1 : 1 ≤ j) (hj : j ≤ d) (hv : v ≤ 1000) : dk_Inv d z k fr le fi (upd ne j (nI v)) (dk_up fr d (dk_cpL (upd ne j (nI v)) (d + 1) 0 fl)) ar pr cf cp sp ep 1 sB sH frN leN fiN (dk_un neN j v) arN prN cfN cpN spN epN :=
  ⟨dk_Net_need h.1 hj1 hj hv, h.2.1, h.2.2.1, h.2.2.2.1, h.2.2.2.2.1, h.2.2.2.2.2.1, fun q => absurd q (by decide)⟩
theorem dk_Inv.size (h : dk_Inv d z k fr le fi ne fl ar pr cf cp sp ep ol sB sH frN leN fiN neN arN prN cfN cpN spN epN) (hz : z < 4) {A Pr : Nat} (hA0 : 0 < A) (hA : A ≤ 1000) (hP : Pr ≤ 1000) : dk_Inv d (z + 1) k fr le fi ne fl (upd ar z (nI A)) (upd pr z (nI Pr)) cf cp sp ep 1 sB sH frN leN fiN neN (dk_un arN z A) (dk_un prN z Pr) cfN cpN spN epN :=
  ⟨dk_Net_size h.1 hz hA0 hA hP, h.2.1, h.2.2.1, h.2.2.2.1, h.2.2.2.2.1, h.2.2.2.2.2.1, fun q => absurd q (by decide)⟩
theorem dk_Inv.speed (h : dk_Inv d z k fr le fi ne fl ar pr cf cp sp ep ol sB sH frN leN fiN neN arN prN cfN cpN spN epN) {s : Nat} (hs : s ≤ 100000) : dk_Inv d z k fr le fi ne fl ar pr cf cp (nI s) ep 1 sB sH frN leN fiN neN arN prN cfN cpN s epN :=
  ⟨dk_Net_speed h.1 hs, h.2.1, h.2.2.1, h.2.2.2.1, h.2.2.2.2.1, h.2.2.2.2.2.1, fun q => absurd q (by decide)⟩
theorem dk_Inv.energy (h : dk_Inv d z k fr le fi ne fl ar pr cf cp sp ep ol sB sH frN leN fiN neN arN prN cfN cpN spN epN) {s : Nat} (hs : s ≤ 1000) : dk_Inv d z k fr le fi ne fl ar pr cf cp sp (nI s) 1 sB sH frN leN fiN neN arN prN cfN cpN spN s :=
  ⟨h.1, h.2.1, rfl, hs, h.2.2.2.2.1, h.2.2.2.2.2.1, fun q => absurd q (by decide)⟩
theorem dk_Inv.fan (h : dk_Inv d z k fr le fi ne fl ar pr cf cp sp ep ol sB sH frN leN fiN neN arN prN cfN cpN spN epN) (hk : k < 5) {f q : Nat} (hf : f ≤ 10000) (hq : q ≤ 300) (hr : 0 < k → cfN (k - 1) < f ∧ q ≤ cpN (k - 1)) : dk_Inv d z (k + 1) fr le fi ne fl ar pr (upd cf k (nI f)) (upd cp k (nI q)) sp ep 1 sB sH frN leN fiN neN arN prN (dk_un cfN k f) (dk_un cpN k q) spN epN :=
  ⟨h.1, dk_Cv_add h.2.1 hk hf hq hr, h.2.2.1, h.2.2.2.1, h.2.2.2.2.1, h.2.2.2.2.2.1, fun q => absurd q (by decide)⟩
/-- takes, by the numbers -/
theorem dk_Inv.takes (h : dk_Inv d z k fr le fi ne fl ar pr cf cp sp ep ol sB sH frN leN fiN neN arN prN cfN cpN spN epN) {f q : Nat} (hf : f ≤ 10000) (hq : q ≤ 300) : dk_takes cf cp k (nI f) (nI q) = if k < 5 ∧ (0 < k → cfN (k - 1) < f ∧ q ≤ cpN (k - 1)) then 1 else 0 := by
  obtain ⟨h1, h2, -⟩ := h.2.1
  unfold dk_takes
  rw [show (5 : Int32) = nI 5 from rfl, show (0 : Int32) = nI 0 from rfl]
  by_cases q1 : k < 5
  · rw [if_pos ((nI_ltI (by omega) (by decide)).mpr q1)]
    by_cases q2 : k = 0
    · rw [if_pos ((nI_eq (by omega) (by decide)).mpr q2), if_pos ⟨q1, fun e => by omega⟩]
    · rw [if_neg (fun e => q2 ((nI_eq (by omega) (by decide)).mp e))]
      obtain ⟨a1, a2, a3, a4⟩ := h2 (k - 1) (by omega)
      rw [a1, a2]
      by_cases q3 : f ≤ cfN (k - 1)
      · rw [if_pos ((nI_leI (by omega) (by omega)).mpr q3), if_neg (fun e => by have := e.2 (by omega); omega)]
      · rw [if_neg (fun e => q3 ((nI_leI (by omega) (by omega)).mp e))]
        by_cases q4 : cpN (k - 1) < q
        · rw [if_pos ((nI_ltI (by omega) (by omega)).mpr q4), if_neg (fun e => by have := e.2 (by omega); omega)]
        · rw [if_neg (fun e => q4 ((nI_ltI (by omega) (by omega)).mp e)), if_pos ⟨q1, fun _ => by omega⟩]
  · rw [if_neg (fun e => q1 ((nI_ltI (by omega) (by decide)).mp e)), if_neg (fun e => q1 e.1)]
/-- told(i, j, w), by the numbers -/
theorem dk_Inv.told (h : dk_Inv d z k fr le fi ne fl ar pr cf cp sp ep ol sB sH frN leN fiN neN arN prN cfN cpN spN epN) {i j : Nat} (hi1 : 1 ≤ i) (hi : i ≤ d) (hj : j < z) : dk_speed fl ar i j = nI (dk_spN (dk_fl frN neN d i) (arN j)) ∧ dk_fall le fi fl ar i j = nI (dk_faN (leN i) (fiN i) (dk_fl frN neN d i) (arN j)) := by
  obtain ⟨e1, e2⟩ := h.fl0 i hi
  obtain ⟨⟨-, -, h3, -, h5, -, -⟩, -⟩ := h.1
  obtain ⟨-, -, c1, c2, c3, c4⟩ := h3 i hi1 hi
  obtain ⟨d1, d2, d3, -, -⟩ := h5 j hj
  exact ⟨dk_speed_num e1 d1 e2 d2 d3, dk_fall_num e1 d1 c1 c3 e2 d2 d3 c2⟩
end V
end DkClass
