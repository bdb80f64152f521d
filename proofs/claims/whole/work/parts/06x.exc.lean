/-- the texts of the exceptions, by their places -/
def dk_strs : List (Nat × String) := [(133, "a number is out of its bounds"), (52, "there are all the ducts that there can be"), (68, "there are all the sizes that there can be"), (84, "the fan can not have this point behind its others")]
/-! EXC: methods that throw; a reference that is answered -/
section DkExc
abbrev dk_IAE : String := "java/lang/IllegalArgumentException"
abbrev dk_ISE : String := "java/lang/IllegalStateException"
abbrev dk_ups : List String := ["java/lang/RuntimeException", "java/lang/Exception"]
/-- the words of a throw that aren't good for every state by themselves -/
def dk_badA : List Cond := [.castable dk_IAE dk_IAE, .declares ⟨"java/lang/RuntimeException", "<init>", "(Ljava/lang/String;)V"⟩, .declares ⟨"java/lang/Exception", "<init>", "(Ljava/lang/String;)V"⟩, .declares ⟨"java/lang/Throwable", "<init>", "(Ljava/lang/String;)V"⟩]
def dk_badS : List Cond := [.castable dk_ISE dk_ISE, .declares ⟨"java/lang/RuntimeException", "<init>", "(Ljava/lang/String;)V"⟩, .declares ⟨"java/lang/Exception", "<init>", "(Ljava/lang/String;)V"⟩, .declares ⟨"java/lang/Throwable", "<init>", "(Ljava/lang/String;)V"⟩]
/-- what a throw needs of the start: two statics of Throwable's, the texts, the words above -/
def dk_E (A : Nat → Prop) (U : State) : Prop := vx_Zq Bundle.tN "UNASSIGNED_STACK" Bundle.steD A U U.heap ∧ vx_Zq Bundle.tN "SUPPRESSED_SENTINEL" Bundle.listD A U U.heap ∧ (∀ q ∈ dk_strs, ∃ a, vk_R RX3 q.1 q.2 a U) ∧ ∀ w ∈ dk_badA ++ dk_badS, va_Nw w U
theorem dk_E.call {A B : Nat → Prop} {s : State} {H : Heap} {locs : List Loc} (h : dk_E A s) (hS : va_S A s.heap H locs) (hAB : ∀ q, B q → A q) (U : State) (hU : U.heap = H) (hW : s.WarmedH U.vm) : dk_E B U := by
  obtain ⟨h1, h2, h3, h4⟩ := h
  refine ⟨?_, ?_, fun q hq => ?_, fun w hw => ?_⟩
  · rw [hU]
    exact ((h1.kept hS.2.1).moved hW.alike).narrow hAB
  · rw [hU]
    exact ((h2.kept hS.2.1).moved hW.alike).narrow hAB
  · obtain ⟨a, ha⟩ := h3 q hq
    exact ⟨a, vk_R.warm hW ha⟩
  · have h9 := h4 w hw
    simp only [dk_badA, dk_badS, List.cons_append, List.nil_append, List.mem_cons, List.not_mem_nil, or_false] at hw
    rcases hw with rfl | rfl | rfl | rfl | rfl | rfl | rfl | rfl
    · exact va_Nw.warmC hW h9
    · exact va_Nw.warmD hW h9
    · exact va_Nw.warmD hW h9
    · exact va_Nw.warmD hW h9
    · exact va_Nw.warmC hW h9
    · exact va_Nw.warmD hW h9
    · exact va_Nw.warmD hW h9
    · exact va_Nw.warmD hW h9
theorem dk_E.blind {A : Nat → Prop} {U : State} {g : JFrame} {mk : MethodId} {a : Array Value} (h : dk_E A U) : dk_E A (U.calling g mk a) := by
  obtain ⟨h1, h2, h3, h4⟩ := h
  refine ⟨h1.moved (Vm.Alike.refl U.vm), h2.moved (Vm.Alike.refl U.vm), fun q hq => ?_, fun w hw => ?_⟩
  · obtain ⟨b, hb⟩ := h3 q hq
    exact ⟨b, vk_R.same (u := U) rfl hb⟩
  · have h9 := h4 w hw
    have ho : w.onTables = true := by
      simp only [dk_badA, dk_badS, List.cons_append, List.nil_append, List.mem_cons, List.not_mem_nil, or_false] at hw
      rcases hw with rfl | rfl | rfl | rfl | rfl | rfl | rfl | rfl <;> rfl
    exact va_tabs ho (rfl : U.vm = (U.calling g mk a).vm) h9
/-- demand: either the number lies in its bounds and nothing happens, or it throws and no cell that was there changes -/
def dk_Qd (n lo hi : Int32) : Array Value → State → Outcome → State → Prop := fun _ st o t => o = .returned none ∧ ¬ (n < lo ∨ hi < n) ∧ t.heap = st.heap
def dk_Xd (n lo hi : Int32) : String → State → State → Prop := fun E st t => E = dk_IAE ∧ (n < lo ∨ hi < n) ∧ st.heap.size ≤ t.heap.size ∧ ∀ q : Nat, q < st.heap.size → t.heap[q]? = st.heap[q]?
abbrev dk_Dem (l : Launch) (y : MethodName) (ws : List Cond) (rm : Room) (n lo hi : Int32) : Prop :=
  vx_Met l y ws rm (va_Pc [.int n, .int lo, .int hi] (fun U => dk_E (fun q => U.heap.size ≤ q) U)) (dk_Qd n lo hi) (dk_Xd n lo hi) 1 6 (fun _ => False)
/-- CONTRACT of a method that answers an int or throws; thrown: nothing has changed -/
abbrev dk_Xi {S : Type} (l : Launch) (y : MethodName) (ws : List Cond) (rm : Room) (D : va_G) (tys : List (ClassId × FieldType)) (av : List Value) (w : va_W) (sz : Nat) (post : Int32 → S → Prop) (w1 : S → va_W) (px : String → Prop) (mc ms : Nat) : Prop :=
  vx_Met l y ws rm (va_Pc av (fun U => dk_Pre D tys w sz U ∧ dk_E (va_A w sz) U)) (va_Qi post (fun u t => dk_B D tys (va_A w sz) (w1 u) t) (va_A w sz)) (vx_X px (fun E u t => E = u ∧ dk_B D tys (va_A w sz) w t) (va_A w sz)) mc ms (va_A w sz)
section Starts
variable {l : Launch} {y : MethodName} {ws ws' : List Cond} {rm : Room} {D : va_G} {tys : List (ClassId × FieldType)} {w : va_W} {sz mc ms : Nat} {av : List Value} {cc : ByteArray} {maxL : Nat}
theorem dk_ofXi {S : Type} {post : Int32 → S → Prop} {w1 : S → va_W} {px : String → Prop} (hy : plainName y.cls = true) (hw : ws = Cond.code y cc maxL (some .int) :: ws') (hlen : (lg_sl av).length ≤ maxL)
    (body : ∀ (p : Program) (e : Env) (s : State) (m : MethodId) (args : Array Value) (below : List Frame) (meth : Method) (c : Code) (A : Nat → Prop) (ls : Array Slot) (Q : State → Prop), dk_At p s m args meth c y ws cc maxL → meth.locks = false → (∀ x ∈ c.exceptionTable.toList, False) → s.heap.size = sz →
      va_K D vwCl tys s → va_P D vwCl w s.heap → va_D A w → (∀ q : Nat, s.heap.size ≤ q → A q) → va_S A s.heap s.heap [] → lv_has ls maxL (lv_args 0 av) → dk_E A s →
      Q = vx_MQ below (va_Qi post (fun u t => dk_B D tys A (w1 u) t) A) (vx_X px (fun E u t => E = u ∧ dk_B D tys A w t) A) args s mc ms A →
      (∀ (v : Int32) (u : S) (H : Heap) (locs : List Loc) (pc : Nat) (ls : Array Slot), post v u → va_P D vwCl (w1 u) H → va_D A (w1 u) → va_S A s.heap H locs → decode cc pc = .ok (.ireturn, 1) → W p l e rm s m args below meth c H locs mc ms Q (F0 m pc ls [.int v])) →
      (∀ (E : String) (ce : Cell) (q : Addr) (H : Heap) (locs : List Loc) (cells slots pc : Nat) (ls : Array Slot) (rest : List Value), px E → va_P D vwCl w H → va_D A w → va_S A s.heap H locs → H[q]? = some ce → ce.vm = .none → s.vm.findClass E = some ce.cls → cells ≤ mc → slots ≤ ms → vx_W p l e rm s m args below meth c H locs cells slots Q (F0 m pc ls rest) q) →
      W p l e rm s m args below meth c s.heap [] 0 0 Q (F0 m 0 ls [])) :
    dk_Xi l y ws rm D tys av w sz post w1 px mc ms := by
  refine vx_ofW (cc := cc) (maxL := maxL) (ret := some .int) hy hw ?_
  intro p e s m args below meth c s₁ B hml hno hv
  obtain ⟨rfl, ⟨hsz, hP, hK, hD0⟩, hE⟩ := hv
  have hl := lv_entry av (n := maxL) hlen
  rw [lg_entry_eq]
  refine body p e s m _ below meth c (va_A w sz) _ _ ⟨B.exec, B.bytes, hml, atoms_spec (ws := ws) B.pre, findClass_of_methodNamed B.named, (name_of_methodNamed B.named B.method).1⟩ B.notSynchronized hno hsz hK hP hD0.self (fun q h => Or.inr (by rw [← hsz]; exact h)) va_S.rf hl hE rfl ?_ ?_
  · intro v u H locs pc ls hp hP hD hS hdg
    exact vx_ret (W.iret B.exec B.bytes B.returns (fun t ht hW => ⟨⟨v, u, rfl, hp, by rw [ht]; exact hP, va_K.moved hW.alike hK, hD⟩, hS.F ht⟩) hS.2.2 hdg B.notSynchronized)
  · intro E ce q H locs cells slots pc ls rest hp hP hD hS h1 h2 h3 hc hs
    exact vx_out (fun x hx => (hno x hx).elim) B.notSynchronized h1 h2 h3 (fun t ht ha => ⟨E, hp, ⟨rfl, by rw [ht]; exact hP, va_K.moved ha hK, hD⟩, hS.F ht⟩) hS.2.2 hc hs
theorem dk_ofD {n lo hi : Int32} (hy : plainName y.cls = true) (hw : ws = Cond.code y cc 3 none :: ws')
    (body : ∀ (p : Program) (e : Env) (s : State) (m : MethodId) (args : Array Value) (below : List Frame) (meth : Method) (c : Code) (ls : Array Slot) (Q : State → Prop), dk_At p s m args meth c y ws cc 3 → meth.locks = false → (∀ x ∈ c.exceptionTable.toList, False) → lv_has ls 3 (lv_args 0 [.int n, .int lo, .int hi]) → dk_E (fun q => s.heap.size ≤ q) s →
      Q = vx_MQ below (dk_Qd n lo hi) (dk_Xd n lo hi) args s 1 6 (fun _ => False) →
      (∀ (pc : Nat) (ls : Array Slot), ¬ (n < lo ∨ hi < n) → decode cc pc = .ok (.return_, 1) → W p l e rm s m args below meth c s.heap [] 1 6 Q (F0 m pc ls [])) →
      W p l e rm s m args below meth c s.heap [] 0 0 Q (F0 m 0 ls [])) :
    dk_Dem l y ws rm n lo hi := by
  refine vx_ofW (cc := cc) (maxL := 3) (ret := none) hy hw ?_
  intro p e s m args below meth c s₁ B hml hno hv
  obtain ⟨rfl, hE⟩ := hv
  have hl := lv_entry [.int n, .int lo, .int hi] (n := 3) (Nat.le_of_ble_eq_true rfl)
  rw [lg_entry_eq]
  refine body p e s m _ below meth c _ _ ⟨B.exec, B.bytes, hml, atoms_spec (ws := ws) B.pre, findClass_of_methodNamed B.named, (name_of_methodNamed B.named B.method).1⟩ B.notSynchronized hno hl hE rfl ?_
  intro pc ls hp hdg
  exact vx_ret (W.vret B.exec B.bytes B.returns (fun t ht hW => ⟨rfl, hp, ht⟩) (fun _ h => by cases h) hdg B.notSynchronized)
end Starts
section Rows
variable {p : Program} {l : Launch} {e : Env} {R : Room} {s : State} {m : MethodId} {args : Array Value} {below : List Frame} {meth : Method} {c : Code} {H : Heap} {locs : List Loc} {cells slots : Nat} {Q : State → Prop}
variable {A : Nat → Prop} {pc : Nat} {ls : Array Slot} {st0 rest : List Value} {a : Array Value}
theorem dk_preD {n lo hi : Int32} (hE : dk_E A s) (hS : va_S A s.heap H locs) (hA : ∀ q, s.heap.size ≤ q → A q) : PreS s H (va_Pc [.int n, .int lo, .int hi] (fun U => dk_E (fun q => U.heap.size ≤ q) U)) [.int n, .int lo, .int hi] := by
  refine ⟨?_, fun U hU hW => ⟨rfl, hE.call hS (fun q hq => hA q (Nat.le_trans hS.1 (by rw [hU] at hq; exact hq))) U hU hW⟩⟩
  intro a U g mk q
  exact ⟨q.1, q.2.blind⟩
theorem dk_xdem {n lo hi : Int32} (hr : vx_Run p l e R s m args below meth c H locs cells slots 1 6 (F0 m pc ls st0) rest (dk_Qd n lo hi a) (dk_Xd n lo hi) (fun _ => False))
    (kx : ∀ (ce : Cell) (q9 : Addr) (H1 : Heap), (n < lo ∨ hi < n) → H.size ≤ H1.size → (∀ q : Nat, q < H.size → H1[q]? = H[q]?) → H1[q9]? = some ce → ce.vm = .none → s.vm.findClass dk_IAE = some ce.cls → vx_W p l e R s m args below meth c H1 locs (cells + 1) (slots + 6) Q (F0 m pc ls rest) q9)
    (kk : ¬ (n < lo ∨ hi < n) → W p l e R s m args below meth c H locs (cells + 1) (slots + 6) Q (F0 m (pc + 3) ls rest)) :
    W p l e R s m args below meth c H locs cells slots Q (F0 m pc ls st0) := by
  intro T hT X
  have hnil : ∀ L : List Loc, (∀ q ∈ L, False) → L = [] := fun L hL => by
    cases L with
    | nil => rfl
    | cons q L => exact (hL q List.mem_cons_self).elim
  rcases hr T hT X with ⟨v, st₀, t, T', L, h0, X', hL, e1, e2, ⟨hv, hp, hh⟩, st⟩ | ⟨q, st₀, t, T', L, E, ce, h0, X', hL, e1, e2, ⟨rfl, hp, hz, hk⟩, hce, hcv, hcl, st⟩
  · cases hv
    cases hnil L hL
    rw [List.append_nil] at X'
    obtain ⟨t2, a1, b1⟩ := kk hp T' (by rw [e1, hh, h0]) X'
    exact ⟨t2, st t2 a1, b1⟩
  · cases hnil L hL
    rw [List.append_nil] at X'
    rw [h0, ← e1] at hz hk
    obtain ⟨t2, a1, b1⟩ := kx ce q T'.heap hp hz hk (by rw [e1]; exact hce) hcv hcl T' rfl X'
    exact ⟨t2, st.trans a1, b1⟩
/-- an index out of its bounds' answer: a Nat -/
theorem dk_of {x lo' : Int32} {lo d : Nat} (h : ¬ (x < lo' ∨ nI d < x)) (e : lo' = nI lo) (hd : d < 2 ^ 31) (hlo : lo < 2 ^ 31) : ∃ j, lo ≤ j ∧ j ≤ d ∧ x = nI j := by
  subst e
  have h1 : ¬ x < nI lo := fun q => h (Or.inl q)
  have h2 : ¬ nI d < x := fun q => h (Or.inr q)
  have h0 : ¬ x < 0 := fun q => h1 (Int32.lt_of_lt_of_le q (nI_pos' hlo))
  obtain ⟨j, hj, rfl⟩ := nI_of h0
  refine ⟨j, ?_, ?_, rfl⟩
  · exact Nat.not_lt.mp (fun q => h1 (nI_lt q hlo))
  · exact Nat.not_lt.mp (fun q => h2 (nI_lt q hj))
end Rows
end DkExc
section DkRef
/-- CONTRACT of a method that answers a known reference and changes its cells -/
abbrev dk_Mr (l : Launch) (y : MethodName) (ws : List Cond) (rm : Room) (D : va_G) (tys : List (ClassId × FieldType)) (av : List Value) (w : va_W) (sz : Nat) (ra : Nat) (w1 : va_W) : Prop :=
  Met l y ws rm (va_Pc av (dk_Pre D tys w sz)) (va_Qr (fun (_ : Unit) => True) (fun _ b t => b = ra ∧ dk_B D tys (va_A w sz) w1 t) (va_A w sz)) 0 0 (va_A w sz)
theorem dk_ofMr {l : Launch} {y : MethodName} {ws ws' : List Cond} {rm : Room} {D : va_G} {tys : List (ClassId × FieldType)} {w : va_W} {sz : Nat} {av : List Value} {cc : ByteArray} {maxL : Nat} {cn : String} {ra : Nat} {w1 : va_W} (hy : plainName y.cls = true) (hw : ws = Cond.code y cc maxL (some (.object cn)) :: ws') (hlen : (lg_sl av).length ≤ maxL)
    (body : ∀ (p : Program) (e : Env) (s : State) (m : MethodId) (args : Array Value) (below : List Frame) (meth : Method) (c : Code) (A : Nat → Prop) (ls : Array Slot) (Q : State → Prop), dk_At p s m args meth c y ws cc maxL → s.heap.size = sz →
      va_K D vwCl tys s → va_P D vwCl w s.heap → va_D A w → (∀ q : Nat, s.heap.size ≤ q → A q) → va_S A s.heap s.heap [] → lv_has ls maxL (lv_args 0 av) →
      (∀ (H : Heap) (locs : List Loc) (pc : Nat) (ls : Array Slot), va_P D vwCl w1 H → va_D A w1 → va_S A s.heap H locs → decode cc pc = .ok (.areturn, 1) → W p l e rm s m args below meth c H locs 0 0 Q (F0 m pc ls [.ref ra])) →
      W p l e rm s m args below meth c s.heap [] 0 0 Q (F0 m 0 ls [])) :
    dk_Mr l y ws rm D tys av w sz ra w1 := by
  refine Met.ofW (cc := cc) (maxL := maxL) (ret := some (.object cn)) hy hw ?_
  intro p e s m args below meth c s₁ B hml hv
  obtain ⟨rfl, hsz, hP, hK, hD0⟩ := hv
  have hl := lv_entry av (n := maxL) hlen
  rw [lg_entry_eq]
  refine body p e s m _ below meth c (va_A w sz) _ _ ⟨B.exec, B.bytes, hml, atoms_spec (ws := ws) B.pre, findClass_of_methodNamed B.named, (name_of_methodNamed B.named B.method).1⟩ hsz hK hP hD0.self (fun q h => Or.inr (by rw [← hsz]; exact h)) va_S.rf hl ?_
  intro H locs pc ls hP hD hS hdg
  exact W.aret B.exec B.bytes B.returns (Or.inl ⟨cn, rfl⟩) (Or.inr ⟨ra, rfl⟩) (fun t ht hW => ⟨⟨(), ra, rfl, trivial, rfl, by rw [ht]; exact hP, va_K.moved hW.alike hK, hD⟩, hS.F ht⟩) hS.2.2 hdg B.notSynchronized
theorem dk_callr {p : Program} {l : Launch} {e : Env} {R : Room} {s : State} {m : MethodId} {args : Array Value} {below : List Frame} {meth : Method} {c : Code} {H H0 : Heap} {locs : List Loc} {cells slots : Nat} {Q : State → Prop} {D : va_G} {tys : List (ClassId × FieldType)} {ws wc wr w1 : va_W} {A0 : Nat → Prop} {pc ra : Nat} {ls : Array Slot} {st0 rest : List Value} {a : Array Value}
    (hr : va_Run p l e R s m args below meth c H locs cells slots 0 0 (F0 m pc ls st0) rest (va_Qr (fun (_ : Unit) => True) (fun _ b t => b = ra ∧ dk_B D tys (va_A wc H.size) w1 t) (va_A wc H.size) a) (va_A wc H.size))
    (hP : va_P D vwCl ws H) (hD : va_D A0 ws) (hS : va_S A0 H0 H locs) (hA : ∀ q, H0.size ≤ q → A0 q) (isC isR : List Nat) (hC : isC.map (fun i => ws[i]?) = wc.map some) (hR : isR.map (fun i => ws[i]?) = wr.map some) (hn : va_nd isR = true) (hdis : ∀ i ∈ isR, i ∉ isC)
    (kk : ∀ (H1 : Heap) (locs1 : List Loc), va_P D vwCl (wr ++ w1) H1 → va_D A0 (wr ++ w1) → va_S A0 H0 H1 locs1 → W p l e R s m args below meth c H1 locs1 cells slots Q (F0 m (pc + 3) ls (.ref ra :: rest))) :
    W p l e R s m args below meth c H locs cells slots Q (F0 m pc ls st0) := by
  have hF := va_free hD hS hA isC hC
  refine va_callr hr hS (fun q _ h => hF q h) hF (fun u b t H1 locs1 ht hvm hw hB hz hk hS1 => ?_)
  obtain ⟨rfl, hP1, hK1, hD1⟩ := hB
  rw [ht] at hP1
  obtain ⟨hP2, hD2⟩ := va_join hP hD isC isR hC hR hn hdis hk hF hP1 hD1
  exact kk H1 locs1 hP2 hD2 hS1
end DkRef
section DkXcall
variable {p : Program} {l : Launch} {e : Env} {R : Room} {s : State} {m : MethodId} {args : Array Value} {below : List Frame} {meth : Method} {c : Code} {H H0 : Heap} {locs : List Loc} {cells slots : Nat} {Q : State → Prop}
variable {D : va_G} {tys : List (ClassId × FieldType)} {ws wc wr : va_W} {A0 : Nat → Prop} {mc ms pc : Nat} {ls : Array Slot} {st0 rest : List Value} {a : Array Value} {S : Type} {w1 : S → va_W}
theorem dk_preXV {b q0 ci : Nat} {q : vw_C} {fs : List Value} (hK : va_K D vwCl tys s) (hP : va_P D vwCl ws H) (hD : va_D A0 ws) (hE : dk_E A0 s) (hS : va_S A0 s.heap H locs) (hA : ∀ q, s.heap.size ≤ q → A0 q) (isC : List Nat) (h2 : isC.map (fun i => ws[i]?) = wc.map some) (hn : va_nd isC = true)
    (hc : vwCl[ci]? = some q) (he : ws[q0]? = some (b, .inr (ci, fs))) {As : List Value} : PreV s H q.1 b (va_Pc (.ref b :: As) (fun U => dk_Pre D tys wc H.size U ∧ dk_E (va_A wc H.size) U)) As := by
  refine ⟨?_, va_recv hK hP hc he, fun U hU hW => ⟨rfl, ⟨by rw [hU], by rw [hU]; exact hP.sub isC (dk_fm h2), va_K.moved hW.alike hK, (hD.sub isC hn h2).weaken (fun _ _ _ _ => trivial)⟩, hE.call hS (va_free hD hS hA isC h2) U hU hW⟩⟩
  intro a U g mk q
  obtain ⟨q0, ⟨q1, qP, qK, qD⟩, qE⟩ := q
  exact ⟨q0, ⟨q1, qP, va_K.moved (u := U) (U := U.calling g mk a) (Vm.Alike.refl U.vm) qK, qD⟩, qE.blind⟩
/-- a call of a method that answers an int or throws -/
theorem dk_xcalli {post : Int32 → S → Prop} {px : String → Prop} (hr : vx_Run p l e R s m args below meth c H locs cells slots mc ms (F0 m pc ls st0) rest (va_Qi post (fun u t => dk_B D tys (va_A wc H.size) (w1 u) t) (va_A wc H.size) a) (vx_X px (fun E u t => E = u ∧ dk_B D tys (va_A wc H.size) wc t) (va_A wc H.size)) (va_A wc H.size))
    (hP : va_P D vwCl ws H) (hD : va_D A0 ws) (hS : va_S A0 H0 H locs) (hA : ∀ q, H0.size ≤ q → A0 q) (isC isR : List Nat) (hC : isC.map (fun i => ws[i]?) = wc.map some) (hR : isR.map (fun i => ws[i]?) = wr.map some) (hn : va_nd isR = true) (hdis : ∀ i ∈ isR, i ∉ isC)
    (kx : ∀ (E : String) (ce : Cell) (q9 : Addr) (H1 : Heap) (locs1 : List Loc), px E → va_P D vwCl (wr ++ wc) H1 → va_D A0 (wr ++ wc) → va_S A0 H0 H1 locs1 → H1[q9]? = some ce → ce.vm = .none → s.vm.findClass E = some ce.cls → vx_W p l e R s m args below meth c H1 locs1 (cells + mc) (slots + ms) Q (F0 m pc ls rest) q9)
    (kk : ∀ (r : Int32) (u : S) (H1 : Heap) (locs1 : List Loc), post r u → va_P D vwCl (wr ++ w1 u) H1 → va_D A0 (wr ++ w1 u) → va_S A0 H0 H1 locs1 → W p l e R s m args below meth c H1 locs1 (cells + mc) (slots + ms) Q (F0 m (pc + 3) ls (.int r :: rest))) :
    W p l e R s m args below meth c H locs cells slots Q (F0 m pc ls st0) := by
  have hF := va_free hD hS hA isC hC
  refine vx_calli hr hS (fun q _ h => hF q h) hF (fun q _ h => hF q h) (fun E ce q9 u t H1 locs1 ht hvm hw hB hz hk hS1 h1 h2 h3 => ?_) (fun r u t H1 locs1 ht hvm hw hB hz hk hS1 => ?_)
  · obtain ⟨rfl, hP1, hK1, hD1⟩ := hB
    rw [ht] at hP1
    obtain ⟨hP2, hD2⟩ := va_join hP hD isC isR hC hR hn hdis hk hF hP1 hD1
    exact kx E ce q9 H1 locs1 hw hP2 hD2 hS1 h1 h2 h3
  · obtain ⟨hP1, hK1, hD1⟩ := hB
    rw [ht] at hP1
    obtain ⟨hP2, hD2⟩ := va_join hP hD isC isR hC hR hn hdis hk hF hP1 hD1
    exact kk r u H1 locs1 hw hP2 hD2 hS1
end DkXcall
