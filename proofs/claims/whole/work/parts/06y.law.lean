/-! LAW, its helpers: a call of the class under a try -/
section DkLaw
abbrev dk_TL (cI cII cL : ClassId) : List (ClassId × FieldType) := [(cI, .int), (cII, .array .int), (cL, .long)]
/-- the law's long[1] -/
def dk_O (cL : ClassId) (a : Nat → Nat) (f : Nat → Int64) : va_W := [(a 0, .inl (cL, 1, .inr (.inl f)))]
/-- CONTRACT of a helper: it catches what the class throws -/
abbrev dk_Li (l : Launch) (y : MethodName) (ws : List Cond) (rm : Room) (D : va_G) (tys : List (ClassId × FieldType)) (av : List Value) (w : va_W) (sz : Nat) (r : Int32) (w1 : va_W) (mc ms : Nat) : Prop :=
  Met l y ws rm (va_Pc av (fun U => dk_Pre D tys w sz U ∧ dk_E (va_A w sz) U ∧ va_Nc dk_ISE dk_IAE U)) (va_Qi (fun (v : Int32) (_ : Unit) => v = r) (fun _ t => dk_B D tys (va_A w sz) w1 t) (va_A w sz)) mc ms (va_A w sz)
theorem dk_ofLi {l : Launch} {y : MethodName} {ws ws' : List Cond} {rm : Room} {D : va_G} {tys : List (ClassId × FieldType)} {w w1 : va_W} {sz mc ms : Nat} {av : List Value} {cc : ByteArray} {maxL : Nat} {hh : List (Nat × Nat × Nat × Nat)} {r : Int32} (hy : plainName y.cls = true) (hw : ws = Cond.codeWith y cc maxL (some .int) hh :: ws') (hlen : (lg_sl av).length ≤ maxL)
    (body : ∀ (p : Program) (e : Env) (s : State) (m : MethodId) (args : Array Value) (below : List Frame) (meth : Method) (c : Code) (A : Nat → Prop) (ls : Array Slot) (Q : State → Prop), dk_At p s m args meth c y ws cc maxL → meth.locks = false → c.exceptionTable.toList = tableOf hh → s.heap.size = sz →
      va_K D vwCl tys s → va_P D vwCl w s.heap → va_D A w → (∀ q : Nat, s.heap.size ≤ q → A q) → va_S A s.heap s.heap [] → lv_has ls maxL (lv_args 0 av) → dk_E A s → va_Nc dk_ISE dk_IAE s →
      (∀ (v : Int32) (H : Heap) (locs : List Loc) (pc : Nat) (ls : Array Slot), v = r → va_P D vwCl w1 H → va_D A w1 → va_S A s.heap H locs → decode cc pc = .ok (.ireturn, 1) → W p l e rm s m args below meth c H locs mc ms Q (F0 m pc ls [.int v])) →
      W p l e rm s m args below meth c s.heap [] 0 0 Q (F0 m 0 ls [])) :
    dk_Li l y ws rm D tys av w sz r w1 mc ms := by
  refine va_MetW (cc := cc) (maxL := maxL) (ret := some .int) (hh := hh) hy hw ?_
  intro p e s m args below meth c s₁ B hml hv
  obtain ⟨rfl, ⟨hsz, hP, hK, hD0⟩, hE, hN⟩ := hv
  have hl := lv_entry av (n := maxL) hlen
  rw [lg_entry_eq]
  have hts := atoms_spec (ws := ws) B.pre
  refine body p e s m _ below meth c (va_A w sz) _ _ ⟨B.exec, B.bytes, hml, hts, findClass_of_methodNamed B.named, (name_of_methodNamed B.named B.method).1⟩ B.notSynchronized (vx_table (x := y) B (hts _ (by rw [hw]; exact List.mem_cons_self))) hsz hK hP hD0.self (fun q h => Or.inr (by rw [← hsz]; exact h)) va_S.rf hl hE hN ?_
  intro v H locs pc ls hp hP hD hS hdg
  exact W.iret B.exec B.bytes B.returns (fun t ht hW => ⟨⟨v, (), rfl, hp, by rw [ht]; exact hP, va_K.moved hW.alike hK, hD⟩, hS.F ht⟩) hS.2.2 hdg B.notSynchronized
theorem dk_ne2Need {d : Nat} {a b : Int32} : dk_kNeed d a b ≠ 2 := by
  unfold dk_kNeed
  split
  · decide
  · split <;> decide
theorem dk_ne2Speed {a : Int32} : dk_kSpeed a ≠ 2 := by unfold dk_kSpeed; split <;> decide
theorem dk_ne2Energy {a : Int32} : dk_kEnergy a ≠ 2 := by unfold dk_kEnergy; split <;> decide
theorem dk_ne2Set {a b : Int32} : dk_kSet a b ≠ 2 := by
  unfold dk_kSet
  split
  · decide
  · split
    · exact dk_ne2Speed
    · exact dk_ne2Energy
theorem dk_ne2In {lo a : Int32} {d : Nat} : dk_kIn lo d a ≠ 2 := by unfold dk_kIn; split <;> decide
theorem dk_ne2Told {d z : Nat} {a b c : Int32} : dk_kTold d z a b c ≠ 2 := by
  unfold dk_kTold
  split
  · decide
  · split
    · decide
    · split <;> decide
theorem dk_ne2Best {a : Int32} : dk_kBest a ≠ 2 := by unfold dk_kBest; split <;> decide
theorem dk_ne2Least {a : Int32} : dk_kLeast a ≠ 2 := by unfold dk_kLeast; split <;> decide
end DkLaw
