/-! NEW: constructors' contracts, arrays that are made -/
section DkNew
/-- a constructor: void, makes and changes cells; Ex: what else the tables must say -/
abbrev dk_Iv {S : Type} (l : Launch) (y : MethodName) (ws : List Cond) (rm : Room) (D : va_G) (tys : List (ClassId × FieldType)) (av : List Value) (w : va_W) (sz : Nat) (Ex : State → Prop) (post : S → Prop) (w1 : S → va_W) (mc ms : Nat) : Prop :=
  Met l y ws rm (va_Pc av (fun U => dk_Pre D tys w sz U ∧ Ex U)) (va_Qv post (fun u t => dk_B D tys (va_A w sz) (w1 u) t) (va_A w sz)) mc ms (va_A w sz)
theorem dk_ofIv {l : Launch} {y : MethodName} {ws ws' : List Cond} {rm : Room} {D : va_G} {tys : List (ClassId × FieldType)} {w : va_W} {sz mc ms : Nat} {av : List Value} {cc : ByteArray} {maxL : Nat} {Ex : State → Prop} {S : Type} {post : S → Prop} {w1 : S → va_W} (hy : plainName y.cls = true) (hw : ws = Cond.code y cc maxL none :: ws') (hlen : (lg_sl av).length ≤ maxL)
    (body : ∀ (p : Program) (e : Env) (s : State) (m : MethodId) (args : Array Value) (below : List Frame) (meth : Method) (c : Code) (A : Nat → Prop) (ls : Array Slot) (Q : State → Prop), dk_At p s m args meth c y ws cc maxL → s.heap.size = sz →
      va_K D vwCl tys s → va_P D vwCl w s.heap → va_D A w → (∀ q : Nat, s.heap.size ≤ q → A q) → va_S A s.heap s.heap [] → lv_has ls maxL (lv_args 0 av) → Ex s →
      (∀ (u : S) (H : Heap) (locs : List Loc) (pc : Nat) (ls : Array Slot), post u → va_P D vwCl (w1 u) H → va_D A (w1 u) → va_S A s.heap H locs → decode cc pc = .ok (.return_, 1) → W p l e rm s m args below meth c H locs mc ms Q (F0 m pc ls [])) →
      W p l e rm s m args below meth c s.heap [] 0 0 Q (F0 m 0 ls [])) :
    dk_Iv l y ws rm D tys av w sz Ex post w1 mc ms := by
  refine Met.ofW (cc := cc) (maxL := maxL) (ret := none) hy hw ?_
  intro p e s m args below meth c s₁ B hml hv
  obtain ⟨rfl, ⟨hsz, hP, hK, hD0⟩, hE⟩ := hv
  have hl := lv_entry av (n := maxL) hlen
  rw [lg_entry_eq]
  refine body p e s m _ below meth c (va_A w sz) _ _ ⟨B.exec, B.bytes, hml, atoms_spec (ws := ws) B.pre, findClass_of_methodNamed B.named, (name_of_methodNamed B.named B.method).1⟩ hsz hK hP hD0.self (fun q h => Or.inr (by rw [← hsz]; exact h)) va_S.rf hl hE ?_
  intro u H locs pc ls hp hP hD hS hdg
  exact W.vret B.exec B.bytes B.returns (fun t ht hW => ⟨⟨u, rfl, hp, by rw [ht]; exact hP, va_K.moved hW.alike hK, hD⟩, hS.F ht⟩) hS.2.2 hdg B.notSynchronized
theorem dk_preI {s : State} {H : Heap} {D : va_G} {tys : List (ClassId × FieldType)} {ws wc : va_W} {A : Nat → Prop} {Ex : State → Prop} (hK : va_K D vwCl tys s) (hP : va_P D vwCl ws H) (hD : va_D A ws) (isC : List Nat) (h2 : isC.map (fun i => ws[i]?) = wc.map some) (hn : va_nd isC = true) (hE : ∀ U : State, s.WarmedH U.vm → Ex U) (hB : ∀ (U : State) (g : JFrame) (mk : MethodId) (a : Array Value), Ex U → Ex (U.calling g mk a)) {av : List Value} :
    PreS s H (va_Pc av (fun U => dk_Pre D tys wc H.size U ∧ Ex U)) av := by
  refine ⟨?_, fun U hU hW => ⟨rfl, ⟨by rw [hU], by rw [hU]; exact hP.sub isC (dk_fm h2), va_K.moved hW.alike hK, (hD.sub isC hn h2).weaken (fun _ _ _ _ => trivial)⟩, hE U hW⟩⟩
  intro a U g mk q
  obtain ⟨q0, ⟨q1, qP, qK, qD⟩, qE⟩ := q
  exact ⟨q0, ⟨q1, qP, va_K.moved (u := U) (U := U.calling g mk a) (Vm.Alike.refl U.vm) qK, qD⟩, hB U g mk a qE⟩
/-- the class of int[][] stays where the tables only warm -/
theorem dk_aoaMoved {t : FieldType} {u U : State} (hvm : u.vm.Alike U.vm) (h : va_AOA t u) : va_AOA t U := by
  obtain ⟨comp, c, k, h1, h2, h3, h4, h5⟩ := arrayOverA_spec h
  obtain ⟨k', hk', he⟩ := hvm.2.2 _ _ h3
  have hi : (U.vm.classes.findIdx? fun (x : Class) => match x.kind with | .array component _ => component == comp | _ => false) = some c := by
    refine (va_idx_bare U.vm comp).symm.trans ?_
    first | rw [hvm.bare_eq] | rw [← hvm.bare_eq]
    exact (va_idx_bare u.vm comp).trans h2
  have hkind : k'.kind = .array comp (.array t) := by rw [he]; exact h4
  have f1 : U.vm.findClass (FieldType.array t).toString = some comp := by rw [hvm.findClass]; exact h1
  have f2 : U.vm.findClass ("[" ++ (FieldType.array t).toString) = some c := by rw [hvm.findClass]; exact h5
  unfold va_AOA Cond.before Cond.holds
  simp only [Cond.value]
  rw [f1, Option.bind_some]
  refine (congrArg (fun o : Option Nat => (o.bind (fun c => (U.vm.classes[c]?).map fun (k : Class) => match k.kind with | .array _ ty => decide (ty = FieldType.array t) && decide (U.vm.findClass ("[" ++ (FieldType.array t).toString) = some c) | _ => false) == some true)) hi).trans ?_
  simp [hk', hkind, f2]
section Rows
variable {p : Program} {l : Launch} {e : Env} {R : Room} {s : State} {m : MethodId} {args : Array Value} {below : List Frame} {meth : Method} {c : Code} {H H0 : Heap} {locs : List Loc} {cells slots : Nat} {Q : State → Prop}
variable {D : va_G} {cI cII : ClassId} {ws : va_W} {A : Nat → Prop} {pc : Nat} {ls : Array Slot} {rest : List Value} {cc : ByteArray}
/-- new int[n] -/
theorem dk_newa {n : Int32} {N : Nat} (hx : p.tables.exec = Jvm.exec) (hb : c.code = cc) (harr : (Cond.arrayClass .int).before args s = true) (hK : va_K D vwCl (dk_T cI cII) s) (hP : va_P D vwCl ws H) (hD : va_D A ws) (hS : va_S A H0 H locs) (hA : ∀ q, H0.size ≤ q → A q) (hn : ¬ n < 0) (hN : n.toNatClampNeg = N) (hbytes : N * 4 ≤ 536870912) (hcells : cells + 1 ≤ R.cells) (hslots : slots + N ≤ R.slots) (hdg : decode cc pc = .ok (.newarray .int, 2))
    (kk : ∀ (q : Nat) (H1 : Heap), va_P D vwCl (ws ++ [(q, .inl (cI, N, .inl (fun _ => 0)))]) H1 → va_D A (ws ++ [(q, .inl (cI, N, .inl (fun _ => 0)))]) → va_S A H0 H1 locs → W p l e R s m args below meth c H1 locs (cells + 1) (slots + N) Q (F0 m (pc + 2) ls (.ref q :: rest))) :
    W p l e R s m args below meth c H locs cells slots Q (F0 m pc ls (.int n :: rest)) := by
  refine va_newa (atype := .int) (ty := .int) (a0 := (N, .inl (fun _ => 0))) hx hb harr rfl hK hP hD hS hA (fun cA => rfl) hn hN hbytes hcells hslots hdg ?_
  intro q cA H1 hK1 hP1 hD1 hS1
  have h1 : s.vm.findClass ("[" ++ FieldType.int.toString) = some cI := (hK.2 0 _ rfl).2
  have h2 : s.vm.findClass ("[" ++ FieldType.int.toString) = some cA := (hK1.2 2 _ rfl).2
  cases Option.some.inj (h1.symm.trans h2)
  exact kk q H1 hP1 hD1 hS1
/-- new int[n][k] -/
theorem dk_mna {n k : Int32} {own : String} {index : Nat} (hx : p.tables.exec = Jvm.exec) (hb : c.code = cc) (hown : s.vm.findClass own = some m.cls) (hclink : (Cond.classLink own index "[[I").before args s = true) (hover : va_AOA .int s) (harr : (Cond.arrayClass .int).before args s = true) (hK : va_K D vwCl (dk_T cI cII) s) (hP : va_P D vwCl ws H) (hD : va_D A ws) (hS : va_S A H0 H locs) (hA : ∀ q, H0.size ≤ q → A q) (hn : n = 7) (hk : k = 4)
    (hcells : cells + 8 ≤ R.cells) (hslots : slots + 35 ≤ R.slots) (hdg : decode cc pc = .ok (.multianewarray index 2, 4))
    (kk : ∀ (q : Nat) (r : Nat → Nat) (H1 : Heap), va_P D vwCl ((ws ++ [(q, .inl (cII, 7, .inr (.inr (.inr (.inr (fun i => if i < 7 then some (r i) else none))))))]) ++ [(r 0, .inl (cI, 4, .inl (fun _ => 0))), (r 1, .inl (cI, 4, .inl (fun _ => 0))), (r 2, .inl (cI, 4, .inl (fun _ => 0))), (r 3, .inl (cI, 4, .inl (fun _ => 0))), (r 4, .inl (cI, 4, .inl (fun _ => 0))), (r 5, .inl (cI, 4, .inl (fun _ => 0))), (r 6, .inl (cI, 4, .inl (fun _ => 0)))]) H1 →
      va_D A ((ws ++ [(q, .inl (cII, 7, .inr (.inr (.inr (.inr (fun i => if i < 7 then some (r i) else none))))))]) ++ [(r 0, .inl (cI, 4, .inl (fun _ => 0))), (r 1, .inl (cI, 4, .inl (fun _ => 0))), (r 2, .inl (cI, 4, .inl (fun _ => 0))), (r 3, .inl (cI, 4, .inl (fun _ => 0))), (r 4, .inl (cI, 4, .inl (fun _ => 0))), (r 5, .inl (cI, 4, .inl (fun _ => 0))), (r 6, .inl (cI, 4, .inl (fun _ => 0)))]) →
      va_S A H0 H1 locs → W p l e R s m args below meth c H1 locs (cells + 8) (slots + 35) Q (F0 m (pc + 4) ls (.ref q :: rest))) :
    W p l e R s m args below meth c H locs cells slots Q (F0 m pc ls (.int k :: .int n :: rest)) := by
  subst hn
  subst hk
  have e0 : ws = ws ++ va_pl [] (fun _ => (.inl (cI, 4, .inl (fun _ => 0)) : va_E)) := (List.append_nil ws).symm
  rw [e0] at hP hD
  refine va_mna (N' := 7) (K' := 4) (ty := .int) (cy := cI) (z := (4, .inl (fun _ => 0))) hx hb hown hclink hover harr (hK.2 0 _ rfl).2 hK hP hD hS hA (by decide) (by decide) (by decide) (by decide) (by decide) (by decide) (by decide) (by decide) (by decide) hcells hslots ?_ hdg ?_
  · intro c0
    rfl
  · intro q r cA H1 hinj hni hK1 hP1 hD1 hS1
    have h1 : s.vm.findClass ("[" ++ (FieldType.array .int).toString) = some cII := (hK.2 1 _ rfl).2
    have h2 : s.vm.findClass ("[" ++ (FieldType.array .int).toString) = some cA := (hK1.2 2 _ rfl).2
    cases Option.some.inj (h1.symm.trans h2)
    have e1 : ∀ f : Nat → va_E, va_pl ([] ++ (List.range 7).map r) (vr_up f ((List.range 7).map r) (.inl (cI, 4, .inl (fun _ => 0)))) = [(r 0, .inl (cI, 4, .inl (fun _ => 0))), (r 1, .inl (cI, 4, .inl (fun _ => 0))), (r 2, .inl (cI, 4, .inl (fun _ => 0))), (r 3, .inl (cI, 4, .inl (fun _ => 0))), (r 4, .inl (cI, 4, .inl (fun _ => 0))), (r 5, .inl (cI, 4, .inl (fun _ => 0))), (r 6, .inl (cI, 4, .inl (fun _ => 0)))] := by
      intro f
      have e2 : va_pl ([] ++ (List.range 7).map r) (vr_up f ((List.range 7).map r) (.inl (cI, 4, .inl (fun _ => 0)))) = (List.range 7).map (fun i => (r i, (.inl (cI, 4, .inl (fun _ => 0)) : va_E))) := by
        unfold va_pl
        rw [List.nil_append, List.map_map]
        apply List.map_congr_left
        intro i hi
        show (r i, vr_up f ((List.range 7).map r) _ (r i)) = _
        rw [vr_up_in (List.mem_map_of_mem hi)]
      rw [e2]
      rfl
    rw [e1] at hP1 hD1
    exact kk q r H1 hP1 hD1 hS1
end Rows
end DkNew
