section
-- ===== PART A: goes FIRST, ahead of the names: the tables' words, and 'selects' of the private methods out of them =====
/-- a private method of a class that the tables say can be made, by its rows of tables_1 -/
def lw_okq (q : MethodName × Nat) : Prop := (q.1.cls ≠ "java/lang/invoke/MethodHandle" ∧ q.1.cls ≠ "java/lang/invoke/VarHandle") ∧ Cond.instantiable q.1.cls q.2 ∈ tables_1 ∧ Cond.privateMethod q.1 ∈ tables_1 ∧ Cond.instanceMethod q.1 ∈ tables_1
theorem lw_p0 : lw_okq (⟨"DuctSizes$Curve", "pressureBefore", "(II)I"⟩, 3) := ⟨⟨by decide +kernel, by decide +kernel⟩, List.mem_of_getElem? (i := 68) (by decide +kernel), List.mem_of_getElem? (i := 158) (by decide +kernel), List.mem_of_getElem? (i := 159) (by decide +kernel)⟩
theorem lw_p1 : lw_okq (⟨"DuctSizes", "bestChoice", "()LDuctSizes$Search;"⟩, 6) := ⟨⟨by decide +kernel, by decide +kernel⟩, List.mem_of_getElem? (i := 13) (by decide +kernel), List.mem_of_getElem? (i := 166) (by decide +kernel), List.mem_of_getElem? (i := 167) (by decide +kernel)⟩
theorem lw_p2 : lw_okq (⟨"DuctSizes$Search", "noteFalls", "()V"⟩, 11) := ⟨⟨by decide +kernel, by decide +kernel⟩, List.mem_of_getElem? (i := 84) (by decide +kernel), List.mem_of_getElem? (i := 175) (by decide +kernel), List.mem_of_getElem? (i := 176) (by decide +kernel)⟩
theorem lw_p3 : lw_okq (⟨"DuctSizes$Search", "placeFrom", "(III)V"⟩, 11) := ⟨⟨by decide +kernel, by decide +kernel⟩, List.mem_of_getElem? (i := 84) (by decide +kernel), List.mem_of_getElem? (i := 197) (by decide +kernel), List.mem_of_getElem? (i := 198) (by decide +kernel)⟩
theorem lw_p4 : lw_okq (⟨"DuctSizes$Search", "keepTrial", "(II)V"⟩, 11) := ⟨⟨by decide +kernel, by decide +kernel⟩, List.mem_of_getElem? (i := 84) (by decide +kernel), List.mem_of_getElem? (i := 201) (by decide +kernel), List.mem_of_getElem? (i := 202) (by decide +kernel)⟩
theorem lw_p5 : lw_okq (⟨"DuctSizes$Search", "placeSize", "(IIII)V"⟩, 11) := ⟨⟨by decide +kernel, by decide +kernel⟩, List.mem_of_getElem? (i := 84) (by decide +kernel), List.mem_of_getElem? (i := 205) (by decide +kernel), List.mem_of_getElem? (i := 206) (by decide +kernel)⟩
theorem lw_p6 : lw_okq (⟨"DuctSizes$Search", "isBetter", "(II)Z"⟩, 11) := ⟨⟨by decide +kernel, by decide +kernel⟩, List.mem_of_getElem? (i := 84) (by decide +kernel), List.mem_of_getElem? (i := 216) (by decide +kernel), List.mem_of_getElem? (i := 217) (by decide +kernel)⟩
theorem lw_p7 : lw_okq (⟨"java/lang/Throwable", "fillInStackTrace", "(I)Ljava/lang/Throwable;"⟩, 6) := ⟨⟨by decide +kernel, by decide +kernel⟩, List.mem_of_getElem? (i := 273) (by decide +kernel), List.mem_of_getElem? (i := 271) (by decide +kernel), List.mem_of_getElem? (i := 272) (by decide +kernel)⟩
theorem lw_p8 : lw_okq (⟨"DuctSizes$Network", "sumFlows", "()V"⟩, 10) := ⟨⟨by decide +kernel, by decide +kernel⟩, List.mem_of_getElem? (i := 21) (by decide +kernel), List.mem_of_getElem? (i := 334) (by decide +kernel), List.mem_of_getElem? (i := 335) (by decide +kernel)⟩
theorem lw_p9 : lw_okq (⟨"DuctSizes", "changeSpeedLimit", "(I)I"⟩, 6) := ⟨⟨by decide +kernel, by decide +kernel⟩, List.mem_of_getElem? (i := 13) (by decide +kernel), List.mem_of_getElem? (i := 357) (by decide +kernel), List.mem_of_getElem? (i := 358) (by decide +kernel)⟩
theorem lw_p10 : lw_okq (⟨"DuctSizes", "changeEnergyPrice", "(I)I"⟩, 6) := ⟨⟨by decide +kernel, by decide +kernel⟩, List.mem_of_getElem? (i := 13) (by decide +kernel), List.mem_of_getElem? (i := 362) (by decide +kernel), List.mem_of_getElem? (i := 363) (by decide +kernel)⟩
theorem lw_p11 : lw_okq (⟨"DuctSizesModel", "isDuct", "(I)Z"⟩, 22) := ⟨⟨by decide +kernel, by decide +kernel⟩, List.mem_of_getElem? (i := 433) (by decide +kernel), List.mem_of_getElem? (i := 525) (by decide +kernel), List.mem_of_getElem? (i := 526) (by decide +kernel)⟩
theorem lw_p12 : lw_okq (⟨"DuctSizesModel", "given", "()I"⟩, 22) := ⟨⟨by decide +kernel, by decide +kernel⟩, List.mem_of_getElem? (i := 433) (by decide +kernel), List.mem_of_getElem? (i := 549) (by decide +kernel), List.mem_of_getElem? (i := 550) (by decide +kernel)⟩
theorem lw_p13 : lw_okq (⟨"DuctSizesModel", "flowOf", "(I)J"⟩, 22) := ⟨⟨by decide +kernel, by decide +kernel⟩, List.mem_of_getElem? (i := 433) (by decide +kernel), List.mem_of_getElem? (i := 557) (by decide +kernel), List.mem_of_getElem? (i := 558) (by decide +kernel)⟩
theorem lw_p14 : lw_okq (⟨"DuctSizesModel", "isBelow", "(II)Z"⟩, 22) := ⟨⟨by decide +kernel, by decide +kernel⟩, List.mem_of_getElem? (i := 433) (by decide +kernel), List.mem_of_getElem? (i := 561) (by decide +kernel), List.mem_of_getElem? (i := 562) (by decide +kernel)⟩
theorem lw_p15 : lw_okq (⟨"DuctSizesModel", "speedOf", "(II)J"⟩, 22) := ⟨⟨by decide +kernel, by decide +kernel⟩, List.mem_of_getElem? (i := 433) (by decide +kernel), List.mem_of_getElem? (i := 569) (by decide +kernel), List.mem_of_getElem? (i := 570) (by decide +kernel)⟩
def lw_privs_1 : List (MethodName × Nat) := [(⟨"DuctSizes$Curve", "pressureBefore", "(II)I"⟩, 3), (⟨"DuctSizes", "bestChoice", "()LDuctSizes$Search;"⟩, 6), (⟨"DuctSizes$Search", "noteFalls", "()V"⟩, 11), (⟨"DuctSizes$Search", "placeFrom", "(III)V"⟩, 11), (⟨"DuctSizes$Search", "keepTrial", "(II)V"⟩, 11), (⟨"DuctSizes$Search", "placeSize", "(IIII)V"⟩, 11), (⟨"DuctSizes$Search", "isBetter", "(II)Z"⟩, 11), (⟨"java/lang/Throwable", "fillInStackTrace", "(I)Ljava/lang/Throwable;"⟩, 6), (⟨"DuctSizes$Network", "sumFlows", "()V"⟩, 10), (⟨"DuctSizes", "changeSpeedLimit", "(I)I"⟩, 6), (⟨"DuctSizes", "changeEnergyPrice", "(I)I"⟩, 6), (⟨"DuctSizesModel", "isDuct", "(I)Z"⟩, 22), (⟨"DuctSizesModel", "given", "()I"⟩, 22), (⟨"DuctSizesModel", "flowOf", "(I)J"⟩, 22), (⟨"DuctSizesModel", "isBelow", "(II)Z"⟩, 22), (⟨"DuctSizesModel", "speedOf", "(II)J"⟩, 22)]
theorem lw_r1 : ∀ q ∈ lw_privs_1, lw_okq q := List.forall_mem_cons.mpr ⟨lw_p0, List.forall_mem_cons.mpr ⟨lw_p1, List.forall_mem_cons.mpr ⟨lw_p2, List.forall_mem_cons.mpr ⟨lw_p3, List.forall_mem_cons.mpr ⟨lw_p4, List.forall_mem_cons.mpr ⟨lw_p5, List.forall_mem_cons.mpr ⟨lw_p6, List.forall_mem_cons.mpr ⟨lw_p7, List.forall_mem_cons.mpr ⟨lw_p8, List.forall_mem_cons.mpr ⟨lw_p9, List.forall_mem_cons.mpr ⟨lw_p10, List.forall_mem_cons.mpr ⟨lw_p11, List.forall_mem_cons.mpr ⟨lw_p12, List.forall_mem_cons.mpr ⟨lw_p13, List.forall_mem_cons.mpr ⟨lw_p14, List.forall_mem_cons.mpr ⟨lw_p15, fun _ h => absurd h List.not_mem_nil⟩⟩⟩⟩⟩⟩⟩⟩⟩⟩⟩⟩⟩⟩⟩⟩
theorem lw_p16 : lw_okq (⟨"DuctSizesModel", "fallOf", "(II)J"⟩, 22) := ⟨⟨by decide +kernel, by decide +kernel⟩, List.mem_of_getElem? (i := 433) (by decide +kernel), List.mem_of_getElem? (i := 573) (by decide +kernel), List.mem_of_getElem? (i := 574) (by decide +kernel)⟩
theorem lw_p17 : lw_okq (⟨"DuctSizesModel", "findBest", "()V"⟩, 22) := ⟨⟨by decide +kernel, by decide +kernel⟩, List.mem_of_getElem? (i := 433) (by decide +kernel), List.mem_of_getElem? (i := 582) (by decide +kernel), List.mem_of_getElem? (i := 583) (by decide +kernel)⟩
theorem lw_p18 : lw_okq (⟨"DuctSizesModel", "findFalls", "()V"⟩, 22) := ⟨⟨by decide +kernel, by decide +kernel⟩, List.mem_of_getElem? (i := 433) (by decide +kernel), List.mem_of_getElem? (i := 586) (by decide +kernel), List.mem_of_getElem? (i := 587) (by decide +kernel)⟩
theorem lw_p19 : lw_okq (⟨"DuctSizesModel", "ways", "()I"⟩, 22) := ⟨⟨by decide +kernel, by decide +kernel⟩, List.mem_of_getElem? (i := 433) (by decide +kernel), List.mem_of_getElem? (i := 591) (by decide +kernel), List.mem_of_getElem? (i := 592) (by decide +kernel)⟩
theorem lw_p20 : lw_okq (⟨"DuctSizesModel", "look", "(I)J"⟩, 22) := ⟨⟨by decide +kernel, by decide +kernel⟩, List.mem_of_getElem? (i := 433) (by decide +kernel), List.mem_of_getElem? (i := 595) (by decide +kernel), List.mem_of_getElem? (i := 596) (by decide +kernel)⟩
theorem lw_p21 : lw_okq (⟨"DuctSizesModel", "price", "()J"⟩, 22) := ⟨⟨by decide +kernel, by decide +kernel⟩, List.mem_of_getElem? (i := 433) (by decide +kernel), List.mem_of_getElem? (i := 599) (by decide +kernel), List.mem_of_getElem? (i := 600) (by decide +kernel)⟩
def lw_privs_2 : List (MethodName × Nat) := [(⟨"DuctSizesModel", "fallOf", "(II)J"⟩, 22), (⟨"DuctSizesModel", "findBest", "()V"⟩, 22), (⟨"DuctSizesModel", "findFalls", "()V"⟩, 22), (⟨"DuctSizesModel", "ways", "()I"⟩, 22), (⟨"DuctSizesModel", "look", "(I)J"⟩, 22), (⟨"DuctSizesModel", "price", "()J"⟩, 22)]
theorem lw_r2 : ∀ q ∈ lw_privs_2, lw_okq q := List.forall_mem_cons.mpr ⟨lw_p16, List.forall_mem_cons.mpr ⟨lw_p17, List.forall_mem_cons.mpr ⟨lw_p18, List.forall_mem_cons.mpr ⟨lw_p19, List.forall_mem_cons.mpr ⟨lw_p20, List.forall_mem_cons.mpr ⟨lw_p21, fun _ h => absurd h List.not_mem_nil⟩⟩⟩⟩⟩⟩
def lw_privs : List (MethodName × Nat) := lw_privs_1 ++ (lw_privs_2)
def lw_tbl : List Cond := k2_sels lw_privs ++ tables_1
theorem lw_privs_ok : ∀ q ∈ lw_privs, lw_okq q := by
  show ∀ q ∈ lw_privs_1 ++ (lw_privs_2), lw_okq q
  exact List.forall_mem_append.mpr ⟨lw_r1, lw_r2⟩
/-- the class of arrays of arrays of t is there -/
def va_AOA (t : FieldType) (U : State) : Prop := (Cond.arrayOver (.array t)).before #[] U = true
theorem va_AOA.use {t : FieldType} {A : Array Value} {U : State} (h : va_AOA t U) : (Cond.arrayOver (.array t)).before A U = true := h
/-! ===== BEGIN words of one list among another's, by their places ===== -/
theorem goodIn_r {big : List Cond} (ws : List Cond) (ps : List Nat) (hp : ws = ps.filterMap (fun i => big[i]?)) (h : ws.all goodWord = true) : GoodIn big ws := by
  intro w hw
  have h1 := List.all_eq_true.mp h w hw
  rw [hp] at hw
  obtain ⟨i, -, hi⟩ := List.mem_filterMap.mp hw
  have hm : w ∈ big := by first | exact List.mem_of_getElem? hi | exact List.getElem?_mem hi
  exact ⟨hm, good_of_word h1⟩
theorem goodIn_app {big a b : List Cond} (ha : GoodIn big a) (hb : GoodIn big b) : GoodIn big (a ++ b) := fun w h => (List.mem_append.mp h).elim (ha w) (hb w)
theorem goodIn_ca {big a b : List Cond} {c : Cond} (ha : GoodIn big (c :: a)) (hb : GoodIn big b) : GoodIn big (c :: (a ++ b)) := fun w h => (List.mem_cons.mp h).elim (fun e => ha w (List.mem_cons.mpr (Or.inl e))) (fun h => (List.mem_append.mp h).elim (fun h => ha w (List.mem_cons.mpr (Or.inr h))) (hb w))
theorem goodIn_sub {big ws : List Cond} (hm : ∀ w ∈ ws, w ∈ big) (h : ws.all goodWord = true) : GoodIn big ws := fun w hw => ⟨hm w hw, good_of_word (List.all_eq_true.mp h w hw)⟩
/-! ===== END ===== -/

/-! ===== BEGIN new T[n][m]: the outer array a place, the inner ones among the pooled ===== -/
/-- f, but v at every address of l -/
def vr_up {α : Type} (f : Nat → α) (l : List Nat) (v : α) : Nat → α := fun a => if a ∈ l then v else f a
theorem vr_up_in {α : Type} {f : Nat → α} {l : List Nat} {v : α} {a : Nat} (h : a ∈ l) : vr_up f l v a = v := if_pos h
theorem vr_up_ne {α : Type} {f : Nat → α} {l : List Nat} {v : α} {a : Nat} (h : a ∉ l) : vr_up f l v a = f a := if_neg h
theorem vr_rows {L l : List Nat} {f : Nat → va_E} {e : va_E} (h : ∀ a, a ∈ l → a ∉ L) : va_pl L f ++ l.map (fun a => (a, e)) = va_pl (L ++ l) (vr_up f l e) := by
  unfold va_pl
  rw [List.map_append]
  congr 1
  · apply List.map_congr_left
    intro a ha
    rw [vr_up_ne (fun q => h a q ha)]
  · apply List.map_congr_left
    intro a ha
    rw [vr_up_in ha]
theorem vr_lay {X rows : va_W} {x : Nat × va_E} {pl : va_W} {D : va_G} {cl : List vw_C} {H : Heap} (hP : va_P D cl (((X ++ pl) ++ [x]) ++ rows) H) : va_P D cl ((X ++ [x]) ++ (pl ++ rows)) H := by
  rw [List.append_assoc (X ++ pl)] at hP
  have h := va_P.swap hP
  rw [← List.append_assoc X] at h
  have h2 := va_P.swap h
  rw [List.append_assoc (X ++ [x])] at h2
  exact h2
theorem vr_layD {X rows : va_W} {x : Nat × va_E} {pl : va_W} {A : Nat → Prop} (hD : va_D A (((X ++ pl) ++ [x]) ++ rows)) : va_D A ((X ++ [x]) ++ (pl ++ rows)) := by
  rw [List.append_assoc (X ++ pl)] at hD
  have h := va_D.swap hD
  rw [← List.append_assoc X] at h
  have h2 := va_D.swap h
  rw [List.append_assoc (X ++ [x])] at h2
  exact h2
theorem vr_outer (c : ClassId) (N h0 : Nat) : ∀ i : Nat, Jvm.Free.Multi.outerC c N h0 i = arrV c N (fun j => va_rf (if j < i then some (h0 + 1 + j) else none))
  | 0 => by
    show ({ cls := c, slots := Array.replicate N .null, vm := .none } : Cell) = _
    rw [arrV_new]
    refine congrArg (arrV c N) (funext fun j => ?_)
    simp [va_rf]
  | i + 1 => by
    show (Jvm.Free.Multi.outerC c N h0 i).setSlot i (.ref (h0 + 1 + i)) = _
    rw [vr_outer c N h0 i, arrV_store]
    refine congrArg (arrV c N) (funext fun j => ?_)
    by_cases e : j = i
    · subst e
      simp [updV, va_rf]
    · by_cases h : j < i
      · simp [updV, e, h, Nat.lt_succ_of_lt h]
      · simp [updV, e, h, show ¬ j < i + 1 by omega]
section VGM
variable {p : Program} {l : Launch} {e : Env} {R : Room} {s : State} {m : MethodId} {args : Array Value} {below : List Frame} {meth : Method} {c : Code} {H : Heap} {locs : List Loc} {cells slots : Nat} {Q : State → Prop}
variable {cc : ByteArray} {pc : Nat} {ls : Array Slot} {rest : List Value} {D : va_G} {cl : List vw_C} {A : Nat → Prop} {a : Nat} {tys : List (ClassId × FieldType)} {ws : va_W} {H0 : Heap}
theorem va_mna {X : va_W} {L : List Nat} {f : Nat → va_E} {cc : ByteArray} (hexec : p.tables.exec = Jvm.exec) (hb : c.code = cc) {own : String} {index : Nat} {ty : FieldType} {cy : ClassId} (hown : s.vm.findClass own = some m.cls) (hclink : (Cond.classLink own index ("[" ++ (FieldType.array ty).toString)).before args s = true) (hover : va_AOA ty s) (harr : (Cond.arrayClass ty).before args s = true) (hcy : s.vm.findClass (FieldType.array ty).toString = some cy)
    (hK : va_K D cl tys s) (hP : va_P D cl (X ++ va_pl L f) H) (hD : va_D A (X ++ va_pl L f)) (hS : va_S A H0 H locs) (hA : ∀ q, H0.size ≤ q → A q) {n k : Int32} {N' K' : Nat} {z : vp_A} (hn : ¬ n < 0) (hk : ¬ k < 0) (hN : n.toNatClampNeg = N') (hM : k.toNatClampNeg = K')
    (hb1 : N' * 4 ≤ 536870912) (hb2 : K' * componentBytes ty ≤ 536870912) (hb3 : K' ≤ 536870912) (hdf : fits ty (defaultValue ty) = true) (hdd : (defaultValue ty).isDefault = true) (hcells : cells + (1 + N') ≤ R.cells) (hslots : slots + (N' + N' * K') ≤ R.slots) (hz : ∀ c : ClassId, Jvm.Free.Multi.innerC c K' (defaultValue ty) = vp_cell c z) (hdg : decode cc pc = .ok (.multianewarray index 2, 4))
    (kk : ∀ (q : Nat) (r : Nat → Nat) (cA : ClassId) (H1 : Heap), (∀ i j : Nat, i < N' → j < N' → r i = r j → i = j) → (∀ i : Nat, i < N' → r i ∉ L) → va_K D cl (tys ++ [(cA, .array ty)]) s →
      va_P D cl ((X ++ [(q, .inl (cA, N', .inr (.inr (.inr (.inr (fun i => if i < N' then some (r i) else none))))))]) ++ va_pl (L ++ (List.range N').map r) (vr_up f ((List.range N').map r) (.inl (cy, z)))) H1 → va_D A ((X ++ [(q, .inl (cA, N', .inr (.inr (.inr (.inr (fun i => if i < N' then some (r i) else none))))))]) ++ va_pl (L ++ (List.range N').map r) (vr_up f ((List.range N').map r) (.inl (cy, z)))) → va_S A H0 H1 locs →
      W p l e R s m args below meth c H1 locs (cells + 1 + N') (slots + N' + N' * K') Q (F0 m (pc + 4) ls (.ref q :: rest))) : W p l e R s m args below meth c H locs cells slots Q (F0 m pc ls (.int k :: .int n :: rest)) := by
  subst hN
  subst hM
  intro T hT Xs
  obtain ⟨vm₁, cA, comp, -, fA, fC, hO, -, X', step⟩ := Xs.multianewarray2F hexec hown hclink (va_AOA.use hover) harr (g := F0 m pc ls (.int k :: .int n :: rest)) rfl (by rw [hb]; exact hdg) rfl hn hk hb1 hb2 hb3 hdf hdd hcells hslots
  have ec : some cy = some comp := hcy.symm.trans fC
  cases ec
  generalize hF : Jvm.Free.Multi.fill (T.setVm vm₁) cA cy n.toNatClampNeg k.toNatClampNeg (defaultValue ty) n.toNatClampNeg = F at X' step
  have hTh : (T.setVm vm₁).heap = H := hT
  obtain ⟨f1, f2, -, -⟩ := Jvm.Free.Multi.fill_facts (T.setVm vm₁) cA cy n.toNatClampNeg k.toNatClampNeg (defaultValue ty) n.toNatClampNeg
  rw [hF, hTh] at f1 f2
  have hold : ∀ x : Nat, x < H.size → F.heap[x]? = H[x]? := fun x hx => by
    have := Jvm.Free.Multi.fill_old (T.setVm vm₁) cA cy n.toNatClampNeg k.toNatClampNeg (defaultValue ty) (a := x) (by rw [hTh]; exact hx) n.toNatClampNeg
    rw [hF, hTh] at this
    exact this
  have hrow : ∀ j : Nat, j < n.toNatClampNeg → F.heap[H.size + 1 + j]? = some (vp_cell cy z) := fun j hj => by
    have := Jvm.Free.Multi.fill_inner (T.setVm vm₁) cA cy n.toNatClampNeg k.toNatClampNeg (defaultValue ty) n.toNatClampNeg j hj
    rw [hF, hTh, hz] at this
    exact this
  have hout : Jvm.Free.Multi.outerC cA n.toNatClampNeg H.size n.toNatClampNeg = vp_cell cA (n.toNatClampNeg, .inr (.inr (.inr (.inr (fun i => if i < n.toNatClampNeg then some (H.size + 1 + i) else none))))) := by
    rw [vp_cell_q]
    exact vr_outer cA n.toNatClampNeg H.size n.toNatClampNeg
  rw [hout] at f2
  have hlt : ∀ a, a ∈ L → a < H.size := fun a ha => by
    obtain ⟨k9, hk9⟩ := va_pl_get (X := X) (f := f) ha
    exact (hP k9 _ hk9).lt
  have hnl : ∀ i : Nat, i < n.toNatClampNeg → H.size + 1 + i ∉ L := fun i _ h => by
    have := hlt _ h
    omega
  have hnm : ∀ a, a ∈ (List.range n.toNatClampNeg).map (fun i => H.size + 1 + i) → a ∉ L := fun a ha h => by
    obtain ⟨i, -, rfl⟩ := List.mem_map.mp ha
    have := hlt _ h
    omega
  have hP0 : va_P D cl (X ++ va_pl L f) F.heap := hP.kept (fun k9 x hx => hold x.1 ((hP k9 x hx).lt))
  have hP1 : va_P D cl ((X ++ va_pl L f) ++ [(H.size, .inl (cA, n.toNatClampNeg, .inr (.inr (.inr (.inr (fun i => if i < n.toNatClampNeg then some (H.size + 1 + i) else none))))))]) F.heap := hP0.app (fun k9 x hx => by
    have h0 : k9 < 1 := (List.getElem?_eq_some_iff.mp hx).1
    rw [show k9 = 0 by omega] at hx
    cases hx
    exact f2)
  have hP2 : va_P D cl (((X ++ va_pl L f) ++ [(H.size, .inl (cA, n.toNatClampNeg, .inr (.inr (.inr (.inr (fun i => if i < n.toNatClampNeg then some (H.size + 1 + i) else none))))))]) ++ ((List.range n.toNatClampNeg).map (fun i => H.size + 1 + i)).map (fun a => (a, .inl (cy, z)))) F.heap := hP1.app (fun k9 x hx => by
    obtain ⟨a, ha, rfl⟩ := List.mem_map.mp (List.mem_of_getElem? hx)
    obtain ⟨i, hi, rfl⟩ := List.mem_map.mp ha
    exact hrow i (List.mem_range.mp hi))
  have hD2 : va_D A (((X ++ va_pl L f) ++ [(H.size, .inl (cA, n.toNatClampNeg, .inr (.inr (.inr (.inr (fun i => if i < n.toNatClampNeg then some (H.size + 1 + i) else none))))))]) ++ ((List.range n.toNatClampNeg).map (fun i => H.size + 1 + i)).map (fun a => (a, .inl (cy, z)))) := by
    have hD1 := hD.push (e := .inl (cA, n.toNatClampNeg, .inr (.inr (.inr (.inr (fun i => if i < n.toNatClampNeg then some (H.size + 1 + i) else none)))))) hP rfl (hA _ hS.1)
    generalize hW1 : (X ++ va_pl L f) ++ [(H.size, .inl (cA, n.toNatClampNeg, .inr (.inr (.inr (.inr (fun i => if i < n.toNatClampNeg then some (H.size + 1 + i) else none))))))] = W1 at hD1 hP1 ⊢
    have hle : ∀ (k9 : Nat) (x : Nat × va_E), W1[k9]? = some x → x.1 ≤ H.size := fun k9 x hx => by
      rw [← hW1] at hx
      by_cases hl : k9 < (X ++ va_pl L f).length
      · rw [List.getElem?_append_left hl] at hx
        exact Nat.le_of_lt ((hP k9 x hx).lt)
      · rw [List.getElem?_append_right (by omega)] at hx
        have h0 : k9 - (X ++ va_pl L f).length < 1 := (List.getElem?_eq_some_iff.mp hx).1
        rw [show k9 - (X ++ va_pl L f).length = 0 by omega] at hx
        cases hx
        exact Nat.le_refl _
    have hr : ∀ (k9 : Nat) (x : Nat × va_E), (((List.range n.toNatClampNeg).map (fun i => H.size + 1 + i)).map (fun a => ((a, .inl (cy, z)) : Nat × va_E)))[k9]? = some x → x.1 = H.size + 1 + k9 := fun k9 x hx => by
      rw [List.getElem?_map, List.getElem?_map] at hx
      by_cases h9 : k9 < n.toNatClampNeg
      · rw [List.getElem?_range h9] at hx
        cases hx
        rfl
      · have hn0 : (List.range n.toNatClampNeg)[k9]? = none := List.getElem?_eq_none (by rw [List.length_range]; omega)
        rw [hn0] at hx
        cases hx
    refine ⟨fun i j x y hi hj hxy => ?_, fun k9 x hx => ?_⟩
    · by_cases h1 : i < W1.length <;> by_cases h2 : j < W1.length
      · rw [List.getElem?_append_left h1] at hi
        rw [List.getElem?_append_left h2] at hj
        exact hD1.1 i j x y hi hj hxy
      · rw [List.getElem?_append_left h1] at hi
        rw [List.getElem?_append_right (by omega)] at hj
        have := hle _ _ hi
        have := hr _ _ hj
        omega
      · rw [List.getElem?_append_right (by omega)] at hi
        rw [List.getElem?_append_left h2] at hj
        have := hle _ _ hj
        have := hr _ _ hi
        omega
      · rw [List.getElem?_append_right (by omega)] at hi hj
        have := hr _ _ hi
        have := hr _ _ hj
        omega
    · by_cases h1 : k9 < W1.length
      · rw [List.getElem?_append_left h1] at hx
        exact hD1.2 k9 x hx
      · rw [List.getElem?_append_right (by omega)] at hx
        have := hr _ _ hx
        exact hA _ (by have := hS.1; omega)
  have hAr : ArrOfT s cA (.array ty) := fun N9 z9 => by
    obtain ⟨-, k9, hk9, cm9, hkk9⟩ := (hO 0 0 0).1
    exact ⟨(fun q hq => by cases hq), k9, hk9, cm9, hkk9⟩
  have hK2 : va_K D cl (tys ++ [(cA, .array ty)]) s := ⟨hK.1, fun k9 x hx => by
    by_cases hl : k9 < tys.length
    · rw [List.getElem?_append_left hl] at hx
      exact hK.2 k9 x hx
    · rw [List.getElem?_append_right (by omega)] at hx
      have h0 : k9 - tys.length < 1 := (List.getElem?_eq_some_iff.mp hx).1
      rw [show k9 - tys.length = 0 by omega] at hx
      cases hx
      exact ⟨hAr, fA⟩⟩
  obtain ⟨t, a1, b1⟩ := kk H.size (fun i => H.size + 1 + i) cA F.heap (fun i j _ _ h => by have h9 : H.size + 1 + i = H.size + 1 + j := h; omega) hnl hK2 (by rw [← vr_rows hnm]; exact vr_lay hP2) (by rw [← vr_rows hnm]; exact vr_layD hD2) ⟨by rw [f1]; have := hS.1; omega, fun x h1 h2 => (hold x (Nat.lt_of_lt_of_le h1 hS.1)).trans (hS.2.1 x h1 h2), hS.2.2⟩ F rfl X'
  refine ⟨t, step t ?_, b1⟩
  have e : T.heap.size = H.size := by rw [hT]
  rw [e]
  exact a1
end VGM
/-! ===== END ===== -/

/-! ===== BEGIN exceptions that leave a method, and their catching by the caller (launches without stack traces) ===== -/
section VXA
/-! The laws vx_back, vx_callV, vx_callS, vx_callSW, vx_throw0, vx_throwS follow proofs of the library, with one case more: JvmDerived/Free/Laws.lean (Back.of_free), Shelf42/LK1.lean (callV, callS), Shelf/KitTraced.lean (throwNew0V, throwNewS). -/
/-- where a method has thrown q: the class by its name, the cell, what was written, the world -/
def vx_T (XC : String → State → State → Prop) (st : State) (q : Addr) (t : State) (mc ms : Nat) (free : Addr → Prop) : Prop :=
  ∃ (E : String) (ce : Cell) (L : List Loc), XC E st t ∧ t.heap[q]? = some ce ∧ ce.vm = .none ∧ st.vm.findClass E = some ce.cls ∧ st.WarmedH t.vm ∧ st.sameButNew ({ t with vm := st.vm } : State) L mc ms ∧ ∀ z ∈ L, free z.base
def vx_Q (Qc : Array Value → State → Outcome → State → Prop) (XC : String → State → State → Prop) (mc ms : Nat) (free : Addr → Prop) : Array Value → State → Outcome → State → Prop := fun a st o t =>
  (Qc a st o t ∧ ∃ L, FrameEnd st o t L mc ms ∧ ∀ q ∈ L, free q.base) ∨ ∃ q, o = .threw q ∧ vx_T XC st q t mc ms free
/-- a callee that returns or throws -/
def vx_Met (l : Launch) (y : MethodName) (ws : List Cond) (rm : Room) (Pc : Array Value → State → Prop) (Qc : Array Value → State → Outcome → State → Prop) (XC : String → State → State → Prop) (mc ms : Nat) (free : Addr → Prop) : Prop :=
  MetFree l y (headSpec ws rm) Pc (fun _ _ _ _ _ => True) (vx_Q Qc XC mc ms free)
def vx_Post (XC : String → State → State → Prop) (mc ms : Nat) (free : Addr → Prop) : Pt → Array Value → Addr → Pt → Prop := fun A a q B =>
  ∃ (g : JFrame) (mk : MethodId) (t : State) (L : List Loc) (E : String) (ce : Cell), B.U.heap = t.heap ∧ B.U.vm = t.vm ∧ XC E (A.U.calling g mk a) t ∧ t.heap[q]? = some ce ∧ ce.vm = .none ∧ A.U.vm.findClass E = some ce.cls ∧ B.locs = A.locs ++ L ∧ (∀ z ∈ L, free z.base) ∧ B.cells = A.cells + mc ∧ B.slots = A.slots + ms
def vx_Back (l : Launch) (R : Room) (p : Program) (e : Env) (below : List Frame) (s : State) (sargs : Array Value) (y : MethodName) (len W9 : Nat)
    (Pre : Pt → Array Value → Prop) (Post : Pt → Array Value → Option Value → Pt → Prop) (PostX : Pt → Array Value → Addr → Pt → Prop) : Prop :=
  ∀ (m : MethodId) (meth : Method) (c : Code) (A : Pt) (g : JFrame) (ig : Instr) (mk : MethodId) (a : Array Value),
    Stand p l e R s m sargs below meth c A.U A.locs A.cells A.slots → g.method = m → g.locals.size = c.maxLocals → decode c.code g.pc = .ok (ig, len) →
    2 * g.monitorRoom + (g.stack.map fun v => v.category).sum ≤ W9 → A.U.methodNamed? y = some mk → Pre A a →
    (∃ (v : Option Value) (B : Pt), Stand p l e R s m sargs below meth c B.U B.locs B.cells B.slots ∧ Post A a v B ∧
      Steps p.tables e below (doInvoke e (A.U.setTop g) [] mk a).1 (B.U.setTop { g with pc := g.pc + len, stack := v.toList ++ g.stack })) ∨
    (∃ (q : Addr) (B : Pt), Stand p l e R s m sargs below meth c B.U B.locs B.cells B.slots ∧ PostX A a q B ∧
      Steps p.tables e below (doInvoke e (A.U.setTop g) [] mk a).1 ((B.U.setTop g).pushFrame (.throwing q)))
section Payer
variable {l : Launch} {R : Room} {p : Program} {e : Env} {below : List Frame} {s : State} {sargs : Array Value} {y : MethodName} {len W9 : Nat}
theorem vx_back {ws : List Cond} {rm : Room} {Pc : Array Value → State → Prop} {Qc : Array Value → State → Outcome → State → Prop} {XC : String → State → State → Prop} {mc ms : Nat} {free : Addr → Prop} {bytes : ByteArray} {maxL : Nat} {ret : Option FieldType}
    (hM : vx_Met l y ws rm Pc Qc XC mc ms free) (hblind : FrameBlind Pc) (hrc : rm.cells = mc) (hrs : rm.slots = ms)
    (hframes : rm.frames + 1 ≤ R.frames) (hlocals : W9 + (maxL + 11) + rm.locals ≤ R.locals)
    (hws : ∀ w ∈ ws, ∀ a' U, s.WarmedH U.vm → w.before a' U = true) (hcode : Cond.code y bytes maxL ret ∈ ws) (hinit : ∀ a' U, s.WarmedH U.vm → (Cond.initialized y.cls).before a' U = true) :
    vx_Back l R p e below s sargs y len W9 (PreOf R mc ms Pc) (PostOf Qc mc ms free) (vx_Post XC mc ms free) := by
  intro m meth c A g ig mk a X hg hsize hdg hW hn hp
  have h1 : (headSpec ws rm).pre.before a A.U = true := atoms_intro fun w hw => hws w hw _ _ X.warmed
  have h2 : (Cond.code y bytes maxL ret).before a A.U = true := hws _ hcode _ _ X.warmed
  have h3 : (Cond.initialized y.cls).before a A.U = true := hinit _ _ X.warmed
  have h4 : A.cells + (headSpec ws rm).room.cells ≤ R.cells := by rw [show (headSpec ws rm).room.cells = mc from hrc]; exact hp.1
  have h5 : A.slots + (headSpec ws rm).room.slots ≤ R.slots := by rw [show (headSpec ws rm).room.slots = ms from hrs]; exact hp.2.1
  have hPc : Pc a (A.U.calling g mk a) := hblind _ _ _ _ hp.2.2
  obtain ⟨U, Ls, c0, s0⟩ := A
  dsimp only [Pt.U, Pt.locs, Pt.cells, Pt.slots] at h1 h2 h3 h4 h5 X hn hPc ⊢
  obtain ⟨methY, cY, hmY, hcY, -, hlY, -, -, -, -⟩ := Cond.code_spec hn h2
  obtain ⟨kY, hkY, -⟩ := className_of_methodNamed hn
  have hinitY : kY.init = .initialized := Cond.initialized_spec (findClass_of_methodNamed hn) hkY h3
  have h : At U g.method c below := by rw [hg]; exact X.here
  have hlocals9 : W9 + (maxL + 11) + (headSpec ws rm).room.locals ≤ R.locals := hlocals
  have happ : (headSpec ws rm).appliesLoose y e.platform (U.calling g mk a) = true :=
    Spec.appliesLoose_calling (g := g) h hdg hn hkY hinitY
      (X.room_calling (g := g) (R' := (headSpec ws rm).room) hsize hmY hcY hframes (by rw [hlY]; omega) h4 h5) h1
  obtain ⟨mid, hmid⟩ := h.above
  have hfr : (U.setTop g).frames = (.java g :: mid) ++ below := by rw [State.frames_setTop' g h.top, hmid]; rfl
  obtain ⟨o, s₂, hsteps, -, hend, hq⟩ := Steps.callFree hM p X.admits X.cas X.clock (acts := []) hfr happ hPc trivial
  have hq' : vx_Q Qc XC mc ms free a (U.calling g mk a) o s₂ := hq
  rw [State.frames_setTop' g h.top] at hend
  obtain ⟨g₀, hg0⟩ := Option.isSome_iff_exists.mp h.top
  obtain ⟨r, hr⟩ := State.topJava?_eq_some.mp hg0
  have hr' : (({ U with heap := s₂.heap, slotsUsed := s₂.slotsUsed } : State).setVm s₂.vm).frames = .java g₀ :: r := hr
  rcases hq' with ⟨hqc, L, hfe, hL⟩ | ⟨q, rfl, E, ce, L, hx, hce, hcv, hcl, hW₂, hsm, hL⟩
  · obtain ⟨⟨v, rfl⟩, hW₂, e2, q2, q3, q4, q5, q6⟩ := id hfe
    have e3 : s₂ = ({ (U.calling g mk a).setFrames s₂.frames with heap := s₂.heap, slotsUsed := s₂.slotsUsed } : State).setVm s₂.vm := by
      have : s₂ = ({ s₂ with vm := (U.calling g mk a).vm } : State).setVm s₂.vm := rfl
      rw [e2] at this
      exact this
    obtain ⟨c₂, i₂, len₂, hc₂, hd₂, hf₂⟩ := hend
    have hW' : U.WarmedH s₂.vm := hW₂
    have hcc : c₂ = c := by
      have h1 : s₂.code? g.method = U.code? g.method := by
        rw [State.code?_eq, State.code?_eq, hW'.alike.method?]
      exact Option.some.inj (hc₂.symm.trans (h1.trans h.code))
    subst hcc
    have hlen : len₂ = len := by rw [hdg] at hd₂; cases hd₂; rfl
    subst hlen
    have hs₂ : s₂ = (({ U with heap := s₂.heap, slotsUsed := s₂.slotsUsed } : State).setVm s₂.vm).setTop { g with pc := g.pc + len₂, stack := v.toList ++ g.stack } := by
      refine e3.trans ?_
      rw [hf₂, State.calling_eq h.top, State.setFrames_setFrames, State.setTop_of_frames _ hr', hr]
      rfl
    have hsame : U.sameButNew ({ U with heap := s₂.heap, slotsUsed := s₂.slotsUsed } : State) L mc ms := by
      refine ⟨?_, q2, q3, q4, q5, q6⟩
      obtain ⟨t, ht, -⟩ := State.frames_cons hr
      show ({ U with heap := s₂.heap, slotsUsed := s₂.slotsUsed } : State) = { U.setFrames U.frames with heap := s₂.heap, slotsUsed := s₂.slotsUsed }
      rw [State.setFrames_self ht]
    subst hg
    refine Or.inl ⟨v, ⟨(({ U with heap := s₂.heap, slotsUsed := s₂.slotsUsed } : State).setVm s₂.vm), Ls ++ L, c0 + mc, s0 + ms⟩,
      ⟨X.admits, X.cas, X.clock, X.frames, X.room, X.hears, X.method, X.code, (X.here.setHeapUsed s₂.heap s₂.slotsUsed).setVm hW'.alike, X.tail, State.WarmedH.trans X.warmed hW', X.limits, X.bytes, X.same.trans (hsame.setVm s.vm)⟩,
      ⟨g, mk, s₂, L, rfl, rfl, hqc, rfl, hL, rfl, rfl⟩, ?_⟩
    show Steps p.tables e below _ ((({ U with heap := s₂.heap, slotsUsed := s₂.slotsUsed } : State).setVm s₂.vm).setTop { g with pc := g.pc + len₂, stack := v.toList ++ g.stack })
    rw [← hs₂]
    exact hsteps
  · obtain ⟨e2, q2, q3, q4, q5, q6⟩ := id hsm
    have e3 : s₂ = ({ (U.calling g mk a).setFrames s₂.frames with heap := s₂.heap, slotsUsed := s₂.slotsUsed } : State).setVm s₂.vm := by
      have : s₂ = ({ s₂ with vm := (U.calling g mk a).vm } : State).setVm s₂.vm := rfl
      rw [e2] at this
      exact this
    have hf₂ : s₂.frames = .throwing q :: .java g :: U.frames.tail := hend
    have hW' : U.WarmedH s₂.vm := hW₂
    have hs₂ : s₂ = ((({ U with heap := s₂.heap, slotsUsed := s₂.slotsUsed } : State).setVm s₂.vm).setTop g).pushFrame (.throwing q) := by
      refine e3.trans ?_
      rw [hf₂, State.calling_eq h.top, State.setFrames_setFrames, State.pushFrame, State.frames_setTop _ hr', State.setTop_of_frames _ hr', State.setFrames_setFrames, hr]
      rfl
    have hsame : U.sameButNew ({ U with heap := s₂.heap, slotsUsed := s₂.slotsUsed } : State) L mc ms := by
      refine ⟨?_, q2, q3, q4, q5, q6⟩
      obtain ⟨t, ht, -⟩ := State.frames_cons hr
      show ({ U with heap := s₂.heap, slotsUsed := s₂.slotsUsed } : State) = { U.setFrames U.frames with heap := s₂.heap, slotsUsed := s₂.slotsUsed }
      rw [State.setFrames_self ht]
    subst hg
    refine Or.inr ⟨q, ⟨(({ U with heap := s₂.heap, slotsUsed := s₂.slotsUsed } : State).setVm s₂.vm), Ls ++ L, c0 + mc, s0 + ms⟩,
      ⟨X.admits, X.cas, X.clock, X.frames, X.room, X.hears, X.method, X.code, (X.here.setHeapUsed s₂.heap s₂.slotsUsed).setVm hW'.alike, X.tail, State.WarmedH.trans X.warmed hW', X.limits, X.bytes, X.same.trans (hsame.setVm s.vm)⟩,
      ⟨g, mk, s₂, L, E, ce, rfl, rfl, hx, hce, hcv, hcl, rfl, hL, rfl, rfl⟩, ?_⟩
    show Steps p.tables e below _ (((({ U with heap := s₂.heap, slotsUsed := s₂.slotsUsed } : State).setVm s₂.vm).setTop g).pushFrame (.throwing q))
    rw [← hs₂]
    exact hsteps
end Payer
section Calls
variable {p : Program} {l : Launch} {e : Env} {R : Room} {s : State} {m : MethodId} {args : Array Value} {below : List Frame} {meth : Method} {c : Code} {T : State} {locs : List Loc} {cells slots : Nat}
theorem vx_callV (X : Stand p l e R s m args below meth c T locs cells slots) (hexec : p.tables.exec = Jvm.exec) {own C : String} {index : Nat} {y : MethodName} {bytes : ByteArray} {maxL : Nat} {ret : Option FieldType}
    (hown : s.vm.findClass own = some m.cls) (hlink : (Cond.methodLink own index y).before args s = true) (hinst : (Cond.instanceMethod y).before args s = true) (hsel : (Cond.selects C y y).before args s = true)
    (hcode : (Cond.code y bytes maxL ret).before args s = true) (hy : y.cls ≠ "java/lang/invoke/MethodHandle" ∧ y.cls ≠ "java/lang/invoke/VarHandle")
    {W9 : Nat} {Pre : Pt → Array Value → Prop} {Post : Pt → Array Value → Option Value → Pt → Prop} {PostX : Pt → Array Value → Addr → Pt → Prop} (hK : vx_Back l R p e below s args y 3 W9 Pre Post PostX)
    {b : Addr} {cellB : Cell} (hcell : T.heap[b]? = some cellB) (hobj : cellB.vm.isStatics = false) (hcls : s.vm.findClass C = some cellB.cls)
    {g : JFrame} (hg : g.method = m) (hsize : g.locals.size = c.maxLocals) {argsL rest : List Value} (hlen : ∀ sig, parseMethodDescriptor y.desc = some sig → argsL.length = sig.parameters.length)
    (hstack : g.stack = argsL.reverse ++ .ref b :: rest) (hW : 2 * g.monitorRoom + (rest.map fun v => v.category).sum ≤ W9) (hdg : decode c.code g.pc = .ok (.invokevirtual index, 3))
    (hpre : ∀ vm₁, s.WarmedH vm₁ → Pre ⟨T.setVm vm₁, locs, cells, slots⟩ (Value.ref b :: argsL).toArray) :
    (∃ (v : Option Value) (vm₁ : Vm) (B : Pt), s.WarmedH vm₁ ∧ Stand p l e R s m args below meth c B.U B.locs B.cells B.slots ∧ Post ⟨T.setVm vm₁, locs, cells, slots⟩ (Value.ref b :: argsL).toArray v B ∧
      ∀ target, Steps p.tables e below (B.U.setTop { g with pc := g.pc + 3, stack := v.toList ++ rest }) target → Steps p.tables e below (T.setTop g) target) ∨
    (∃ (q : Addr) (vm₁ : Vm) (B : Pt), s.WarmedH vm₁ ∧ Stand p l e R s m args below meth c B.U B.locs B.cells B.slots ∧ PostX ⟨T.setVm vm₁, locs, cells, slots⟩ (Value.ref b :: argsL).toArray q B ∧
      Steps p.tables e below (T.setTop g) ((B.U.setTop { g with stack := rest }).pushFrame (.throwing q))) := by
  obtain ⟨mk, methM, hnamed, hmethM, hstM, habM⟩ := Cond.instanceMethod_spec hinst
  obtain ⟨methM', cM, hmethM', -, -, -, -, -, -, hsigM⟩ := Cond.code_spec hnamed hcode
  cases hmethM.symm.trans hmethM'
  obtain ⟨c2, r2, m2, q1, q2, q3, q4, kP, hkP, hkPi⟩ := Cond.selects_spec hsel
  cases hcls.symm.trans q1
  cases (State.methodFound?_of_named hnamed hy).symm.trans q2
  cases hnamed.symm.trans q3
  have hselP : selectMethod e.platform s.vm cellB.cls mk = .method mk := by rw [Launch.admits_selectMethod X.admits]; exact q4
  obtain ⟨vm₁, X₁, hstep₁⟩ := X.invokevirtual hexec hown hlink hnamed hmethM hstM hkP hkPi hy (a := b) (cell := cellB) hcell
    (fun z h => by rw [h] at hobj; cases hobj) hselP hmethM habM hkP hkPi (g := g) hg (argsL := argsL) (rest := rest) (hlen _ hsigM) hstack hdg
  rcases hK m meth c ⟨T.setVm vm₁, locs, cells, slots⟩ { g with stack := rest } (.invokevirtual index) mk (Value.ref b :: argsL).toArray X₁ hg hsize hdg hW (X₁.named hnamed) (hpre vm₁ X₁.warmed) with ⟨v, B, X', hpost, hsteps⟩ | ⟨q, B, X', hpost, hsteps⟩
  · exact Or.inl ⟨v, vm₁, B, X₁.warmed, X', hpost, fun target h => hstep₁ _ fun acts => by rw [doInvoke_state]; exact hsteps.trans h⟩
  · exact Or.inr ⟨q, vm₁, B, X₁.warmed, X', hpost, hstep₁ _ fun acts => by rw [doInvoke_state]; exact hsteps⟩
theorem vx_callS (X : Stand p l e R s m args below meth c T locs cells slots) (hexec : p.tables.exec = Jvm.exec) {own : String} {index : Nat} {y : MethodName} {bytes : ByteArray} {maxL : Nat} {ret : Option FieldType}
    (hown : s.vm.findClass own = some m.cls) (hlink : (Cond.methodLink own index y).before args s = true) (hstat : (Cond.static y).before args s = true) (hinit : (Cond.initialized y.cls).before args s = true)
    (hcode : (Cond.code y bytes maxL ret).before args s = true) (hy : y.cls ≠ "java/lang/invoke/MethodHandle" ∧ y.cls ≠ "java/lang/invoke/VarHandle")
    {W9 : Nat} {Pre : Pt → Array Value → Prop} {Post : Pt → Array Value → Option Value → Pt → Prop} {PostX : Pt → Array Value → Addr → Pt → Prop} (hK : vx_Back l R p e below s args y 3 W9 Pre Post PostX)
    {g : JFrame} (hg : g.method = m) (hsize : g.locals.size = c.maxLocals) {argsL rest : List Value} (hlen : ∀ sig, parseMethodDescriptor y.desc = some sig → argsL.length = sig.parameters.length)
    (hstack : g.stack = argsL.reverse ++ rest) (hW : 2 * g.monitorRoom + (rest.map fun v => v.category).sum ≤ W9) (hdg : decode c.code g.pc = .ok (.invokestatic index, 3))
    (hpre : ∀ vm₁, s.WarmedH vm₁ → Pre ⟨T.setVm vm₁, locs, cells, slots⟩ argsL.toArray) :
    (∃ (v : Option Value) (vm₁ : Vm) (B : Pt), s.WarmedH vm₁ ∧ Stand p l e R s m args below meth c B.U B.locs B.cells B.slots ∧ Post ⟨T.setVm vm₁, locs, cells, slots⟩ argsL.toArray v B ∧
      ∀ target, Steps p.tables e below (B.U.setTop { g with pc := g.pc + 3, stack := v.toList ++ rest }) target → Steps p.tables e below (T.setTop g) target) ∨
    (∃ (q : Addr) (vm₁ : Vm) (B : Pt), s.WarmedH vm₁ ∧ Stand p l e R s m args below meth c B.U B.locs B.cells B.slots ∧ PostX ⟨T.setVm vm₁, locs, cells, slots⟩ argsL.toArray q B ∧
      Steps p.tables e below (T.setTop g) ((B.U.setTop { g with stack := rest }).pushFrame (.throwing q))) := by
  obtain ⟨mk, hnamed⟩ := Cond.code_named hcode
  obtain ⟨methM, cM, hmethM, -, -, -, -, -, -, hsigM⟩ := Cond.code_spec hnamed hcode
  have hstatic : methM.isStatic = true := Cond.static_spec hnamed hmethM hstat
  obtain ⟨kP, hkP, -⟩ := className_of_methodNamed hnamed
  have hinitP : kP.init = .initialized := Cond.initialized_spec (findClass_of_methodNamed hnamed) hkP hinit
  obtain ⟨vm₁, X₁, hstep₁⟩ := X.invokestatic hexec hown hlink hnamed hmethM hstatic hkP hinitP hy (g := g) hg (argsL := argsL) (rest := rest) (hlen _ hsigM) hstack hdg
  rcases hK m meth c ⟨T.setVm vm₁, locs, cells, slots⟩ { g with stack := rest } (.invokestatic index) mk argsL.toArray X₁ hg hsize hdg hW (X₁.named hnamed) (hpre vm₁ X₁.warmed) with ⟨v, B, X', hpost, hsteps⟩ | ⟨q, B, X', hpost, hsteps⟩
  · exact Or.inl ⟨v, vm₁, B, X₁.warmed, X', hpost, fun target h => hstep₁ _ fun acts => by rw [doInvoke_state]; exact hsteps.trans h⟩
  · exact Or.inr ⟨q, vm₁, B, X₁.warmed, X', hpost, hstep₁ _ fun acts => by rw [doInvoke_state]; exact hsteps⟩
end Calls
theorem vx_cls {s : State} {T : State} {vm₁ : Vm} {E : String} {k : ClassId} (hW : s.WarmedH vm₁) (h : (T.setVm vm₁).vm.findClass E = some k) : s.vm.findClass E = some k := by
  have h1 : vm₁.findClass E = some k := h
  rw [hW.alike.findClass] at h1
  exact h1
/-- the method's frame g, with q thrown over it -/
def vx_W (p : Program) (l : Launch) (e : Env) (R : Room) (s : State) (m : MethodId) (args : Array Value) (below : List Frame) (meth : Method) (c : Code) (H : Heap) (locs : List Loc) (cells slots : Nat) (Q : State → Prop) (g : JFrame) (q : Addr) : Prop :=
  ∀ T : State, T.heap = H → Stand p l e R s m args below meth c T locs cells slots → ∃ t, Steps p.tables e below ((T.setTop g).pushFrame (.throwing q)) t ∧ Q t
def vx_Run (p : Program) (l : Launch) (e : Env) (R : Room) (s : State) (m : MethodId) (args : Array Value) (below : List Frame) (meth : Method) (c : Code) (H : Heap) (locs : List Loc) (cells slots mc ms : Nat) (g : JFrame) (rest : List Value) (Qa : State → Outcome → State → Prop) (XC : String → State → State → Prop) (free : Addr → Prop) : Prop :=
  ∀ T : State, T.heap = H → Stand p l e R s m args below meth c T locs cells slots →
    (∃ (v : Option Value) (st₀ t T' : State) (L : List Loc), st₀.heap = H ∧ Stand p l e R s m args below meth c T' (locs ++ L) (cells + mc) (slots + ms) ∧ (∀ q ∈ L, free q.base) ∧ T'.heap = t.heap ∧ T'.vm = t.vm ∧ Qa st₀ (.returned v) t ∧
      Goes p e below T g T' { g with pc := g.pc + 3, stack := v.toList ++ rest }) ∨
    (∃ (q : Addr) (st₀ t T' : State) (L : List Loc) (E : String) (ce : Cell), st₀.heap = H ∧ Stand p l e R s m args below meth c T' (locs ++ L) (cells + mc) (slots + ms) ∧ (∀ z ∈ L, free z.base) ∧ T'.heap = t.heap ∧ T'.vm = t.vm ∧ XC E st₀ t ∧ t.heap[q]? = some ce ∧ ce.vm = .none ∧ s.vm.findClass E = some ce.cls ∧
      Steps p.tables e below (T.setTop g) ((T'.setTop { g with stack := rest }).pushFrame (.throwing q)))
def vx_X {S : Type} (px : S → Prop) (B : String → S → State → Prop) (A : Nat → Prop) : String → State → State → Prop := fun E st t => ∃ u : S, px u ∧ B E u t ∧ va_F A st t
section Runs
variable {p : Program} {l : Launch} {e : Env} {R : Room} {s : State} {m : MethodId} {args : Array Value} {below : List Frame} {meth : Method} {c : Code} {H : Heap} {locs : List Loc} {cells slots : Nat}
variable {y : MethodName} {bytes cc : ByteArray} {maxL nL mc ms n index : Nat} {ret : Option FieldType} {ws : List Cond} {rm : Room} {Pc : Array Value → State → Prop} {Qc : Array Value → State → Outcome → State → Prop} {XC : String → State → State → Prop} {free : Addr → Prop} {Ts : List Cond} {own C : String} {b : Addr} {As rest : List Value} {g : JFrame}
theorem vx_callBack (cb : CallB R s args own index y bytes maxL ret ws rm mc ms n) (hM : vx_Met l y ws rm Pc Qc XC mc ms free) (hbl : FrameBlind Pc) : vx_Back l R p e below s args y 3 8 (PreOf R mc ms Pc) (PostOf Qc mc ms free) (vx_Post XC mc ms free) := by
  obtain ⟨hrc, hrs, hfr, hlo, hws, hcw, -, hini, -⟩ := cb
  exact vx_back (bytes := bytes) (maxL := maxL) (ret := ret) hM hbl hrc hrs hfr hlo hws hcw (fun a' U hW => word_at hW (Or.inl (by first | rfl | simp [Cond.onTables, Cond.keeps, Cond.steady])) hini)
theorem vx_runV (S : CallFix p m c cc nL s args Ts own) (hM : vx_Met l y ws rm Pc Qc XC mc ms free) (cw : CallW R s args own C index y bytes maxL ret ws rm mc ms n) (hp : PreV s H C b Pc As)
    (hg : g.method = m) (hn : As.length = n) (hsize : g.locals.size = nL) (hstack : g.stack = As.reverse ++ .ref b :: rest) (hW : 2 * g.monitorRoom + (rest.map fun v => v.category).sum ≤ 8) (hdg : decode cc g.pc = .ok (.invokevirtual index, 3)) (hf : cells + mc ≤ R.cells ∧ slots + ms ≤ R.slots) :
    vx_Run p l e R s m args below meth c H locs cells slots mc ms g rest (Qc (Value.ref b :: As).toArray) XC free := by
  have hK : vx_Back l R p e below s args y 3 8 (PreOf R mc ms Pc) (PostOf Qc mc ms free) (vx_Post XC mc ms free) := vx_callBack cw.1 hM hp.1
  obtain ⟨⟨-, -, -, -, -, -, hcode, -, hy, hlen, hl⟩, hin, hse⟩ := cw
  obtain ⟨hx, hb, hml, ho, -⟩ := S
  obtain ⟨-, ⟨cellB, hcB, hoB, hclB⟩, hPc⟩ := hp
  intro T hT X
  rcases vx_callV X hx (C := C) (bytes := bytes) (maxL := maxL) (ret := ret) ho hl hin hse hcode hy hK (by rw [hT]; exact hcB) hoB hclB hg (hsize.trans hml.symm) (argsL := As) (rest := rest) (fun sig h => hn.trans (hlen sig h)) hstack hW (by rw [hb]; exact hdg)
    (fun vm₁ hW₁ => ⟨hf.1, hf.2, hPc (T.setVm vm₁) hT hW₁⟩) with ⟨v, vm₁, ⟨U', l2, c2, s2⟩, hW₁, X', ⟨g', mk, t, L, e1, e2, hq, h1, hL, h2, h3⟩, st⟩ | ⟨q, vm₁, ⟨U', l2, c2, s2⟩, hW₁, X', ⟨g', mk, t, L, E, ce, e1, e2, hq, hce, hcv, hcl, h1, hL, h2, h3⟩, st⟩
  · dsimp only [Pt.U, Pt.locs, Pt.cells, Pt.slots] at X' e1 e2 h1 h2 h3 st
    subst h1; subst h2; subst h3
    exact Or.inl ⟨v, (T.setVm vm₁).calling g' mk (Value.ref b :: As).toArray, t, U', L, hT, X', hL, e1, e2, hq, st⟩
  · dsimp only [Pt.U, Pt.locs, Pt.cells, Pt.slots] at X' e1 e2 h1 h2 h3 st hcl
    subst h1; subst h2; subst h3
    exact Or.inr ⟨q, (T.setVm vm₁).calling g' mk (Value.ref b :: As).toArray, t, U', L, E, ce, hT, X', hL, e1, e2, hq, hce, hcv, vx_cls hW₁ hcl, st⟩
theorem vx_runS (S : CallFix p m c cc nL s args Ts own) (hM : vx_Met l y ws rm Pc Qc XC mc ms free) (cw : CallB R s args own index y bytes maxL ret ws rm mc ms n ∧ (Cond.static y).before args s = true) (hp : PreS s H Pc As)
    (hg : g.method = m) (hn : As.length = n) (hsize : g.locals.size = nL) (hstack : g.stack = As.reverse ++ rest) (hW : 2 * g.monitorRoom + (rest.map fun v => v.category).sum ≤ 8) (hdg : decode cc g.pc = .ok (.invokestatic index, 3)) (hf : cells + mc ≤ R.cells ∧ slots + ms ≤ R.slots) :
    vx_Run p l e R s m args below meth c H locs cells slots mc ms g rest (Qc As.toArray) XC free := by
  have hK : vx_Back l R p e below s args y 3 8 (PreOf R mc ms Pc) (PostOf Qc mc ms free) (vx_Post XC mc ms free) := vx_callBack cw.1 hM hp.1
  obtain ⟨⟨-, -, -, -, -, -, hcode, hini, hy, hlen, hl⟩, hstt⟩ := cw
  obtain ⟨hx, hb, hml, ho, -⟩ := S
  intro T hT X
  rcases vx_callS X hx (bytes := bytes) (maxL := maxL) (ret := ret) ho hl hstt hini hcode hy hK hg (hsize.trans hml.symm) (argsL := As) (rest := rest) (fun sig h => hn.trans (hlen sig h)) hstack hW (by rw [hb]; exact hdg)
    (fun vm₁ hW₁ => ⟨hf.1, hf.2, hp.2 (T.setVm vm₁) hT hW₁⟩) with ⟨v, vm₁, ⟨U', l2, c2, s2⟩, hW₁, X', ⟨g', mk, t, L, e1, e2, hq, h1, hL, h2, h3⟩, st⟩ | ⟨q, vm₁, ⟨U', l2, c2, s2⟩, hW₁, X', ⟨g', mk, t, L, E, ce, e1, e2, hq, hce, hcv, hcl, h1, hL, h2, h3⟩, st⟩
  · dsimp only [Pt.U, Pt.locs, Pt.cells, Pt.slots] at X' e1 e2 h1 h2 h3 st
    subst h1; subst h2; subst h3
    exact Or.inl ⟨v, (T.setVm vm₁).calling g' mk As.toArray, t, U', L, hT, X', hL, e1, e2, hq, st⟩
  · dsimp only [Pt.U, Pt.locs, Pt.cells, Pt.slots] at X' e1 e2 h1 h2 h3 st hcl
    subst h1; subst h2; subst h3
    exact Or.inr ⟨q, (T.setVm vm₁).calling g' mk As.toArray, t, U', L, E, ce, hT, X', hL, e1, e2, hq, hce, hcv, vx_cls hW₁ hcl, st⟩
end Runs
section Rows
variable {p : Program} {l : Launch} {e : Env} {R : Room} {s : State} {m : MethodId} {args : Array Value} {below : List Frame} {meth : Method} {c : Code} {H : Heap} {locs : List Loc} {cells slots : Nat} {Q : State → Prop}
variable {mc ms : Nat} {free : Addr → Prop} {A0 A1 : Nat → Prop} {H0 : Heap} {a : Array Value} {pc : Nat} {ls : Array Slot} {st0 rest : List Value}
theorem vx_keep {st₀ t T' : State} {L : List Loc} (h0 : st₀.heap = H) (e1 : T'.heap = t.heap) (hS : va_S A0 H0 H locs) (hA : ∀ q, q < H.size → A1 q → A0 q) (hf : ∀ q, free q → A0 q) (hL : ∀ q ∈ L, free q.base) (hF : va_F A1 st₀ t) :
    H.size ≤ T'.heap.size ∧ (∀ q : Nat, q < H.size → ¬ A1 q → T'.heap[q]? = H[q]?) ∧ va_S A0 H0 T'.heap (locs ++ L) := by
  obtain ⟨hz, hk⟩ := hF
  rw [h0] at hz hk
  exact ⟨by rw [e1]; exact hz, fun q h1 h2 => by rw [e1]; exact hk q h1 h2,
    ⟨Nat.le_trans hS.1 (by rw [e1]; exact hz), fun q h1 h2 => by rw [e1, hk q (Nat.lt_of_lt_of_le h1 hS.1) (fun z => h2 (hA q (Nat.lt_of_lt_of_le h1 hS.1) z))]; exact hS.2.1 q h1 h2, fun q hq => by
      rcases List.mem_append.mp hq with h | h
      · exact hS.2.2 q h
      · exact hf _ (hL q h)⟩⟩
theorem vx_calli {S SX : Type} {post : Int32 → S → Prop} {px : SX → Prop} {B : S → State → Prop} {BX : String → SX → State → Prop} {AX : Nat → Prop} (hr : vx_Run p l e R s m args below meth c H locs cells slots mc ms (F0 m pc ls st0) rest (va_Qi post B A1 a) (vx_X px BX AX) free) (hS : va_S A0 H0 H locs) (hA : ∀ q, q < H.size → A1 q → A0 q) (hf : ∀ q, free q → A0 q) (hAX : ∀ q, q < H.size → AX q → A0 q)
    (kx : ∀ (E : String) (ce : Cell) (q9 : Addr) (u : SX) (t : State) (H1 : Heap) (locs1 : List Loc), t.heap = H1 → s.vm.Alike t.vm → px u → BX E u t → H.size ≤ H1.size → (∀ q : Nat, q < H.size → ¬ AX q → H1[q]? = H[q]?) → va_S A0 H0 H1 locs1 → H1[q9]? = some ce → ce.vm = .none → s.vm.findClass E = some ce.cls → vx_W p l e R s m args below meth c H1 locs1 (cells + mc) (slots + ms) Q (F0 m pc ls rest) q9)
    (kk : ∀ (r : Int32) (u : S) (t : State) (H1 : Heap) (locs1 : List Loc), t.heap = H1 → s.vm.Alike t.vm → post r u → B u t → H.size ≤ H1.size → (∀ q : Nat, q < H.size → ¬ A1 q → H1[q]? = H[q]?) → va_S A0 H0 H1 locs1 → W p l e R s m args below meth c H1 locs1 (cells + mc) (slots + ms) Q (F0 m (pc + 3) ls (.int r :: rest))) : W p l e R s m args below meth c H locs cells slots Q (F0 m pc ls st0) := by
  intro T hT X
  rcases hr T hT X with ⟨v, st₀, t, T', L, h0, X', hL, e1, e2, ⟨⟨r, u, hv, hp, hb⟩, hF⟩, st⟩ | ⟨q, st₀, t, T', L, E, ce, h0, X', hL, e1, e2, ⟨u, hp, hb, hF⟩, hce, hcv, hcl, st⟩
  · cases hv
    obtain ⟨k1, k2, k3⟩ := vx_keep h0 e1 hS hA hf hL hF
    obtain ⟨t2, a1, b1⟩ := kk r u t T'.heap (locs ++ L) e1.symm (by rw [← e2]; exact X'.warmed.alike) hp hb k1 k2 k3 T' rfl X'
    exact ⟨t2, st t2 a1, b1⟩
  · obtain ⟨k1, k2, k3⟩ := vx_keep h0 e1 hS hAX hf hL hF
    obtain ⟨t2, a1, b1⟩ := kx E ce q u t T'.heap (locs ++ L) e1.symm (by rw [← e2]; exact X'.warmed.alike) hp hb k1 k2 k3 (by rw [e1]; exact hce) hcv hcl T' rfl X'
    exact ⟨t2, st.trans a1, b1⟩
theorem vx_calll {S SX : Type} {post : Int64 → S → Prop} {px : SX → Prop} {B : S → State → Prop} {BX : String → SX → State → Prop} {AX : Nat → Prop} (hr : vx_Run p l e R s m args below meth c H locs cells slots mc ms (F0 m pc ls st0) rest (va_Ql post B A1 a) (vx_X px BX AX) free) (hS : va_S A0 H0 H locs) (hA : ∀ q, q < H.size → A1 q → A0 q) (hf : ∀ q, free q → A0 q) (hAX : ∀ q, q < H.size → AX q → A0 q)
    (kx : ∀ (E : String) (ce : Cell) (q9 : Addr) (u : SX) (t : State) (H1 : Heap) (locs1 : List Loc), t.heap = H1 → s.vm.Alike t.vm → px u → BX E u t → H.size ≤ H1.size → (∀ q : Nat, q < H.size → ¬ AX q → H1[q]? = H[q]?) → va_S A0 H0 H1 locs1 → H1[q9]? = some ce → ce.vm = .none → s.vm.findClass E = some ce.cls → vx_W p l e R s m args below meth c H1 locs1 (cells + mc) (slots + ms) Q (F0 m pc ls rest) q9)
    (kk : ∀ (r : Int64) (u : S) (t : State) (H1 : Heap) (locs1 : List Loc), t.heap = H1 → s.vm.Alike t.vm → post r u → B u t → H.size ≤ H1.size → (∀ q : Nat, q < H.size → ¬ A1 q → H1[q]? = H[q]?) → va_S A0 H0 H1 locs1 → W p l e R s m args below meth c H1 locs1 (cells + mc) (slots + ms) Q (F0 m (pc + 3) ls (.long r :: rest))) : W p l e R s m args below meth c H locs cells slots Q (F0 m pc ls st0) := by
  intro T hT X
  rcases hr T hT X with ⟨v, st₀, t, T', L, h0, X', hL, e1, e2, ⟨⟨r, u, hv, hp, hb⟩, hF⟩, st⟩ | ⟨q, st₀, t, T', L, E, ce, h0, X', hL, e1, e2, ⟨u, hp, hb, hF⟩, hce, hcv, hcl, st⟩
  · cases hv
    obtain ⟨k1, k2, k3⟩ := vx_keep h0 e1 hS hA hf hL hF
    obtain ⟨t2, a1, b1⟩ := kk r u t T'.heap (locs ++ L) e1.symm (by rw [← e2]; exact X'.warmed.alike) hp hb k1 k2 k3 T' rfl X'
    exact ⟨t2, st t2 a1, b1⟩
  · obtain ⟨k1, k2, k3⟩ := vx_keep h0 e1 hS hAX hf hL hF
    obtain ⟨t2, a1, b1⟩ := kx E ce q u t T'.heap (locs ++ L) e1.symm (by rw [← e2]; exact X'.warmed.alike) hp hb k1 k2 k3 (by rw [e1]; exact hce) hcv hcl T' rfl X'
    exact ⟨t2, st.trans a1, b1⟩
theorem vx_callf {S SX : Type} {post : UInt32 → S → Prop} {px : SX → Prop} {B : S → State → Prop} {BX : String → SX → State → Prop} {AX : Nat → Prop} (hr : vx_Run p l e R s m args below meth c H locs cells slots mc ms (F0 m pc ls st0) rest (va_Qf post B A1 a) (vx_X px BX AX) free) (hS : va_S A0 H0 H locs) (hA : ∀ q, q < H.size → A1 q → A0 q) (hf : ∀ q, free q → A0 q) (hAX : ∀ q, q < H.size → AX q → A0 q)
    (kx : ∀ (E : String) (ce : Cell) (q9 : Addr) (u : SX) (t : State) (H1 : Heap) (locs1 : List Loc), t.heap = H1 → s.vm.Alike t.vm → px u → BX E u t → H.size ≤ H1.size → (∀ q : Nat, q < H.size → ¬ AX q → H1[q]? = H[q]?) → va_S A0 H0 H1 locs1 → H1[q9]? = some ce → ce.vm = .none → s.vm.findClass E = some ce.cls → vx_W p l e R s m args below meth c H1 locs1 (cells + mc) (slots + ms) Q (F0 m pc ls rest) q9)
    (kk : ∀ (r : UInt32) (u : S) (t : State) (H1 : Heap) (locs1 : List Loc), t.heap = H1 → s.vm.Alike t.vm → post r u → B u t → H.size ≤ H1.size → (∀ q : Nat, q < H.size → ¬ A1 q → H1[q]? = H[q]?) → va_S A0 H0 H1 locs1 → W p l e R s m args below meth c H1 locs1 (cells + mc) (slots + ms) Q (F0 m (pc + 3) ls (.float r :: rest))) : W p l e R s m args below meth c H locs cells slots Q (F0 m pc ls st0) := by
  intro T hT X
  rcases hr T hT X with ⟨v, st₀, t, T', L, h0, X', hL, e1, e2, ⟨⟨r, u, hv, hp, hb⟩, hF⟩, st⟩ | ⟨q, st₀, t, T', L, E, ce, h0, X', hL, e1, e2, ⟨u, hp, hb, hF⟩, hce, hcv, hcl, st⟩
  · cases hv
    obtain ⟨k1, k2, k3⟩ := vx_keep h0 e1 hS hA hf hL hF
    obtain ⟨t2, a1, b1⟩ := kk r u t T'.heap (locs ++ L) e1.symm (by rw [← e2]; exact X'.warmed.alike) hp hb k1 k2 k3 T' rfl X'
    exact ⟨t2, st t2 a1, b1⟩
  · obtain ⟨k1, k2, k3⟩ := vx_keep h0 e1 hS hAX hf hL hF
    obtain ⟨t2, a1, b1⟩ := kx E ce q u t T'.heap (locs ++ L) e1.symm (by rw [← e2]; exact X'.warmed.alike) hp hb k1 k2 k3 (by rw [e1]; exact hce) hcv hcl T' rfl X'
    exact ⟨t2, st.trans a1, b1⟩
theorem vx_calld {S SX : Type} {post : UInt64 → S → Prop} {px : SX → Prop} {B : S → State → Prop} {BX : String → SX → State → Prop} {AX : Nat → Prop} (hr : vx_Run p l e R s m args below meth c H locs cells slots mc ms (F0 m pc ls st0) rest (va_Qd post B A1 a) (vx_X px BX AX) free) (hS : va_S A0 H0 H locs) (hA : ∀ q, q < H.size → A1 q → A0 q) (hf : ∀ q, free q → A0 q) (hAX : ∀ q, q < H.size → AX q → A0 q)
    (kx : ∀ (E : String) (ce : Cell) (q9 : Addr) (u : SX) (t : State) (H1 : Heap) (locs1 : List Loc), t.heap = H1 → s.vm.Alike t.vm → px u → BX E u t → H.size ≤ H1.size → (∀ q : Nat, q < H.size → ¬ AX q → H1[q]? = H[q]?) → va_S A0 H0 H1 locs1 → H1[q9]? = some ce → ce.vm = .none → s.vm.findClass E = some ce.cls → vx_W p l e R s m args below meth c H1 locs1 (cells + mc) (slots + ms) Q (F0 m pc ls rest) q9)
    (kk : ∀ (r : UInt64) (u : S) (t : State) (H1 : Heap) (locs1 : List Loc), t.heap = H1 → s.vm.Alike t.vm → post r u → B u t → H.size ≤ H1.size → (∀ q : Nat, q < H.size → ¬ A1 q → H1[q]? = H[q]?) → va_S A0 H0 H1 locs1 → W p l e R s m args below meth c H1 locs1 (cells + mc) (slots + ms) Q (F0 m (pc + 3) ls (.double r :: rest))) : W p l e R s m args below meth c H locs cells slots Q (F0 m pc ls st0) := by
  intro T hT X
  rcases hr T hT X with ⟨v, st₀, t, T', L, h0, X', hL, e1, e2, ⟨⟨r, u, hv, hp, hb⟩, hF⟩, st⟩ | ⟨q, st₀, t, T', L, E, ce, h0, X', hL, e1, e2, ⟨u, hp, hb, hF⟩, hce, hcv, hcl, st⟩
  · cases hv
    obtain ⟨k1, k2, k3⟩ := vx_keep h0 e1 hS hA hf hL hF
    obtain ⟨t2, a1, b1⟩ := kk r u t T'.heap (locs ++ L) e1.symm (by rw [← e2]; exact X'.warmed.alike) hp hb k1 k2 k3 T' rfl X'
    exact ⟨t2, st t2 a1, b1⟩
  · obtain ⟨k1, k2, k3⟩ := vx_keep h0 e1 hS hAX hf hL hF
    obtain ⟨t2, a1, b1⟩ := kx E ce q u t T'.heap (locs ++ L) e1.symm (by rw [← e2]; exact X'.warmed.alike) hp hb k1 k2 k3 (by rw [e1]; exact hce) hcv hcl T' rfl X'
    exact ⟨t2, st.trans a1, b1⟩
theorem vx_callv {S SX : Type} {post : S → Prop} {px : SX → Prop} {B : S → State → Prop} {BX : String → SX → State → Prop} {AX : Nat → Prop} (hr : vx_Run p l e R s m args below meth c H locs cells slots mc ms (F0 m pc ls st0) rest (va_Qv post B A1 a) (vx_X px BX AX) free) (hS : va_S A0 H0 H locs) (hA : ∀ q, q < H.size → A1 q → A0 q) (hf : ∀ q, free q → A0 q) (hAX : ∀ q, q < H.size → AX q → A0 q)
    (kx : ∀ (E : String) (ce : Cell) (q9 : Addr) (u : SX) (t : State) (H1 : Heap) (locs1 : List Loc), t.heap = H1 → s.vm.Alike t.vm → px u → BX E u t → H.size ≤ H1.size → (∀ q : Nat, q < H.size → ¬ AX q → H1[q]? = H[q]?) → va_S A0 H0 H1 locs1 → H1[q9]? = some ce → ce.vm = .none → s.vm.findClass E = some ce.cls → vx_W p l e R s m args below meth c H1 locs1 (cells + mc) (slots + ms) Q (F0 m pc ls rest) q9)
    (kk : ∀ (u : S) (t : State) (H1 : Heap) (locs1 : List Loc), t.heap = H1 → s.vm.Alike t.vm → post u → B u t → H.size ≤ H1.size → (∀ q : Nat, q < H.size → ¬ A1 q → H1[q]? = H[q]?) → va_S A0 H0 H1 locs1 → W p l e R s m args below meth c H1 locs1 (cells + mc) (slots + ms) Q (F0 m (pc + 3) ls (rest))) : W p l e R s m args below meth c H locs cells slots Q (F0 m pc ls st0) := by
  intro T hT X
  rcases hr T hT X with ⟨v, st₀, t, T', L, h0, X', hL, e1, e2, ⟨⟨u, hv, hp, hb⟩, hF⟩, st⟩ | ⟨q, st₀, t, T', L, E, ce, h0, X', hL, e1, e2, ⟨u, hp, hb, hF⟩, hce, hcv, hcl, st⟩
  · cases hv
    obtain ⟨k1, k2, k3⟩ := vx_keep h0 e1 hS hA hf hL hF
    obtain ⟨t2, a1, b1⟩ := kk u t T'.heap (locs ++ L) e1.symm (by rw [← e2]; exact X'.warmed.alike) hp hb k1 k2 k3 T' rfl X'
    exact ⟨t2, st t2 a1, b1⟩
  · obtain ⟨k1, k2, k3⟩ := vx_keep h0 e1 hS hAX hf hL hF
    obtain ⟨t2, a1, b1⟩ := kx E ce q u t T'.heap (locs ++ L) e1.symm (by rw [← e2]; exact X'.warmed.alike) hp hb k1 k2 k3 (by rw [e1]; exact hce) hcv hcl T' rfl X'
    exact ⟨t2, st.trans a1, b1⟩
/-- caught by the row x of this method's table; the rows ahead don't take it -/
theorem vx_catch {own name : String} {E : String} {ce : Cell} {q : Addr} (hown : s.vm.findClass own = some m.cls) (pre : List ExceptionTableEntry) (x : ExceptionTableEntry) (suf : List ExceptionTableEntry) (hsplit : c.exceptionTable.toList = pre ++ x :: suf)
    (hpass : ∀ z ∈ pre, covers z pc = false ∨ (z.catchType ≠ 0 ∧ ∃ nm : String, (Cond.classLink own z.catchType nm).before args s = true ∧ va_Nc E nm s)) (hx : covers x pc = true) (h0 : x.catchType ≠ 0)
    (hlink : (Cond.classLink own x.catchType name).before args s = true) (hcast : (Cond.castable E name).before args s = true) (hcell : H[q]? = some ce) (hv : ce.vm = .none) (hcl : s.vm.findClass E = some ce.cls)
    (kk : W p l e R s m args below meth c H locs cells slots Q (F0 m x.handlerPc ls [.ref q])) : vx_W p l e R s m args below meth c H locs cells slots Q (F0 m pc ls rest) q := by
  intro T hT X
  have hpl : e.platform.magicAccessors = ({} : Platform).magicAccessors := by rw [X.admits.platform]
  obtain ⟨c3, c4, hc3, hc4, hasg⟩ := Cond.castable_spec hcast
  cases Option.some.inj (hc3.symm.trans hcl)
  obtain ⟨c5, hc5, hcl5⟩ := Cond.classLink_spec hown hlink e.platform hpl
  cases Option.some.inj (hc4.symm.trans hc5)
  obtain ⟨vm', X', st⟩ := X.thenCaughtThrough q (g := F0 m pc ls rest) rfl (Steps.refl _) (by rw [hT]; exact hcell) (by rw [hv]; rfl) (by obtain ⟨k9, h9, -⟩ := Vm.findClass_spec hcl; exact ⟨k9, h9⟩) pre x suf hsplit
    (fun z hz => by
      rcases hpass z hz with h | ⟨hz0, nm, hl1, hn1⟩
      · exact Or.inl h
      · obtain ⟨c6, hc6, hcl6⟩ := Cond.classLink_spec hown hl1 e.platform hpl
        obtain ⟨a8, b8, h1, h2, h3⟩ := hn1
        cases Option.some.inj (h1.symm.trans hcl)
        cases Option.some.inj (h2.symm.trans hc6)
        exact Or.inr ⟨hz0, _, hcl6, h3⟩) hx (Or.inr ⟨h0, c4, hcl5, hasg⟩)
  obtain ⟨t, a1, b1⟩ := kk (T.setVm vm') hT X'
  exact ⟨t, st.trans a1, b1⟩
end Rows
section Ends
variable {p : Program} {l : Launch} {e : Env} {R : Room} {s : State} {m : MethodId} {args : Array Value} {below : List Frame} {meth : Method} {c : Code} {H : Heap} {locs : List Loc} {cells slots : Nat} {Q : State → Prop}
variable {mc ms : Nat} {free : Addr → Prop} {A0 A1 : Nat → Prop} {H0 : Heap} {a : Array Value} {ls : Array Slot} {st0 rest : List Value}
variable {Qc : Array Value → State → Outcome → State → Prop} {XC : String → State → State → Prop}
/-- what a body that may throw owes at its end -/
def vx_MQ (below : List Frame) (Qc : Array Value → State → Outcome → State → Prop) (XC : String → State → State → Prop) (a : Array Value) (s : State) (mc ms : Nat) (free : Addr → Prop) : State → Prop := fun t =>
  ∃ o, t.status = .running ∧ Ended t below o ∧ vx_Q Qc XC mc ms free a s o t
theorem vx_ret {g : JFrame} {mc ms : Nat} (k : W p l e R s m args below meth c H locs cells slots (MQ below Qc args s mc ms free) g) : W p l e R s m args below meth c H locs cells slots (vx_MQ below Qc XC args s mc ms free) g := by
  intro T hT X
  obtain ⟨t, a1, o, b1, b2, b3, b4⟩ := k T hT X
  exact ⟨t, a1, o, b1, b2, Or.inl ⟨b3, b4⟩⟩
/-- not caught here: it goes on to the caller -/
theorem vx_widen {g : JFrame} {q : Addr} {k n : Nat} (h1 : cells ≤ k) (h2 : slots ≤ n) (kk : vx_W p l e R s m args below meth c H locs k n Q g q) : vx_W p l e R s m args below meth c H locs cells slots Q g q := fun T hT X => kk T hT (stand_widen X h1 h2)
theorem vx_out {pc : Nat} {E : String} {ce : Cell} {q : Addr} {mc ms : Nat} (hout : ∀ x ∈ c.exceptionTable.toList, covers x pc = false) (hlocks : meth.locks = false) (hcell : H[q]? = some ce) (hv : ce.vm = .none) (hcl : s.vm.findClass E = some ce.cls)
    (hx : ∀ t : State, t.heap = H → s.vm.Alike t.vm → XC E s t) (hf : ∀ z ∈ locs, free z.base) (hc : cells ≤ mc) (hs : slots ≤ ms) :
    vx_W p l e R s m args below meth c H locs cells slots (vx_MQ below Qc XC args s mc ms free) (F0 m pc ls rest) q := by
  intro T hT X
  obtain ⟨st1, hrun, hend, hW, hsm⟩ := X.leaveThrown q (g := F0 m pc ls rest) rfl rfl rfl hout hlocks
  have hcell9 : (T.setFrames (.throwing q :: below)).heap[q]? = some ce := by
    show T.heap[q]? = some ce
    rw [hT]; exact hcell
  exact ⟨_, st1, .threw q, hrun, hend, Or.inr ⟨q, rfl, E, ce, locs, hx _ hT hW.alike, hcell9, hv, hcl, hW, hsm.mono hc hs, hf⟩⟩
theorem vx_frame {U : State} {k n : Nat} (h : s.sameButNew ({ U with vm := s.vm } : State) locs k n) : s.heap.size ≤ U.heap.size ∧ ∀ q : Nat, q < s.heap.size → (∀ z ∈ locs, z.base ≠ q) → U.heap[q]? = s.heap[q]? := by
  obtain ⟨-, h2, -, -, -, h6⟩ := h
  refine ⟨h2, fun q hq hz => ?_⟩
  obtain ⟨c9, e1, e2, e3, e4⟩ := h6 q _ (Array.getElem?_eq_getElem hq)
  have hs : c9.slots = (s.heap[q]).slots := Array.ext_getElem? fun i => e4 i fun hm => hz _ hm rfl
  have h9 : c9 = s.heap[q] := by
    rw [hs] at e2
    exact e2
  have e5 : U.heap[q]? = some c9 := e1
  rw [e5, h9, Array.getElem?_eq_getElem hq]
/-- the words of a throw but the four that speak of the heap -/
def vx_no (w : Cond) : Bool := decide (w ≠ .isRef (.static Bundle.tN "UNASSIGNED_STACK" Bundle.steD)) && decide (w ≠ .isRef (.static Bundle.tN "SUPPRESSED_SENTINEL" Bundle.listD)) && decide (w ≠ .laysStatic Bundle.tN "UNASSIGNED_STACK" Bundle.steD) && decide (w ≠ .laysStatic Bundle.tN "SUPPRESSED_SENTINEL" Bundle.listD)
def vx_at0 (own : String) (ic : Nat) (X : String) (names : List String) : List Cond := (Bundle.ownAtoms0 own ic X names).filter vx_no
def vx_atS (own : String) (ic : Nat) (X : String) (names : List String) : List Cond := (Bundle.ownAtoms own ic X names).filter vx_no
/-- a word that the tables alone decide, or a good one -/
def vx_ot (w : Cond) : Bool := w.onTables || goodWord w
theorem vx_ot_at {args a' : Array Value} {s U : State} {w : Cond} (hW : s.WarmedH U.vm) (hvm : s.vm = U.vm) (hg : vx_ot w = true) (h : w.before args s = true) : w.before a' U = true := by
  simp only [vx_ot, Bool.or_eq_true] at hg
  rcases hg with hg | hg
  · exact va_tabs hg hvm h
  · exact word_at hW (good_of_word hg) h
/-- a list's words: the good ones out of the method's own list, the others by premises of their own -/
theorem vx_hat {args : Array Value} {s : State} {L B : List Cond} (h1 : ∀ w ∈ L.filter goodWord, w.before args s = true) (h2 : ∀ w ∈ L.filter (fun w => !goodWord w), w ∈ B) (h3 : ∀ w ∈ B, w.before args s = true) : ∀ w ∈ L, w.before args s = true := by
  intro w hw
  by_cases g : goodWord w = true
  · exact h1 w (List.mem_filter.mpr ⟨hw, g⟩)
  · refine h3 w (h2 w (List.mem_filter.mpr ⟨hw, ?_⟩))
    show (!goodWord w) = true
    cases hgw : goodWord w
    · rfl
    · exact absurd hgw g
theorem vx_c {args : Array Value} {s : State} {w : Cond} {B : List Cond} (h : w.before args s = true) (t : ∀ w ∈ B, w.before args s = true) : ∀ w' ∈ w :: B, w'.before args s = true := fun w' h' => (List.mem_cons.mp h').elim (fun e => by rw [e]; exact h) (t w')
theorem vx_n {args : Array Value} {s : State} : ∀ w ∈ ([] : List Cond), w.before args s = true := fun _ h => nomatch h
theorem vx_own {args : Array Value} {s : State} {L : List Cond} (h1 : ∀ w ∈ L.filter vx_no, w.before args s = true)
    (hU : (Cond.isRef (.static Bundle.tN "UNASSIGNED_STACK" Bundle.steD)).before args s = true) (hN : (Cond.isRef (.static Bundle.tN "SUPPRESSED_SENTINEL" Bundle.listD)).before args s = true)
    (lU : (Cond.laysStatic Bundle.tN "UNASSIGNED_STACK" Bundle.steD).before args s = true) (lN : (Cond.laysStatic Bundle.tN "SUPPRESSED_SENTINEL" Bundle.listD).before args s = true) : ∀ w ∈ L, w.before args s = true := by
  intro w hw
  by_cases e1 : w = .isRef (.static Bundle.tN "UNASSIGNED_STACK" Bundle.steD)
  · rw [e1]; exact hU
  · by_cases e2 : w = .isRef (.static Bundle.tN "SUPPRESSED_SENTINEL" Bundle.listD)
    · rw [e2]; exact hN
    · by_cases e3 : w = .laysStatic Bundle.tN "UNASSIGNED_STACK" Bundle.steD
      · rw [e3]; exact lU
      · by_cases e4 : w = .laysStatic Bundle.tN "SUPPRESSED_SENTINEL" Bundle.listD
        · rw [e4]; exact lN
        · exact h1 w (List.mem_filter.mpr ⟨hw, by unfold vx_no; rw [decide_eq_true e1, decide_eq_true e2, decide_eq_true e3, decide_eq_true e4]; rfl⟩)
/-- where a static field lies, its class's statics cell in H -/
def vx_L (C n d : String) (A : Nat → Prop) (U : State) (H : Heap) : Prop := ∃ (c : ClassId) (k : Class) (i : Nat) (f : Field) (a : Nat) (cell : Cell), U.vm.findClass C = some c ∧ U.fieldFound? C n d = some (c, k, i, f) ∧ f.isStatic = true ∧ k.statics = some a ∧ H[a]? = some cell ∧ cell.vm.isStatics = true ∧ cell.cls = c ∧ f.slot < cell.slots.size ∧ k.staticTypes[f.slot]? = some f.type ∧ ¬ A a
theorem vx_L.moved {C n d : String} {A : Nat → Prop} {u U : State} {H : Heap} (hvm : u.vm.Alike U.vm) (h : vx_L C n d A u H) : vx_L C n d A U H := by
  obtain ⟨c, k, i, f, a, cell, h1, h2, h3, h4, h5, h6, h7, h8, h9, h10⟩ := h
  obtain ⟨k', hi', he⟩ := State.fieldFound?_setVm hvm h2
  exact ⟨c, k', i, f, a, cell, by rw [hvm.findClass]; exact h1, hi', h3, by rw [he]; exact h4, h5, h6, h7, h8, by rw [he]; exact h9, h10⟩
theorem vx_L.kept {C n d : String} {A : Nat → Prop} {U : State} {H H1 : Heap} (h : vx_L C n d A U H) (hq : ∀ a : Nat, a < H.size → ¬ A a → H1[a]? = H[a]?) : vx_L C n d A U H1 := by
  obtain ⟨c, k, i, f, a, cell, h1, h2, h3, h4, h5, h6, h7, h8, h9, h10⟩ := h
  exact ⟨c, k, i, f, a, cell, h1, h2, h3, h4, by rw [hq a (Array.getElem?_eq_some_iff.mp h5).1 h10]; exact h5, h6, h7, h8, h9, h10⟩
theorem vx_L.narrow {C n d : String} {A B : Nat → Prop} {U : State} {H : Heap} (h : vx_L C n d A U H) (hAB : ∀ q, B q → A q) : vx_L C n d B U H := by
  obtain ⟨c, k, i, f, a, cell, h1, h2, h3, h4, h5, h6, h7, h8, h9, h10⟩ := h
  exact ⟨c, k, i, f, a, cell, h1, h2, h3, h4, h5, h6, h7, h8, h9, fun z => h10 (hAB _ z)⟩
theorem vx_L.word {C n d : String} {A : Nat → Prop} {s : State} {args : Array Value} (h : vx_L C n d A s s.heap) : (Cond.laysStatic C n d).before args s = true := by
  obtain ⟨c, k, i, f, a, cell, h1, h2, h3, h4, h5, h6, h7, h8, h9, -⟩ := h
  show (Cond.laysStatic C n d).holds args s none s [] = true
  exact Cond.laysStatic_of h1 h2 h3 h4 h5 h6 h7 h8 h9
/-- .. and what it holds: null or some reference -/
def vx_Zq (C n d : String) (A : Nat → Prop) (U : State) (H : Heap) : Prop := va_Zq C n d A U H ∧ vx_L C n d A U H
theorem vx_Zq.moved {C n d : String} {A : Nat → Prop} {u U : State} {H : Heap} (hvm : u.vm.Alike U.vm) (h : vx_Zq C n d A u H) : vx_Zq C n d A U H := ⟨va_Zq.moved hvm h.1, vx_L.moved hvm h.2⟩
theorem vx_Zq.kept {C n d : String} {A : Nat → Prop} {U : State} {H H1 : Heap} (h : vx_Zq C n d A U H) (hq : ∀ a : Nat, a < H.size → ¬ A a → H1[a]? = H[a]?) : vx_Zq C n d A U H1 := ⟨va_Zq.kept h.1 hq, vx_L.kept h.2 hq⟩
theorem vx_Zq.narrow {C n d : String} {A B : Nat → Prop} {U : State} {H : Heap} (h : vx_Zq C n d A U H) (hAB : ∀ q, B q → A q) : vx_Zq C n d B U H := ⟨va_Zq.narrow h.1 hAB, vx_L.narrow h.2 hAB⟩
theorem vx_Zqof {args : Array Value} {s : State} {C n d : String} {A : Nat → Prop} (hl : (Cond.laysStatic C n d).before args s = true) (hini : (Cond.initialized C).before args s = true) (h : (Cond.isRef (.static C n d)).before args s = true) (hA : ∀ a : Nat, a < s.heap.size → ¬ A a) : vx_Zq C n d A s s.heap := by
  refine ⟨va_Zqof hl hini h hA, ?_⟩
  obtain ⟨c, k, i, f, a, cell, h1, h2, h3, h4, h5, h6, h7, h8, h9⟩ := Cond.laysStatic_spec hl
  exact ⟨c, k, i, f, a, cell, h1, h2, h3, h4, h5, h6, h7, h8, h9, hA a (Array.getElem?_eq_some_iff.mp h5).1⟩
theorem vx_isRef {C n d : String} {v : Value} {A : Nat → Prop} {s : State} {args : Array Value} (h : va_Z C n d v A s s.heap) (hv : v.isRef = true) : (Cond.isRef (.static C n d)).before args s = true := by
  obtain ⟨cf, kf, fi, f, a, cell, h1, h2, h3, h4, h5, h6, h7, -⟩ := h
  have he : (Term.static C n d).eval args s none [] s = some v := by
    simp [Term.eval, State.fieldNamed?, h1, h2, h4, h5, h6, h7]
  simp only [Cond.before, Cond.holds, Cond.value, he]
  cases v <;> simp_all [Value.isRef]
theorem vx_isRefq {C n d : String} {A : Nat → Prop} {s : State} {args : Array Value} (h : va_Zq C n d A s s.heap) : (Cond.isRef (.static C n d)).before args s = true := by
  rcases h with h | ⟨t, h⟩
  · exact vx_isRef h rfl
  · exact vx_isRef h rfl
/-- the same frame, seen from here: as if the method were called anew in this heap -/
theorem vx_rebase {T : State} (X : Stand p l e R s m args below meth c T locs cells slots) {R' : Room} (hf : R'.frames ≤ R.frames) (hl : R'.locals ≤ R.locals) (hc : cells + R'.cells ≤ R.cells) (hs : slots + R'.slots ≤ R.slots) :
    Stand p l e R' ((T.setVm s.vm).setFrames (.invoking m args :: below)) m args below meth c T [] 0 0 := by
  have htop : (T.setVm s.vm).topJava?.isSome := X.here.top
  have hF : ((T.setVm s.vm).setFrames (.invoking m args :: below)).frames = .invoking m args :: below := State.frames_setFrames _ (State.cur_lt_of_top htop)
  obtain ⟨g₀, hg0⟩ := Option.isSome_iff_exists.mp htop
  obtain ⟨r, hr⟩ := State.topJava?_eq_some.mp hg0
  have hl9 : e.platform.stackLimits (T.setVm s.vm).me = e.platform.stackLimits s.me := X.limits
  have hb9 : (T.setVm s.vm).me.stackBytes = s.me.stackBytes := X.bytes
  refine ⟨X.admits, X.cas, X.clock, hF, ?_, X.hears, X.method, X.code, X.here, X.tail, X.warmed, ?_, ?_, ?_⟩
  · have h := X.room
    have hU : ((T.setVm s.vm).setFrames (.invoking m args :: below)).localsInUse = s.localsInUse := by
      rw [State.localsInUse_invoking hF (meth := meth) (c := c) X.method X.code, State.localsInUse_invoking X.frames X.method X.code]
    simp only [State.hasRoom, Bool.and_eq_true, decide_eq_true_eq] at h ⊢
    obtain ⟨⟨⟨⟨h1, h2, h3, h4, h5, h6⟩, h7⟩, h8⟩, h9⟩ := h
    rw [X.frames, List.length_cons] at h2 h3
    have q1 := X.heapSize
    have q2 := X.used
    simp only [hF, hU, List.length_cons, State.stackLimits_setFrames, State.stackBytes_setFrames, hl9, hb9]
    refine ⟨⟨⟨⟨by omega, by omega, by omega, by omega, by omega, h6⟩, ?_⟩, ?_⟩, X.book⟩
    · show T.heap.size + R'.cells ≤ e.platform.maxCells
      omega
    · show T.slotsUsed + R'.slots ≤ e.platform.maxSlots
      omega
  · rw [State.stackLimits_setFrames]; rfl
  · rw [State.stackBytes_setFrames]; rfl
  · refine ⟨?_, Nat.le_refl _, Nat.le_refl _, ?_, ?_, fun a c9 h9 => ⟨c9, h9, rfl, rfl, fun _ _ => rfl⟩⟩
    · obtain ⟨t, ht, -⟩ := State.frames_cons hr
      show T.setVm s.vm = { ((T.setVm s.vm).setFrames (.invoking m args :: below)).setFrames (T.setVm s.vm).frames with heap := T.heap, slotsUsed := T.slotsUsed }
      rw [State.setFrames_setFrames, State.setFrames_self ht]
      rfl
    · show T.slotsUsed = T.slotsUsed + ((T.heap.toList.drop T.heap.size).map (·.slots.size)).sum
      rw [List.drop_eq_nil_of_le (Nat.le_of_eq Array.length_toList)]
      rfl
    · show ((T.heap.toList.drop T.heap.size).map (·.slots.size)).sum ≤ 0
      rw [List.drop_eq_nil_of_le (Nat.le_of_eq Array.length_toList)]
      exact Nat.le_refl _
/-- 'throw new E()': new; dup; invokespecial; athrow -/
theorem vx_throw0 {cc : ByteArray} {pc : Nat} (hexec : p.tables.exec = Jvm.exec) (hb : c.code = cc) (hl : l.stackTraces = false) {own cls : String} {names : List String} {ik ic mc ms : Nat} {A : Nat → Prop}
    (hown : s.vm.findClass own = some m.cls) (hcls : Bundle.fit cls = true) (hnames : ∀ n ∈ names, Bundle.fit n = true)
    (hk : (Cond.classLink own ik cls).before args s = true) (hini : (Cond.initialized cls).before args s = true) (hat : ∀ w ∈ vx_at0 own ic cls names, w.before args s = true)
    (hgood : ∀ w ∈ Cond.classLink own ik cls :: Cond.initialized cls :: vx_at0 own ic cls names, vx_ot w = true)
    (hU : vx_Zq Bundle.tN "UNASSIGNED_STACK" Bundle.steD A s s.heap) (hN : vx_Zq Bundle.tN "SUPPRESSED_SENTINEL" Bundle.listD A s s.heap) (hS : va_S A s.heap H locs) (hsize : ls.size = c.maxLocals)
    (d0 : decode cc pc = .ok (.new ik, 3)) (d3 : decode cc (pc + 3) = .ok (.dup, 1)) (d4 : decode cc (pc + 4) = .ok (.invokespecial ic, 3)) (d7 : decode cc (pc + 7) = .ok (.athrow, 1))
    (hout : ∀ x ∈ c.exceptionTable.toList, covers x (pc + 7) = false)
    (hRframes : names.length + 3 < R.frames) (hRlocals : (rest.map fun v => v.category).sum + (13 * (names.length + 1) + 42) ≤ R.locals) (hRcells : cells + 1 ≤ R.cells) (hRslots : slots + 6 ≤ R.slots) (hlocks : meth.locks = false)
    (hx : ∀ t : State, s.vm.Alike t.vm → H.size ≤ t.heap.size → (∀ q : Nat, q < H.size → t.heap[q]? = H[q]?) → XC cls s t)
    (hf : ∀ z ∈ locs, free z.base) (hc : cells + 1 ≤ mc) (hs : slots + 6 ≤ ms) :
    W p l e R s m args below meth c H locs cells slots (vx_MQ below Qc XC args s mc ms free) (F0 m pc ls rest) := by
  intro T hT X
  have htr : e.platform.stackTraces = false := (show e.platform.stackTraces = l.stackTraces by rw [X.admits.platform]).trans hl
  have Y := vx_rebase X (R' := { frames := R.frames, locals := R.locals, cells := 1, slots := 6 }) (Nat.le_refl _) (Nat.le_refl _) hRcells hRslots
  obtain ⟨s', hA⟩ : ∃ z, z = (T.setVm s.vm).setFrames (.invoking m args :: below) := ⟨_, rfl⟩
  rw [← hA] at Y
  have hvm : s'.vm = s.vm := by rw [hA]; rfl
  have hhp : s'.heap = H := by rw [hA]; exact hT
  have hW0 : s.WarmedH s'.vm := by rw [hvm]; exact State.WarmedH.refl s
  have hat' : ∀ w ∈ vx_at0 own ic cls names, w.before args s' = true := fun w hw => vx_ot_at hW0 hvm.symm (hgood w (List.mem_cons_of_mem _ (List.mem_cons_of_mem _ hw))) (hat w hw)
  have hk' : (Cond.classLink own ik cls).before args s' = true := vx_ot_at hW0 hvm.symm (hgood _ List.mem_cons_self) hk
  have hini' : (Cond.initialized cls).before args s' = true := vx_ot_at hW0 hvm.symm (hgood _ (List.mem_cons_of_mem _ List.mem_cons_self)) hini
  have hU' : vx_Zq Bundle.tN "UNASSIGNED_STACK" Bundle.steD A s' s'.heap := by rw [hhp]; exact vx_Zq.moved hW0.alike (hU.kept hS.2.1)
  have hN' : vx_Zq Bundle.tN "SUPPRESSED_SENTINEL" Bundle.listD A s' s'.heap := by rw [hhp]; exact vx_Zq.moved hW0.alike (hN.kept hS.2.1)
  have h : ∀ w ∈ Bundle.ownAtoms0 own ic cls names, w.before args s' = true := vx_own hat' (vx_isRefq hU'.1) (vx_isRefq hN'.1) hU'.2.word hN'.2.word
  have hown' : s'.vm.findClass own = some m.cls := by rw [hvm]; exact hown
  have hins : (Cond.instantiable cls 6).before args s' = true := h _ (by simp [Bundle.ownAtoms0])
  obtain ⟨vm₁, cX, kX, hfX, hkX, -, -, X₁, st1⟩ := Y.newCold hexec (own := own) (C := cls) (index := ik) (n := 6) hown' hk' hins hini'
    (g := F0 m pc ls rest) rfl (by rw [hb]; exact d0) (Nat.le_refl _) (Nat.le_refl _)
  generalize hT1 : (T.setVm vm₁).pushCell { cls := cX, slots := kX.instanceTypes.map defaultValue, vm := .none } = T1 at X₁ st1
  have hcat : (Value.ref T.heap.size).category = 1 := rfl
  have hcellA : T1.heap[T.heap.size]? = some (freshCell cX kX) := by rw [← hT1]; exact State.heap_pushCell_size _ _
  have d3' : decode c.code (pc + 3) = .ok (.dup, 1) := by rw [hb]; exact d3
  obtain ⟨U, hsteps, hrun, hend, hW, hsame, ce, hce, hO⟩ := X₁.ctorThrow0 hexec htr (own := own) (cls := cls) (names := names) (ic := ic) hown' hcls hnames h (fun x hx => nomatch hx) hfX hkX hcellA (by rw [hhp, hT]; exact Nat.le_refl _)
    (g := { method := m, pc := pc + 4, locals := ls, stack := .ref T.heap.size :: .ref T.heap.size :: rest, locked := none }) rfl hsize rfl rfl (rest := rest) rfl
    (by rw [hb]; exact d4) (by rw [hb]; exact d7) hout hRframes (by simp only [List.map_cons, List.sum_cons, hcat]; omega) hlocks
  obtain ⟨f1, f2⟩ := vx_frame hsame
  rw [hhp] at f1 f2
  have hWs : s.WarmedH U.vm := State.WarmedH.trans hW0 hW
  have hcl : s.vm.findClass cls = some ce.cls := by
    have h9 := hO.cls
    rw [hvm] at h9
    exact h9
  have hall : s.sameButNew ({ U with vm := s.vm } : State) locs mc ms := by
    subst hA
    obtain ⟨e1, e2⟩ := hsame
    rw [State.setFrames_setFrames] at e1
    have h2 : (T.setVm s.vm).sameButNew ({ U with vm := s.vm } : State) [] (0 + 1) (0 + 6) := ⟨e1, e2⟩
    have h3 := X.same.trans h2
    rw [List.append_nil] at h3
    exact h3.mono hc hs
  refine ⟨U, ?_, .threw T.heap.size, hrun, hend, Or.inr ⟨T.heap.size, rfl, cls, ce, locs, hx U hWs.alike f1 (fun q hq => f2 q hq (fun z hz => nomatch hz)), hce, hO.vm, hcl, hWs, hall, hf⟩⟩
  refine st1 _ ?_
  show Steps p.tables e below (T1.setTop { method := m, pc := pc + 3, locals := ls, stack := .ref T.heap.size :: rest, locked := none }) _
  jvm_step X₁.here [X₁.here.top, hexec, d3', Value.category]
  exact hsteps
/-- 'throw new E("text")': new; dup; ldc; invokespecial; athrow -/
theorem vx_throwS {cc : ByteArray} {pc : Nat} (hexec : p.tables.exec = Jvm.exec) (hb : c.code = cc) (hl : l.stackTraces = false) {own cls text : String} {names : List String} {ik is ic mc ms sa : Nat} {A : Nat → Prop}
    (hown : s.vm.findClass own = some m.cls) (hcls : Bundle.fit cls = true) (hnames : ∀ n ∈ names, Bundle.fit n = true)
    (hk : (Cond.classLink own ik cls).before args s = true) (hini : (Cond.initialized cls).before args s = true) (hstr : vk_R own is text sa s) (hat : ∀ w ∈ vx_atS own ic cls names, w.before args s = true)
    (hgood : ∀ w ∈ Cond.classLink own ik cls :: Cond.initialized cls :: vx_atS own ic cls names, vx_ot w = true)
    (hU : vx_Zq Bundle.tN "UNASSIGNED_STACK" Bundle.steD A s s.heap) (hN : vx_Zq Bundle.tN "SUPPRESSED_SENTINEL" Bundle.listD A s s.heap) (hS : va_S A s.heap H locs) (hsize : ls.size = c.maxLocals)
    (d0 : decode cc pc = .ok (.new ik, 3)) (d3 : decode cc (pc + 3) = .ok (.dup, 1)) (d4 : decode cc (pc + 4) = .ok (.ldc is, 2)) (d6 : decode cc (pc + 6) = .ok (.invokespecial ic, 3)) (d9 : decode cc (pc + 9) = .ok (.athrow, 1))
    (hout : ∀ x ∈ c.exceptionTable.toList, covers x (pc + 9) = false)
    (hRframes : names.length + 3 < R.frames) (hRlocals : (rest.map fun v => v.category).sum + (13 * (names.length + 1) + 43) ≤ R.locals) (hRcells : cells + 1 ≤ R.cells) (hRslots : slots + 6 ≤ R.slots) (hlocks : meth.locks = false)
    (hx : ∀ t : State, s.vm.Alike t.vm → H.size ≤ t.heap.size → (∀ q : Nat, q < H.size → t.heap[q]? = H[q]?) → XC cls s t)
    (hf : ∀ z ∈ locs, free z.base) (hc : cells + 1 ≤ mc) (hs : slots + 6 ≤ ms) :
    W p l e R s m args below meth c H locs cells slots (vx_MQ below Qc XC args s mc ms free) (F0 m pc ls rest) := by
  intro T hT X
  have htr : e.platform.stackTraces = false := (show e.platform.stackTraces = l.stackTraces by rw [X.admits.platform]).trans hl
  have Y := vx_rebase X (R' := { frames := R.frames, locals := R.locals, cells := 1, slots := 6 }) (Nat.le_refl _) (Nat.le_refl _) hRcells hRslots
  obtain ⟨s', hA⟩ : ∃ z, z = (T.setVm s.vm).setFrames (.invoking m args :: below) := ⟨_, rfl⟩
  rw [← hA] at Y
  have hvm : s'.vm = s.vm := by rw [hA]; rfl
  have hhp : s'.heap = H := by rw [hA]; exact hT
  have hW0 : s.WarmedH s'.vm := by rw [hvm]; exact State.WarmedH.refl s
  have hat' : ∀ w ∈ vx_atS own ic cls names, w.before args s' = true := fun w hw => vx_ot_at hW0 hvm.symm (hgood w (List.mem_cons_of_mem _ (List.mem_cons_of_mem _ hw))) (hat w hw)
  have hk' : (Cond.classLink own ik cls).before args s' = true := vx_ot_at hW0 hvm.symm (hgood _ List.mem_cons_self) hk
  have hini' : (Cond.initialized cls).before args s' = true := vx_ot_at hW0 hvm.symm (hgood _ (List.mem_cons_of_mem _ List.mem_cons_self)) hini
  have hU' : vx_Zq Bundle.tN "UNASSIGNED_STACK" Bundle.steD A s' s'.heap := by rw [hhp]; exact vx_Zq.moved hW0.alike (hU.kept hS.2.1)
  have hN' : vx_Zq Bundle.tN "SUPPRESSED_SENTINEL" Bundle.listD A s' s'.heap := by rw [hhp]; exact vx_Zq.moved hW0.alike (hN.kept hS.2.1)
  have h : ∀ w ∈ Bundle.ownAtoms own ic cls names, w.before args s' = true := vx_own hat' (vx_isRefq hU'.1) (vx_isRefq hN'.1) hU'.2.word hN'.2.word
  have hown' : s'.vm.findClass own = some m.cls := by rw [hvm]; exact hown
  have hins : (Cond.instantiable cls 6).before args s' = true := h _ (by simp [Bundle.ownAtoms])
  obtain ⟨vm₁, cX, kX, hfX, hkX, -, -, X₁, st1⟩ := Y.newCold hexec (own := own) (C := cls) (index := ik) (n := 6) hown' hk' hins hini'
    (g := F0 m pc ls rest) rfl (by rw [hb]; exact d0) (Nat.le_refl _) (Nat.le_refl _)
  generalize hT1 : (T.setVm vm₁).pushCell { cls := cX, slots := kX.instanceTypes.map defaultValue, vm := .none } = T1 at X₁ st1
  have hcat : (Value.ref T.heap.size).category = 1 := rfl
  have hcellA : T1.heap[T.heap.size]? = some (freshCell cX kX) := by rw [← hT1]; exact State.heap_pushCell_size _ _
  have d3' : decode c.code (pc + 3) = .ok (.dup, 1) := by rw [hb]; exact d3
  have d4' : decode c.code (pc + 4) = .ok (.ldc is, 2) := by rw [hb]; exact d4
  have hstr' : vk_R own is text sa s' := vk_R.warm hW0 hstr
  obtain ⟨U, hsteps, hrun, hend, hW, hsame, ce, hce, hO⟩ := X₁.ctorThrowS hexec htr (own := own) (cls := cls) (names := names) (ic := ic) hown' hcls hnames h (fun x hx => nomatch hx) hfX hkX hcellA (by rw [hhp, hT]; exact Nat.le_refl _) (msg := .ref sa) rfl
    (g := { method := m, pc := pc + 6, locals := ls, stack := .ref sa :: .ref T.heap.size :: .ref T.heap.size :: rest, locked := none }) rfl hsize rfl rfl (rest := rest) rfl
    (by rw [hb]; exact d6) (by rw [hb]; exact d9) hout hRframes (by simp only [List.map_cons, List.sum_cons, hcat]; omega) hlocks
  obtain ⟨f1, f2⟩ := vx_frame hsame
  rw [hhp] at f1 f2
  have hWs : s.WarmedH U.vm := State.WarmedH.trans hW0 hW
  have hcl : s.vm.findClass cls = some ce.cls := by
    have h9 := hO.cls
    rw [hvm] at h9
    exact h9
  have hall : s.sameButNew ({ U with vm := s.vm } : State) locs mc ms := by
    subst hA
    obtain ⟨e1, e2⟩ := hsame
    rw [State.setFrames_setFrames] at e1
    have h2 : (T.setVm s.vm).sameButNew ({ U with vm := s.vm } : State) [] (0 + 1) (0 + 6) := ⟨e1, e2⟩
    have h3 := X.same.trans h2
    rw [List.append_nil] at h3
    exact h3.mono hc hs
  refine ⟨U, ?_, .threw T.heap.size, hrun, hend, Or.inr ⟨T.heap.size, rfl, cls, ce, locs, hx U hWs.alike f1 (fun q hq => f2 q hq (fun z hz => nomatch hz)), hce, hO.vm, hcl, hWs, hall, hf⟩⟩
  refine st1 _ ?_
  show Steps p.tables e below (T1.setTop { method := m, pc := pc + 3, locals := ls, stack := .ref T.heap.size :: rest, locked := none }) _
  jvm_step X₁.here [X₁.here.top, hexec, d3', Value.category]
  exact X₁.ldcString hexec (own := own) (text := text) (index := is) (a := sa) hown' hstr'.1 hstr'.2
    (g := { method := m, pc := pc + 4, locals := ls, stack := .ref T.heap.size :: .ref T.heap.size :: rest, locked := none }) rfl d4' _ hsteps
/-- 'throw new E("text")', the text by a wide index -/
theorem vx_throwSW {cc : ByteArray} {pc : Nat} (hexec : p.tables.exec = Jvm.exec) (hb : c.code = cc) (hl : l.stackTraces = false) {own cls text : String} {names : List String} {ik is ic mc ms sa : Nat} {A : Nat → Prop}
    (hown : s.vm.findClass own = some m.cls) (hcls : Bundle.fit cls = true) (hnames : ∀ n ∈ names, Bundle.fit n = true)
    (hk : (Cond.classLink own ik cls).before args s = true) (hini : (Cond.initialized cls).before args s = true) (hstr : vk_R own is text sa s) (hat : ∀ w ∈ vx_atS own ic cls names, w.before args s = true)
    (hgood : ∀ w ∈ Cond.classLink own ik cls :: Cond.initialized cls :: vx_atS own ic cls names, vx_ot w = true)
    (hU : vx_Zq Bundle.tN "UNASSIGNED_STACK" Bundle.steD A s s.heap) (hN : vx_Zq Bundle.tN "SUPPRESSED_SENTINEL" Bundle.listD A s s.heap) (hS : va_S A s.heap H locs) (hsize : ls.size = c.maxLocals)
    (d0 : decode cc pc = .ok (.new ik, 3)) (d3 : decode cc (pc + 3) = .ok (.dup, 1)) (d4 : decode cc (pc + 4) = .ok (.ldc_w is, 3)) (d7 : decode cc (pc + 7) = .ok (.invokespecial ic, 3)) (d10 : decode cc (pc + 10) = .ok (.athrow, 1))
    (hout : ∀ x ∈ c.exceptionTable.toList, covers x (pc + 10) = false)
    (hRframes : names.length + 3 < R.frames) (hRlocals : (rest.map fun v => v.category).sum + (13 * (names.length + 1) + 43) ≤ R.locals) (hRcells : cells + 1 ≤ R.cells) (hRslots : slots + 6 ≤ R.slots) (hlocks : meth.locks = false)
    (hx : ∀ t : State, s.vm.Alike t.vm → H.size ≤ t.heap.size → (∀ q : Nat, q < H.size → t.heap[q]? = H[q]?) → XC cls s t)
    (hf : ∀ z ∈ locs, free z.base) (hc : cells + 1 ≤ mc) (hs : slots + 6 ≤ ms) :
    W p l e R s m args below meth c H locs cells slots (vx_MQ below Qc XC args s mc ms free) (F0 m pc ls rest) := by
  intro T hT X
  have htr : e.platform.stackTraces = false := (show e.platform.stackTraces = l.stackTraces by rw [X.admits.platform]).trans hl
  have Y := vx_rebase X (R' := { frames := R.frames, locals := R.locals, cells := 1, slots := 6 }) (Nat.le_refl _) (Nat.le_refl _) hRcells hRslots
  obtain ⟨s', hA⟩ : ∃ z, z = (T.setVm s.vm).setFrames (.invoking m args :: below) := ⟨_, rfl⟩
  rw [← hA] at Y
  have hvm : s'.vm = s.vm := by rw [hA]; rfl
  have hhp : s'.heap = H := by rw [hA]; exact hT
  have hW0 : s.WarmedH s'.vm := by rw [hvm]; exact State.WarmedH.refl s
  have hat' : ∀ w ∈ vx_atS own ic cls names, w.before args s' = true := fun w hw => vx_ot_at hW0 hvm.symm (hgood w (List.mem_cons_of_mem _ (List.mem_cons_of_mem _ hw))) (hat w hw)
  have hk' : (Cond.classLink own ik cls).before args s' = true := vx_ot_at hW0 hvm.symm (hgood _ List.mem_cons_self) hk
  have hini' : (Cond.initialized cls).before args s' = true := vx_ot_at hW0 hvm.symm (hgood _ (List.mem_cons_of_mem _ List.mem_cons_self)) hini
  have hU' : vx_Zq Bundle.tN "UNASSIGNED_STACK" Bundle.steD A s' s'.heap := by rw [hhp]; exact vx_Zq.moved hW0.alike (hU.kept hS.2.1)
  have hN' : vx_Zq Bundle.tN "SUPPRESSED_SENTINEL" Bundle.listD A s' s'.heap := by rw [hhp]; exact vx_Zq.moved hW0.alike (hN.kept hS.2.1)
  have h : ∀ w ∈ Bundle.ownAtoms own ic cls names, w.before args s' = true := vx_own hat' (vx_isRefq hU'.1) (vx_isRefq hN'.1) hU'.2.word hN'.2.word
  have hown' : s'.vm.findClass own = some m.cls := by rw [hvm]; exact hown
  have hins : (Cond.instantiable cls 6).before args s' = true := h _ (by simp [Bundle.ownAtoms])
  obtain ⟨vm₁, cX, kX, hfX, hkX, -, -, X₁, st1⟩ := Y.newCold hexec (own := own) (C := cls) (index := ik) (n := 6) hown' hk' hins hini'
    (g := F0 m pc ls rest) rfl (by rw [hb]; exact d0) (Nat.le_refl _) (Nat.le_refl _)
  generalize hT1 : (T.setVm vm₁).pushCell { cls := cX, slots := kX.instanceTypes.map defaultValue, vm := .none } = T1 at X₁ st1
  have hcat : (Value.ref T.heap.size).category = 1 := rfl
  have hcellA : T1.heap[T.heap.size]? = some (freshCell cX kX) := by rw [← hT1]; exact State.heap_pushCell_size _ _
  have d3' : decode c.code (pc + 3) = .ok (.dup, 1) := by rw [hb]; exact d3
  have d4' : decode c.code (pc + 4) = .ok (.ldc_w is, 3) := by rw [hb]; exact d4
  have hstr' : vk_R own is text sa s' := vk_R.warm hW0 hstr
  obtain ⟨U, hsteps, hrun, hend, hW, hsame, ce, hce, hO⟩ := X₁.ctorThrowS hexec htr (own := own) (cls := cls) (names := names) (ic := ic) hown' hcls hnames h (fun x hx => nomatch hx) hfX hkX hcellA (by rw [hhp, hT]; exact Nat.le_refl _) (msg := .ref sa) rfl
    (g := { method := m, pc := pc + 7, locals := ls, stack := .ref sa :: .ref T.heap.size :: .ref T.heap.size :: rest, locked := none }) rfl hsize rfl rfl (rest := rest) rfl
    (by rw [hb]; exact d7) (by rw [hb]; exact d10) hout hRframes (by simp only [List.map_cons, List.sum_cons, hcat]; omega) hlocks
  obtain ⟨f1, f2⟩ := vx_frame hsame
  rw [hhp] at f1 f2
  have hWs : s.WarmedH U.vm := State.WarmedH.trans hW0 hW
  have hcl : s.vm.findClass cls = some ce.cls := by
    have h9 := hO.cls
    rw [hvm] at h9
    exact h9
  have hall : s.sameButNew ({ U with vm := s.vm } : State) locs mc ms := by
    subst hA
    obtain ⟨e1, e2⟩ := hsame
    rw [State.setFrames_setFrames] at e1
    have h2 : (T.setVm s.vm).sameButNew ({ U with vm := s.vm } : State) [] (0 + 1) (0 + 6) := ⟨e1, e2⟩
    have h3 := X.same.trans h2
    rw [List.append_nil] at h3
    exact h3.mono hc hs
  refine ⟨U, ?_, .threw T.heap.size, hrun, hend, Or.inr ⟨T.heap.size, rfl, cls, ce, locs, hx U hWs.alike f1 (fun q hq => f2 q hq (fun z hz => nomatch hz)), hce, hO.vm, hcl, hWs, hall, hf⟩⟩
  refine st1 _ ?_
  show Steps p.tables e below (T1.setTop { method := m, pc := pc + 3, locals := ls, stack := .ref T.heap.size :: rest, locked := none }) _
  jvm_step X₁.here [X₁.here.top, hexec, d3', Value.category]
  exact X₁.ldcStringW hexec (own := own) (text := text) (index := is) (a := sa) hown' hstr'.1 hstr'.2
    (g := { method := m, pc := pc + 4, locals := ls, stack := .ref T.heap.size :: .ref T.heap.size :: rest, locked := none }) rfl d4' _ hsteps
end Ends
section Bodies
variable {l : Launch}
theorem vx_ofW {y : MethodName} {ws ws' : List Cond} {rm : Room} {Pc : Array Value → State → Prop} {Qc : Array Value → State → Outcome → State → Prop} {XC : String → State → State → Prop} {mc ms : Nat} {free : Addr → Prop} {cc : ByteArray} {maxL : Nat} {ret : Option FieldType}
    (hy : plainName y.cls = true) (hw : ws = Cond.code y cc maxL ret :: ws')
    (body : ∀ p e s m args below meth c s₁, BodyLoose p l y (headSpec ws rm) cc maxL ret e s m args below meth c s₁ → c.maxLocals = maxL → (∀ x ∈ c.exceptionTable.toList, False) → Pc args s →
      W p l e (headSpec ws rm).room s m args below meth c s.heap [] 0 0 (vx_MQ below Qc XC args s mc ms free) (entryFrame m args maxL)) : vx_Met l y ws rm Pc Qc XC mc ms free := by
  refine MetFree.of_bodyS (code := cc) (maxLocals := maxL) (ret := ret) hy ?_ ?_
  · intro args s m h hn
    obtain ⟨meth, c, h1, h2, h3, h4, h5, h6, -, -⟩ := Cond.code_spec hn (atoms_spec (ws := ws) h _ (by rw [hw]; exact List.mem_cons_self))
    exact ⟨meth, c, h1, h2, h3, h4, h5, h6⟩
  · intro p e s m args below meth c s₁ B hml hP _
    have hh0 : s₁.heap = s.heap := by rw [B.state]; rfl
    have ht : ∀ x ∈ c.exceptionTable.toList, False := by
      obtain ⟨meth9, c9, h1, h2, -, -, -, -, h7, -⟩ := Cond.code_spec B.named (atoms_spec (ws := ws) B.pre _ (by rw [hw]; exact List.mem_cons_self))
      cases Option.some.inj (h1.symm.trans B.method)
      cases Option.some.inj (h2.symm.trans (Stand.of_body B).code)
      intro x hx
      rw [Array.isEmpty_iff.mp h7] at hx
      cases hx
    obtain ⟨t, a1, o, b1, b2, b3⟩ := body p e s m args below meth c s₁ B hml ht hP s₁ hh0 (Stand.of_body B)
    exact ⟨t, o, a1, b1, b2, b3⟩
/-- the table of a body with handlers -/
theorem vx_table {p : Program} {x y : MethodName} {S : Spec} {cc bytes : ByteArray} {maxL maxL' : Nat} {ret ret' : Option FieldType} {e : Env} {s s₁ : State} {m : MethodId} {args : Array Value} {below : List Frame} {meth : Method} {c : Code} {hh : List (Nat × Nat × Nat × Nat)}
    (B : BodyLoose p l y S cc maxL ret e s m args below meth c s₁) (h : (Cond.codeWith y bytes maxL' ret' hh).before args s = true) : c.exceptionTable.toList = tableOf hh := by
  obtain ⟨m9, meth9, c9, hn9, h1, h2, -, -, h6, -⟩ := Cond.codeWith_spec h
  cases Option.some.inj (hn9.symm.trans B.named)
  cases Option.some.inj (h1.symm.trans B.method)
  cases Option.some.inj (h2.symm.trans (Stand.of_body B).code)
  rw [← h6, table_eq]
end Bodies
end VXA
/-! ===== END ===== -/
/-! ===== BEGIN a static call of a method with an exception table ===== -/
section VXS
variable {p : Program} {l : Launch} {e : Env} {R : Room} {s : State} {m : MethodId} {args : Array Value} {below : List Frame} {meth : Method} {c : Code} {T : State} {H : Heap} {locs : List Loc} {cells slots : Nat}
abbrev vx_CSW (R : Room) (s : State) (args : Array Value) (own : String) (index : Nat) (y : MethodName) (bytes : ByteArray) (maxL : Nat) (ret : Option FieldType) (hh : List (Nat × Nat × Nat × Nat)) (ws : List Cond) (rm : Room) (mc ms n : Nat) : Prop :=
  (rm.cells = mc ∧ rm.slots = ms ∧ rm.frames + 1 ≤ R.frames ∧ 8 + (maxL + 11) + rm.locals ≤ R.locals ∧ (∀ w ∈ ws, ∀ (a' : Array Value) (U : State), s.WarmedH U.vm → w.before a' U = true) ∧ Cond.codeWith y bytes maxL ret hh ∈ ws) ∧
  (Cond.codeWith y bytes maxL ret hh).before args s = true ∧ (Cond.initialized y.cls).before args s = true ∧ (y.cls ≠ "java/lang/invoke/MethodHandle" ∧ y.cls ≠ "java/lang/invoke/VarHandle") ∧
  (∀ sig, parseMethodDescriptor y.desc = some sig → n = sig.parameters.length) ∧ (Cond.methodLink own index y).before args s = true ∧ (Cond.static y).before args s = true
theorem vx_cwSW {own : String} {index maxL mc ms : Nat} {y : MethodName} {bytes : ByteArray} {ret : Option FieldType} {hh : List (Nat × Nat × Nat × Nat)} {Ts ws ws' : List Cond} {rm : Room} (n : Nat) (ht : ∀ w ∈ Ts, w.before args s = true) (hT : GoodIn Ts (va_wsS own index y ws)) (hw : ws = Cond.codeWith y bytes maxL ret hh :: ws') (hrc : rm.cells = mc) (hrs : rm.slots = ms)
    (hd : y.cls ≠ "java/lang/invoke/MethodHandle" ∧ y.cls ≠ "java/lang/invoke/VarHandle" ∧ (parseMethodDescriptor y.desc).map (fun d => d.parameters.length) = some n) (hR : rm.frames + 1 ≤ R.frames ∧ 8 + (maxL + 11) + rm.locals ≤ R.locals) :
    vx_CSW R s args own index y bytes maxL ret hh ws rm mc ms n := by
  have ok : ∀ w ∈ va_wsS own index y ws, w.before args s = true := fun w h => ht w (hT w h).1
  have hG : GoodIn Ts ws := fun w h => hT w (by unfold va_wsS; exact List.mem_append_right _ h)
  have hc : Cond.codeWith y bytes maxL ret hh ∈ ws := by rw [hw]; exact List.mem_cons_self
  refine ⟨⟨hrc, hrs, hR.1, hR.2, pay_in ht hG, hc⟩, ht _ (hG _ hc).1, ok _ (by simp [va_wsS]), ⟨hd.1, hd.2.1⟩, fun sig h => ?_, ok _ (by simp [va_wsS]), ok _ (by simp [va_wsS])⟩
  have h2 := hd.2.2
  rw [h] at h2
  exact (Option.some.inj h2).symm
theorem vx_callSW (X : Stand p l e R s m args below meth c T locs cells slots) (hexec : p.tables.exec = Jvm.exec) {own : String} {index : Nat} {y : MethodName} {bytes : ByteArray} {maxL : Nat} {ret : Option FieldType} {hh : List (Nat × Nat × Nat × Nat)}
    (hown : s.vm.findClass own = some m.cls) (hlink : (Cond.methodLink own index y).before args s = true) (hstat : (Cond.static y).before args s = true) (hinit : (Cond.initialized y.cls).before args s = true)
    (hcode : (Cond.codeWith y bytes maxL ret hh).before args s = true) (hy : y.cls ≠ "java/lang/invoke/MethodHandle" ∧ y.cls ≠ "java/lang/invoke/VarHandle")
    {W9 : Nat} {Pre : Pt → Array Value → Prop} {Post : Pt → Array Value → Option Value → Pt → Prop} (hK : Back l R p e below s args y 3 W9 Pre Post)
    {g : JFrame} (hg : g.method = m) (hsize : g.locals.size = c.maxLocals) {argsL rest : List Value} (hlen : ∀ sig, parseMethodDescriptor y.desc = some sig → argsL.length = sig.parameters.length)
    (hstack : g.stack = argsL.reverse ++ rest) (hW : 2 * g.monitorRoom + (rest.map fun v => v.category).sum ≤ W9) (hdg : decode c.code g.pc = .ok (.invokestatic index, 3))
    (hpre : ∀ vm₁, s.WarmedH vm₁ → Pre ⟨T.setVm vm₁, locs, cells, slots⟩ argsL.toArray) :
    ∃ (v : Option Value) (vm₁ : Vm) (B : Pt), s.WarmedH vm₁ ∧ Stand p l e R s m args below meth c B.U B.locs B.cells B.slots ∧ Post ⟨T.setVm vm₁, locs, cells, slots⟩ argsL.toArray v B ∧
      ∀ target, Steps p.tables e below (B.U.setTop { g with pc := g.pc + 3, stack := v.toList ++ rest }) target → Steps p.tables e below (T.setTop g) target := by
  obtain ⟨mk, methM, cM, hnamed, hmethM, -, -, -, -, -, -, hsigM⟩ := Cond.codeWith_spec hcode
  have hstatic : methM.isStatic = true := Cond.static_spec hnamed hmethM hstat
  obtain ⟨kP, hkP, -⟩ := className_of_methodNamed hnamed
  have hinitP : kP.init = .initialized := Cond.initialized_spec (findClass_of_methodNamed hnamed) hkP hinit
  obtain ⟨vm₁, X₁, hstep₁⟩ := X.invokestatic hexec hown hlink hnamed hmethM hstatic hkP hinitP hy (g := g) hg (argsL := argsL) (rest := rest) (hlen _ hsigM) hstack hdg
  obtain ⟨v, B, X', hpost, hsteps⟩ := hK m meth c ⟨T.setVm vm₁, locs, cells, slots⟩ { g with stack := rest } (.invokestatic index) mk argsL.toArray X₁ hg hsize hdg hW (X₁.named hnamed) (hpre vm₁ X₁.warmed)
  exact ⟨v, vm₁, B, X₁.warmed, X', hpost, fun target h => hstep₁ _ fun acts => by rw [doInvoke_state]; exact hsteps.trans h⟩
theorem vx_runSW {y : MethodName} {bytes cc : ByteArray} {maxL nL mc ms n index : Nat} {ret : Option FieldType} {hh : List (Nat × Nat × Nat × Nat)} {ws : List Cond} {rm : Room} {Pc : Array Value → State → Prop} {Qc : Array Value → State → Outcome → State → Prop} {free : Addr → Prop} {Ts : List Cond} {own : String} {As rest : List Value} {g : JFrame}
    (S : CallFix p m c cc nL s args Ts own) (hM : Met l y ws rm Pc Qc mc ms free) (cw : vx_CSW R s args own index y bytes maxL ret hh ws rm mc ms n) (hp : PreS s H Pc As)
    (hg : g.method = m) (hn : As.length = n) (hsize : g.locals.size = nL) (hstack : g.stack = As.reverse ++ rest) (hW : 2 * g.monitorRoom + (rest.map fun v => v.category).sum ≤ 8) (hdg : decode cc g.pc = .ok (.invokestatic index, 3)) (hf : cells + mc ≤ R.cells ∧ slots + ms ≤ R.slots) :
    va_Run p l e R s m args below meth c H locs cells slots mc ms g rest (Qc As.toArray) (free) := by
  obtain ⟨⟨hrc, hrs, hfr, hlo, hws, hcw⟩, hcode, hini, hy, hlen, hl, hstt⟩ := cw
  have hK : Back l R p e below s args y 3 8 (PreOf R mc ms Pc) (PostOf Qc mc ms free) := va_backW (hh := hh) (bytes := bytes) (maxL := maxL) (ret := ret) hM hp.1 hrc hrs hfr hlo hws hcw (fun a' U hW => word_at hW (Or.inl (by first | rfl | simp [Cond.onTables, Cond.keeps, Cond.steady])) hini)
  obtain ⟨hx, hb, hml, ho, -⟩ := S
  intro T hT X
  obtain ⟨v, vm₁, ⟨U', l2, c2, s2⟩, hW₁, X', ⟨g', mk, t, L, e1, e2, hq, h1, hL, h2, h3⟩, st⟩ := vx_callSW X hx (hh := hh) (bytes := bytes) (maxL := maxL) (ret := ret) ho hl hstt hini hcode hy hK hg (hsize.trans hml.symm) (argsL := As) (rest := rest) (fun sig h => hn.trans (hlen sig h)) hstack hW (by rw [hb]; exact hdg)
    (fun vm₁ hW₁ => ⟨hf.1, hf.2, hp.2 (T.setVm vm₁) hT hW₁⟩)
  dsimp only [Pt.U, Pt.locs, Pt.cells, Pt.slots] at X' e1 e2 h1 h2 h3 st
  subst h1; subst h2; subst h3
  exact ⟨v, (T.setVm vm₁).calling g' mk As.toArray, t, U', L, hT, X', hL, e1, e2, hq, st⟩
/-- not caught here, past rows that name other classes: it goes on to the caller -/
theorem vx_outP {p : Program} {l : Launch} {e : Env} {R : Room} {s : State} {m : MethodId} {args : Array Value} {below : List Frame} {meth : Method} {c : Code} {H : Heap} {locs : List Loc} {cells slots : Nat} {free : Addr → Prop} {ls : Array Slot} {rest : List Value} {Qc : Array Value → State → Outcome → State → Prop} {XC : String → State → State → Prop}
    {pc : Nat} {own E : String} {ce : Cell} {q : Addr} {mc ms : Nat} (hown : s.vm.findClass own = some m.cls) (hlocks : meth.locks = false)
    (hpass : ∀ z ∈ c.exceptionTable.toList, covers z pc = false ∨ (z.catchType ≠ 0 ∧ ∃ nm : String, (Cond.classLink own z.catchType nm).before args s = true ∧ va_Nc E nm s)) (hcell : H[q]? = some ce) (hv : ce.vm = .none) (hcl : s.vm.findClass E = some ce.cls)
    (hx : ∀ t : State, t.heap = H → s.vm.Alike t.vm → XC E s t) (hf : ∀ z ∈ locs, free z.base) (hc : cells ≤ mc) (hs : slots ≤ ms) :
    vx_W p l e R s m args below meth c H locs cells slots (vx_MQ below Qc XC args s mc ms free) (F0 m pc ls rest) q := by
  intro T hT X
  have hpl : e.platform.magicAccessors = ({} : Platform).magicAccessors := by rw [X.admits.platform]
  obtain ⟨vm', hW', X', st⟩ := X.outThrough hlocks q (g := F0 m pc ls rest) rfl rfl rfl (cell := ce) (by rw [hT]; exact hcell) (by rw [hv]; rfl)
    (by obtain ⟨k9, h9, -⟩ := Vm.findClass_spec hcl; exact ⟨k9, h9⟩) (fun z hz => by
      rcases hpass z hz with h | ⟨hz0, nm, hl1, hn1⟩
      · exact Or.inl h
      · obtain ⟨c6, hc6, hcl6⟩ := Cond.classLink_spec hown hl1 e.platform hpl
        obtain ⟨a8, b8, h1, h2, h3⟩ := hn1
        cases Option.some.inj (h1.symm.trans hcl)
        cases Option.some.inj (h2.symm.trans hc6)
        exact Or.inr ⟨hz0, _, hcl6, h3⟩)
  obtain ⟨g₀, hfr⟩ := X'.frames_eq
  have hcell9 : ((T.setVm vm').setFrames (.throwing q :: below)).heap[q]? = some ce := by
    show T.heap[q]? = some ce
    rw [hT]; exact hcell
  have hend : Ended ((T.setVm vm').setFrames (.throwing q :: below)) below (.threw q) := State.frames_setFrames _ (State.cur_lt_of_frames hfr)
  refine ⟨(T.setVm vm').setFrames (.throwing q :: below), ?_, .threw q, X'.here.running, hend, Or.inr ⟨q, rfl, E, ce, locs, hx _ hT (X'.ends _).1.alike, hcell9, hv, hcl, (X'.ends _).1, (X'.ends _).2.mono hc hs, hf⟩⟩
  rw [X.pushThrowing_eq]
  exact st
/-- a thing of a world lies in the heap -/
theorem vx_lt {D : va_G} {cl : List vw_C} {ws : va_W} {H1 : Heap} (h : va_P D cl ws H1) {k : Nat} {q : Nat × va_E} (hk : ws[k]? = some q) : q.1 < H1.size := (h k q hk).lt
end VXS
/-! ===== END ===== -/
/-! ===== BEGIN methods with a table of their own: called by a name, returning or throwing ===== -/
section VXH
/-! vx_backW, vx_callVX, vx_callSX, vx_callVW, vx_runVW, vx_runVX, vx_runSX, vx_ofWH follow the same proofs as their sisters above (Free/Laws.lean, Shelf42/LK1.lean); vx_outP calls Shelf42/NT130.lean (outThrough). -/
section
variable {l : Launch} {R : Room} {p : Program} {e : Env} {below : List Frame} {s : State} {sargs : Array Value} {y : MethodName} {len W9 : Nat}
theorem vx_backW {ws : List Cond} {rm : Room} {Pc : Array Value → State → Prop} {Qc : Array Value → State → Outcome → State → Prop} {XC : String → State → State → Prop} {mc ms : Nat} {free : Addr → Prop} {bytes : ByteArray} {maxL : Nat} {ret : Option FieldType} {hh : List (Nat × Nat × Nat × Nat)}
    (hM : vx_Met l y ws rm Pc Qc XC mc ms free) (hblind : FrameBlind Pc) (hrc : rm.cells = mc) (hrs : rm.slots = ms)
    (hframes : rm.frames + 1 ≤ R.frames) (hlocals : W9 + (maxL + 11) + rm.locals ≤ R.locals)
    (hws : ∀ w ∈ ws, ∀ a' U, s.WarmedH U.vm → w.before a' U = true) (hcode : Cond.codeWith y bytes maxL ret hh ∈ ws) (hinit : ∀ a' U, s.WarmedH U.vm → (Cond.initialized y.cls).before a' U = true) :
    vx_Back l R p e below s sargs y len W9 (PreOf R mc ms Pc) (PostOf Qc mc ms free) (vx_Post XC mc ms free) := by
  intro m meth c A g ig mk a X hg hsize hdg hW hn hp
  have h1 : (headSpec ws rm).pre.before a A.U = true := atoms_intro fun w hw => hws w hw _ _ X.warmed
  have h2 : (Cond.codeWith y bytes maxL ret hh).before a A.U = true := hws _ hcode _ _ X.warmed
  have h3 : (Cond.initialized y.cls).before a A.U = true := hinit _ _ X.warmed
  have h4 : A.cells + (headSpec ws rm).room.cells ≤ R.cells := by rw [show (headSpec ws rm).room.cells = mc from hrc]; exact hp.1
  have h5 : A.slots + (headSpec ws rm).room.slots ≤ R.slots := by rw [show (headSpec ws rm).room.slots = ms from hrs]; exact hp.2.1
  have hPc : Pc a (A.U.calling g mk a) := hblind _ _ _ _ hp.2.2
  obtain ⟨U, Ls, c0, s0⟩ := A
  dsimp only [Pt.U, Pt.locs, Pt.cells, Pt.slots] at h1 h2 h3 h4 h5 X hn hPc ⊢
  obtain ⟨m9, methY, cY, hn9, hmY, hcY, -, hlY, -⟩ := Cond.codeWith_spec h2
  cases Option.some.inj (hn9.symm.trans hn)
  obtain ⟨kY, hkY, -⟩ := className_of_methodNamed hn
  have hinitY : kY.init = .initialized := Cond.initialized_spec (findClass_of_methodNamed hn) hkY h3
  have h : At U g.method c below := by rw [hg]; exact X.here
  have hlocals9 : W9 + (maxL + 11) + (headSpec ws rm).room.locals ≤ R.locals := hlocals
  have happ : (headSpec ws rm).appliesLoose y e.platform (U.calling g mk a) = true :=
    Spec.appliesLoose_calling (g := g) h hdg hn hkY hinitY
      (X.room_calling (g := g) (R' := (headSpec ws rm).room) hsize hmY hcY hframes (by rw [hlY]; omega) h4 h5) h1
  obtain ⟨mid, hmid⟩ := h.above
  have hfr : (U.setTop g).frames = (.java g :: mid) ++ below := by rw [State.frames_setTop' g h.top, hmid]; rfl
  obtain ⟨o, s₂, hsteps, -, hend, hq⟩ := Steps.callFree hM p X.admits X.cas X.clock (acts := []) hfr happ hPc trivial
  have hq' : vx_Q Qc XC mc ms free a (U.calling g mk a) o s₂ := hq
  rw [State.frames_setTop' g h.top] at hend
  obtain ⟨g₀, hg0⟩ := Option.isSome_iff_exists.mp h.top
  obtain ⟨r, hr⟩ := State.topJava?_eq_some.mp hg0
  have hr' : (({ U with heap := s₂.heap, slotsUsed := s₂.slotsUsed } : State).setVm s₂.vm).frames = .java g₀ :: r := hr
  rcases hq' with ⟨hqc, L, hfe, hL⟩ | ⟨q, rfl, E, ce, L, hx, hce, hcv, hcl, hW₂, hsm, hL⟩
  · obtain ⟨⟨v, rfl⟩, hW₂, e2, q2, q3, q4, q5, q6⟩ := id hfe
    have e3 : s₂ = ({ (U.calling g mk a).setFrames s₂.frames with heap := s₂.heap, slotsUsed := s₂.slotsUsed } : State).setVm s₂.vm := by
      have : s₂ = ({ s₂ with vm := (U.calling g mk a).vm } : State).setVm s₂.vm := rfl
      rw [e2] at this
      exact this
    obtain ⟨c₂, i₂, len₂, hc₂, hd₂, hf₂⟩ := hend
    have hW' : U.WarmedH s₂.vm := hW₂
    have hcc : c₂ = c := by
      have h1 : s₂.code? g.method = U.code? g.method := by
        rw [State.code?_eq, State.code?_eq, hW'.alike.method?]
      exact Option.some.inj (hc₂.symm.trans (h1.trans h.code))
    subst hcc
    have hlen : len₂ = len := by rw [hdg] at hd₂; cases hd₂; rfl
    subst hlen
    have hs₂ : s₂ = (({ U with heap := s₂.heap, slotsUsed := s₂.slotsUsed } : State).setVm s₂.vm).setTop { g with pc := g.pc + len₂, stack := v.toList ++ g.stack } := by
      refine e3.trans ?_
      rw [hf₂, State.calling_eq h.top, State.setFrames_setFrames, State.setTop_of_frames _ hr', hr]
      rfl
    have hsame : U.sameButNew ({ U with heap := s₂.heap, slotsUsed := s₂.slotsUsed } : State) L mc ms := by
      refine ⟨?_, q2, q3, q4, q5, q6⟩
      obtain ⟨t, ht, -⟩ := State.frames_cons hr
      show ({ U with heap := s₂.heap, slotsUsed := s₂.slotsUsed } : State) = { U.setFrames U.frames with heap := s₂.heap, slotsUsed := s₂.slotsUsed }
      rw [State.setFrames_self ht]
    subst hg
    refine Or.inl ⟨v, ⟨(({ U with heap := s₂.heap, slotsUsed := s₂.slotsUsed } : State).setVm s₂.vm), Ls ++ L, c0 + mc, s0 + ms⟩,
      ⟨X.admits, X.cas, X.clock, X.frames, X.room, X.hears, X.method, X.code, (X.here.setHeapUsed s₂.heap s₂.slotsUsed).setVm hW'.alike, X.tail, State.WarmedH.trans X.warmed hW', X.limits, X.bytes, X.same.trans (hsame.setVm s.vm)⟩,
      ⟨g, mk, s₂, L, rfl, rfl, hqc, rfl, hL, rfl, rfl⟩, ?_⟩
    show Steps p.tables e below _ ((({ U with heap := s₂.heap, slotsUsed := s₂.slotsUsed } : State).setVm s₂.vm).setTop { g with pc := g.pc + len₂, stack := v.toList ++ g.stack })
    rw [← hs₂]
    exact hsteps
  · obtain ⟨e2, q2, q3, q4, q5, q6⟩ := id hsm
    have e3 : s₂ = ({ (U.calling g mk a).setFrames s₂.frames with heap := s₂.heap, slotsUsed := s₂.slotsUsed } : State).setVm s₂.vm := by
      have : s₂ = ({ s₂ with vm := (U.calling g mk a).vm } : State).setVm s₂.vm := rfl
      rw [e2] at this
      exact this
    have hf₂ : s₂.frames = .throwing q :: .java g :: U.frames.tail := hend
    have hW' : U.WarmedH s₂.vm := hW₂
    have hs₂ : s₂ = ((({ U with heap := s₂.heap, slotsUsed := s₂.slotsUsed } : State).setVm s₂.vm).setTop g).pushFrame (.throwing q) := by
      refine e3.trans ?_
      rw [hf₂, State.calling_eq h.top, State.setFrames_setFrames, State.pushFrame, State.frames_setTop _ hr', State.setTop_of_frames _ hr', State.setFrames_setFrames, hr]
      rfl
    have hsame : U.sameButNew ({ U with heap := s₂.heap, slotsUsed := s₂.slotsUsed } : State) L mc ms := by
      refine ⟨?_, q2, q3, q4, q5, q6⟩
      obtain ⟨t, ht, -⟩ := State.frames_cons hr
      show ({ U with heap := s₂.heap, slotsUsed := s₂.slotsUsed } : State) = { U.setFrames U.frames with heap := s₂.heap, slotsUsed := s₂.slotsUsed }
      rw [State.setFrames_self ht]
    subst hg
    refine Or.inr ⟨q, ⟨(({ U with heap := s₂.heap, slotsUsed := s₂.slotsUsed } : State).setVm s₂.vm), Ls ++ L, c0 + mc, s0 + ms⟩,
      ⟨X.admits, X.cas, X.clock, X.frames, X.room, X.hears, X.method, X.code, (X.here.setHeapUsed s₂.heap s₂.slotsUsed).setVm hW'.alike, X.tail, State.WarmedH.trans X.warmed hW', X.limits, X.bytes, X.same.trans (hsame.setVm s.vm)⟩,
      ⟨g, mk, s₂, L, E, ce, rfl, rfl, hx, hce, hcv, hcl, rfl, hL, rfl, rfl⟩, ?_⟩
    show Steps p.tables e below _ (((({ U with heap := s₂.heap, slotsUsed := s₂.slotsUsed } : State).setVm s₂.vm).setTop g).pushFrame (.throwing q))
    rw [← hs₂]
    exact hsteps
end
variable {p : Program} {l : Launch} {e : Env} {R : Room} {s : State} {m : MethodId} {args : Array Value} {below : List Frame} {meth : Method} {c : Code} {T : State} {H : Heap} {locs : List Loc} {cells slots : Nat}
theorem vx_callVX (X : Stand p l e R s m args below meth c T locs cells slots) (hexec : p.tables.exec = Jvm.exec) {own C : String} {index : Nat} {y : MethodName} {bytes : ByteArray} {maxL : Nat} {ret : Option FieldType} {hh : List (Nat × Nat × Nat × Nat)}
    (hown : s.vm.findClass own = some m.cls) (hlink : (Cond.methodLink own index y).before args s = true) (hinst : (Cond.instanceMethod y).before args s = true) (hsel : (Cond.selects C y y).before args s = true)
    (hcode : (Cond.codeWith y bytes maxL ret hh).before args s = true) (hy : y.cls ≠ "java/lang/invoke/MethodHandle" ∧ y.cls ≠ "java/lang/invoke/VarHandle")
    {W9 : Nat} {Pre : Pt → Array Value → Prop} {Post : Pt → Array Value → Option Value → Pt → Prop} {PostX : Pt → Array Value → Addr → Pt → Prop} (hK : vx_Back l R p e below s args y 3 W9 Pre Post PostX)
    {b : Addr} {cellB : Cell} (hcell : T.heap[b]? = some cellB) (hobj : cellB.vm.isStatics = false) (hcls : s.vm.findClass C = some cellB.cls)
    {g : JFrame} (hg : g.method = m) (hsize : g.locals.size = c.maxLocals) {argsL rest : List Value} (hlen : ∀ sig, parseMethodDescriptor y.desc = some sig → argsL.length = sig.parameters.length)
    (hstack : g.stack = argsL.reverse ++ .ref b :: rest) (hW : 2 * g.monitorRoom + (rest.map fun v => v.category).sum ≤ W9) (hdg : decode c.code g.pc = .ok (.invokevirtual index, 3))
    (hpre : ∀ vm₁, s.WarmedH vm₁ → Pre ⟨T.setVm vm₁, locs, cells, slots⟩ (Value.ref b :: argsL).toArray) :
    (∃ (v : Option Value) (vm₁ : Vm) (B : Pt), s.WarmedH vm₁ ∧ Stand p l e R s m args below meth c B.U B.locs B.cells B.slots ∧ Post ⟨T.setVm vm₁, locs, cells, slots⟩ (Value.ref b :: argsL).toArray v B ∧
      ∀ target, Steps p.tables e below (B.U.setTop { g with pc := g.pc + 3, stack := v.toList ++ rest }) target → Steps p.tables e below (T.setTop g) target) ∨
    (∃ (q : Addr) (vm₁ : Vm) (B : Pt), s.WarmedH vm₁ ∧ Stand p l e R s m args below meth c B.U B.locs B.cells B.slots ∧ PostX ⟨T.setVm vm₁, locs, cells, slots⟩ (Value.ref b :: argsL).toArray q B ∧
      Steps p.tables e below (T.setTop g) ((B.U.setTop { g with stack := rest }).pushFrame (.throwing q))) := by
  obtain ⟨mk, methM, hnamed, hmethM, hstM, habM⟩ := Cond.instanceMethod_spec hinst
  obtain ⟨m8, methM', cM, hn8, hmethM', -, -, -, -, -, -, hsigM⟩ := Cond.codeWith_spec hcode
  cases Option.some.inj (hn8.symm.trans hnamed)
  cases hmethM.symm.trans hmethM'
  obtain ⟨c2, r2, m2, q1, q2, q3, q4, kP, hkP, hkPi⟩ := Cond.selects_spec hsel
  cases hcls.symm.trans q1
  cases (State.methodFound?_of_named hnamed hy).symm.trans q2
  cases hnamed.symm.trans q3
  have hselP : selectMethod e.platform s.vm cellB.cls mk = .method mk := by rw [Launch.admits_selectMethod X.admits]; exact q4
  obtain ⟨vm₁, X₁, hstep₁⟩ := X.invokevirtual hexec hown hlink hnamed hmethM hstM hkP hkPi hy (a := b) (cell := cellB) hcell
    (fun z h => by rw [h] at hobj; cases hobj) hselP hmethM habM hkP hkPi (g := g) hg (argsL := argsL) (rest := rest) (hlen _ hsigM) hstack hdg
  rcases hK m meth c ⟨T.setVm vm₁, locs, cells, slots⟩ { g with stack := rest } (.invokevirtual index) mk (Value.ref b :: argsL).toArray X₁ hg hsize hdg hW (X₁.named hnamed) (hpre vm₁ X₁.warmed) with ⟨v, B, X', hpost, hsteps⟩ | ⟨q, B, X', hpost, hsteps⟩
  · exact Or.inl ⟨v, vm₁, B, X₁.warmed, X', hpost, fun target h => hstep₁ _ fun acts => by rw [doInvoke_state]; exact hsteps.trans h⟩
  · exact Or.inr ⟨q, vm₁, B, X₁.warmed, X', hpost, hstep₁ _ fun acts => by rw [doInvoke_state]; exact hsteps⟩
theorem vx_callSX (X : Stand p l e R s m args below meth c T locs cells slots) (hexec : p.tables.exec = Jvm.exec) {own : String} {index : Nat} {y : MethodName} {bytes : ByteArray} {maxL : Nat} {ret : Option FieldType} {hh : List (Nat × Nat × Nat × Nat)}
    (hown : s.vm.findClass own = some m.cls) (hlink : (Cond.methodLink own index y).before args s = true) (hstat : (Cond.static y).before args s = true) (hinit : (Cond.initialized y.cls).before args s = true)
    (hcode : (Cond.codeWith y bytes maxL ret hh).before args s = true) (hy : y.cls ≠ "java/lang/invoke/MethodHandle" ∧ y.cls ≠ "java/lang/invoke/VarHandle")
    {W9 : Nat} {Pre : Pt → Array Value → Prop} {Post : Pt → Array Value → Option Value → Pt → Prop} {PostX : Pt → Array Value → Addr → Pt → Prop} (hK : vx_Back l R p e below s args y 3 W9 Pre Post PostX)
    {g : JFrame} (hg : g.method = m) (hsize : g.locals.size = c.maxLocals) {argsL rest : List Value} (hlen : ∀ sig, parseMethodDescriptor y.desc = some sig → argsL.length = sig.parameters.length)
    (hstack : g.stack = argsL.reverse ++ rest) (hW : 2 * g.monitorRoom + (rest.map fun v => v.category).sum ≤ W9) (hdg : decode c.code g.pc = .ok (.invokestatic index, 3))
    (hpre : ∀ vm₁, s.WarmedH vm₁ → Pre ⟨T.setVm vm₁, locs, cells, slots⟩ argsL.toArray) :
    (∃ (v : Option Value) (vm₁ : Vm) (B : Pt), s.WarmedH vm₁ ∧ Stand p l e R s m args below meth c B.U B.locs B.cells B.slots ∧ Post ⟨T.setVm vm₁, locs, cells, slots⟩ argsL.toArray v B ∧
      ∀ target, Steps p.tables e below (B.U.setTop { g with pc := g.pc + 3, stack := v.toList ++ rest }) target → Steps p.tables e below (T.setTop g) target) ∨
    (∃ (q : Addr) (vm₁ : Vm) (B : Pt), s.WarmedH vm₁ ∧ Stand p l e R s m args below meth c B.U B.locs B.cells B.slots ∧ PostX ⟨T.setVm vm₁, locs, cells, slots⟩ argsL.toArray q B ∧
      Steps p.tables e below (T.setTop g) ((B.U.setTop { g with stack := rest }).pushFrame (.throwing q))) := by
  obtain ⟨mk, methM, cM, hnamed, hmethM, -, -, -, -, -, -, hsigM⟩ := Cond.codeWith_spec hcode
  have hstatic : methM.isStatic = true := Cond.static_spec hnamed hmethM hstat
  obtain ⟨kP, hkP, -⟩ := className_of_methodNamed hnamed
  have hinitP : kP.init = .initialized := Cond.initialized_spec (findClass_of_methodNamed hnamed) hkP hinit
  obtain ⟨vm₁, X₁, hstep₁⟩ := X.invokestatic hexec hown hlink hnamed hmethM hstatic hkP hinitP hy (g := g) hg (argsL := argsL) (rest := rest) (hlen _ hsigM) hstack hdg
  rcases hK m meth c ⟨T.setVm vm₁, locs, cells, slots⟩ { g with stack := rest } (.invokestatic index) mk argsL.toArray X₁ hg hsize hdg hW (X₁.named hnamed) (hpre vm₁ X₁.warmed) with ⟨v, B, X', hpost, hsteps⟩ | ⟨q, B, X', hpost, hsteps⟩
  · exact Or.inl ⟨v, vm₁, B, X₁.warmed, X', hpost, fun target h => hstep₁ _ fun acts => by rw [doInvoke_state]; exact hsteps.trans h⟩
  · exact Or.inr ⟨q, vm₁, B, X₁.warmed, X', hpost, hstep₁ _ fun acts => by rw [doInvoke_state]; exact hsteps⟩
theorem vx_callVW (X : Stand p l e R s m args below meth c T locs cells slots) (hexec : p.tables.exec = Jvm.exec) {own C : String} {index : Nat} {y : MethodName} {bytes : ByteArray} {maxL : Nat} {ret : Option FieldType} {hh : List (Nat × Nat × Nat × Nat)}
    (hown : s.vm.findClass own = some m.cls) (hlink : (Cond.methodLink own index y).before args s = true) (hinst : (Cond.instanceMethod y).before args s = true) (hsel : (Cond.selects C y y).before args s = true)
    (hcode : (Cond.codeWith y bytes maxL ret hh).before args s = true) (hy : y.cls ≠ "java/lang/invoke/MethodHandle" ∧ y.cls ≠ "java/lang/invoke/VarHandle")
    {W9 : Nat} {Pre : Pt → Array Value → Prop} {Post : Pt → Array Value → Option Value → Pt → Prop} (hK : Back l R p e below s args y 3 W9 Pre Post)
    {b : Addr} {cellB : Cell} (hcell : T.heap[b]? = some cellB) (hobj : cellB.vm.isStatics = false) (hcls : s.vm.findClass C = some cellB.cls)
    {g : JFrame} (hg : g.method = m) (hsize : g.locals.size = c.maxLocals) {argsL rest : List Value} (hlen : ∀ sig, parseMethodDescriptor y.desc = some sig → argsL.length = sig.parameters.length)
    (hstack : g.stack = argsL.reverse ++ .ref b :: rest) (hW : 2 * g.monitorRoom + (rest.map fun v => v.category).sum ≤ W9) (hdg : decode c.code g.pc = .ok (.invokevirtual index, 3))
    (hpre : ∀ vm₁, s.WarmedH vm₁ → Pre ⟨T.setVm vm₁, locs, cells, slots⟩ (Value.ref b :: argsL).toArray) :
    ∃ (v : Option Value) (vm₁ : Vm) (B : Pt), s.WarmedH vm₁ ∧ Stand p l e R s m args below meth c B.U B.locs B.cells B.slots ∧ Post ⟨T.setVm vm₁, locs, cells, slots⟩ (Value.ref b :: argsL).toArray v B ∧
      ∀ target, Steps p.tables e below (B.U.setTop { g with pc := g.pc + 3, stack := v.toList ++ rest }) target → Steps p.tables e below (T.setTop g) target := by
  obtain ⟨mk, methM, hnamed, hmethM, hstM, habM⟩ := Cond.instanceMethod_spec hinst
  obtain ⟨m8, methM', cM, hn8, hmethM', -, -, -, -, -, -, hsigM⟩ := Cond.codeWith_spec hcode
  cases Option.some.inj (hn8.symm.trans hnamed)
  cases hmethM.symm.trans hmethM'
  obtain ⟨c2, r2, m2, q1, q2, q3, q4, kP, hkP, hkPi⟩ := Cond.selects_spec hsel
  cases hcls.symm.trans q1
  cases (State.methodFound?_of_named hnamed hy).symm.trans q2
  cases hnamed.symm.trans q3
  have hselP : selectMethod e.platform s.vm cellB.cls mk = .method mk := by rw [Launch.admits_selectMethod X.admits]; exact q4
  obtain ⟨vm₁, X₁, hstep₁⟩ := X.invokevirtual hexec hown hlink hnamed hmethM hstM hkP hkPi hy (a := b) (cell := cellB) hcell
    (fun z h => by rw [h] at hobj; cases hobj) hselP hmethM habM hkP hkPi (g := g) hg (argsL := argsL) (rest := rest) (hlen _ hsigM) hstack hdg
  obtain ⟨v, B, X', hpost, hsteps⟩ := hK m meth c ⟨T.setVm vm₁, locs, cells, slots⟩ { g with stack := rest } (.invokevirtual index) mk (Value.ref b :: argsL).toArray X₁ hg hsize hdg hW (X₁.named hnamed) (hpre vm₁ X₁.warmed)
  exact ⟨v, vm₁, B, X₁.warmed, X', hpost, fun target h => hstep₁ _ fun acts => by rw [doInvoke_state]; exact hsteps.trans h⟩
abbrev vx_CVW (R : Room) (s : State) (args : Array Value) (own C : String) (index : Nat) (y : MethodName) (bytes : ByteArray) (maxL : Nat) (ret : Option FieldType) (hh : List (Nat × Nat × Nat × Nat)) (ws : List Cond) (rm : Room) (mc ms n : Nat) : Prop :=
  (rm.cells = mc ∧ rm.slots = ms ∧ rm.frames + 1 ≤ R.frames ∧ 8 + (maxL + 11) + rm.locals ≤ R.locals ∧ (∀ w ∈ ws, ∀ (a' : Array Value) (U : State), s.WarmedH U.vm → w.before a' U = true) ∧ Cond.codeWith y bytes maxL ret hh ∈ ws) ∧
  (Cond.codeWith y bytes maxL ret hh).before args s = true ∧ (Cond.initialized y.cls).before args s = true ∧ (y.cls ≠ "java/lang/invoke/MethodHandle" ∧ y.cls ≠ "java/lang/invoke/VarHandle") ∧
  (∀ sig, parseMethodDescriptor y.desc = some sig → n = sig.parameters.length) ∧ (Cond.methodLink own index y).before args s = true ∧ (Cond.instanceMethod y).before args s = true ∧ (Cond.selects C y y).before args s = true
theorem vx_cwVW {own C : String} {index maxL mc ms : Nat} {y : MethodName} {bytes : ByteArray} {ret : Option FieldType} {hh : List (Nat × Nat × Nat × Nat)} {Ts ws ws' : List Cond} {rm : Room} (n : Nat) (ht : ∀ w ∈ Ts, w.before args s = true) (hT : GoodIn Ts (wsV own index C y ws)) (hw : ws = Cond.codeWith y bytes maxL ret hh :: ws') (hrc : rm.cells = mc) (hrs : rm.slots = ms)
    (hd : y.cls = C ∧ y.cls ≠ "java/lang/invoke/MethodHandle" ∧ y.cls ≠ "java/lang/invoke/VarHandle" ∧ (parseMethodDescriptor y.desc).map (fun d => d.parameters.length) = some n) (hR : rm.frames + 1 ≤ R.frames ∧ 8 + (maxL + 11) + rm.locals ≤ R.locals) :
    vx_CVW R s args own C index y bytes maxL ret hh ws rm mc ms n := by
  obtain ⟨hC, hd⟩ := hd
  subst hC
  have ok : ∀ w ∈ wsV own index y.cls y ws, w.before args s = true := fun w h => ht w (hT w h).1
  have hG : GoodIn Ts ws := fun w h => hT w (by unfold wsV; exact List.mem_append_right _ h)
  have hc : Cond.codeWith y bytes maxL ret hh ∈ ws := by rw [hw]; exact List.mem_cons_self
  refine ⟨⟨hrc, hrs, hR.1, hR.2, pay_in ht hG, hc⟩, ht _ (hG _ hc).1, ok _ (by simp [wsV]), ⟨hd.1, hd.2.1⟩, fun sig h => ?_, ok _ (by simp [wsV]), ok _ (by simp [wsV]), ok _ (by simp [wsV])⟩
  have h2 := hd.2.2
  rw [h] at h2
  exact (Option.some.inj h2).symm
theorem vx_runVW {y : MethodName} {bytes cc : ByteArray} {maxL nL mc ms n index : Nat} {ret : Option FieldType} {hh : List (Nat × Nat × Nat × Nat)} {ws : List Cond} {rm : Room} {Pc : Array Value → State → Prop} {Qc : Array Value → State → Outcome → State → Prop} {free : Addr → Prop} {Ts : List Cond} {own C : String} {b : Addr} {As rest : List Value} {g : JFrame}
    (S : CallFix p m c cc nL s args Ts own) (hM : Met l y ws rm Pc Qc mc ms free) (cw : vx_CVW R s args own C index y bytes maxL ret hh ws rm mc ms n) (hp : PreV s H C b Pc As)
    (hg : g.method = m) (hn : As.length = n) (hsize : g.locals.size = nL) (hstack : g.stack = As.reverse ++ .ref b :: rest) (hW : 2 * g.monitorRoom + (rest.map fun v => v.category).sum ≤ 8) (hdg : decode cc g.pc = .ok (.invokevirtual index, 3)) (hf : cells + mc ≤ R.cells ∧ slots + ms ≤ R.slots) :
    va_Run p l e R s m args below meth c H locs cells slots mc ms g rest (Qc (Value.ref b :: As).toArray) free := by
  obtain ⟨⟨hrc, hrs, hfr, hlo, hws, hcw⟩, hcode, hini, hy, hlen, hl, hin, hse⟩ := cw
  have hK : Back l R p e below s args y 3 8 (PreOf R mc ms Pc) (PostOf Qc mc ms free) := va_backW (hh := hh) (bytes := bytes) (maxL := maxL) (ret := ret) hM hp.1 hrc hrs hfr hlo hws hcw (fun a' U hW => word_at hW (Or.inl (by first | rfl | simp [Cond.onTables, Cond.keeps, Cond.steady])) hini)
  obtain ⟨hx, hb, hml, ho, -⟩ := S
  obtain ⟨-, ⟨cellB, hcB, hoB, hclB⟩, hPc⟩ := hp
  intro T hT X
  obtain ⟨v, vm₁, ⟨U', l2, c2, s2⟩, hW₁, X', ⟨g', mk, t, L, e1, e2, hq, h1, hL, h2, h3⟩, st⟩ := vx_callVW X hx (C := C) (hh := hh) (bytes := bytes) (maxL := maxL) (ret := ret) ho hl hin hse hcode hy hK (by rw [hT]; exact hcB) hoB hclB hg (hsize.trans hml.symm) (argsL := As) (rest := rest) (fun sig h => hn.trans (hlen sig h)) hstack hW (by rw [hb]; exact hdg)
    (fun vm₁ hW₁ => ⟨hf.1, hf.2, hPc (T.setVm vm₁) hT hW₁⟩)
  dsimp only [Pt.U, Pt.locs, Pt.cells, Pt.slots] at X' e1 e2 h1 h2 h3 st
  subst h1; subst h2; subst h3
  exact ⟨v, (T.setVm vm₁).calling g' mk (Value.ref b :: As).toArray, t, U', L, hT, X', hL, e1, e2, hq, st⟩
section
variable {y : MethodName} {bytes cc : ByteArray} {maxL nL mc ms n index : Nat} {ret : Option FieldType} {ws : List Cond} {rm : Room} {Pc : Array Value → State → Prop} {Qc : Array Value → State → Outcome → State → Prop} {XC : String → State → State → Prop} {free : Addr → Prop} {Ts : List Cond} {own C : String} {b : Addr} {As rest : List Value} {g : JFrame}
theorem vx_runVX {hh : List (Nat × Nat × Nat × Nat)} (S : CallFix p m c cc nL s args Ts own) (hM : vx_Met l y ws rm Pc Qc XC mc ms free) (cw : vx_CVW R s args own C index y bytes maxL ret hh ws rm mc ms n) (hp : PreV s H C b Pc As)
    (hg : g.method = m) (hn : As.length = n) (hsize : g.locals.size = nL) (hstack : g.stack = As.reverse ++ .ref b :: rest) (hW : 2 * g.monitorRoom + (rest.map fun v => v.category).sum ≤ 8) (hdg : decode cc g.pc = .ok (.invokevirtual index, 3)) (hf : cells + mc ≤ R.cells ∧ slots + ms ≤ R.slots) :
    vx_Run p l e R s m args below meth c H locs cells slots mc ms g rest (Qc (Value.ref b :: As).toArray) XC free := by
  obtain ⟨⟨hrc, hrs, hfr, hlo, hws, hcw⟩, hcode, hini, hy, hlen, hl, hin, hse⟩ := cw
  have hK : vx_Back l R p e below s args y 3 8 (PreOf R mc ms Pc) (PostOf Qc mc ms free) (vx_Post XC mc ms free) := vx_backW (hh := hh) (bytes := bytes) (maxL := maxL) (ret := ret) hM hp.1 hrc hrs hfr hlo hws hcw (fun a' U hW => word_at hW (Or.inl (by first | rfl | simp [Cond.onTables, Cond.keeps, Cond.steady])) hini)
  obtain ⟨hx, hb, hml, ho, -⟩ := S
  obtain ⟨-, ⟨cellB, hcB, hoB, hclB⟩, hPc⟩ := hp
  intro T hT X
  rcases vx_callVX X hx (C := C) (hh := hh) (bytes := bytes) (maxL := maxL) (ret := ret) ho hl hin hse hcode hy hK (by rw [hT]; exact hcB) hoB hclB hg (hsize.trans hml.symm) (argsL := As) (rest := rest) (fun sig h => hn.trans (hlen sig h)) hstack hW (by rw [hb]; exact hdg)
    (fun vm₁ hW₁ => ⟨hf.1, hf.2, hPc (T.setVm vm₁) hT hW₁⟩) with ⟨v, vm₁, ⟨U', l2, c2, s2⟩, hW₁, X', ⟨g', mk, t, L, e1, e2, hq, h1, hL, h2, h3⟩, st⟩ | ⟨q, vm₁, ⟨U', l2, c2, s2⟩, hW₁, X', ⟨g', mk, t, L, E, ce, e1, e2, hq, hce, hcv, hcl, h1, hL, h2, h3⟩, st⟩
  · dsimp only [Pt.U, Pt.locs, Pt.cells, Pt.slots] at X' e1 e2 h1 h2 h3 st
    subst h1; subst h2; subst h3
    exact Or.inl ⟨v, (T.setVm vm₁).calling g' mk (Value.ref b :: As).toArray, t, U', L, hT, X', hL, e1, e2, hq, st⟩
  · dsimp only [Pt.U, Pt.locs, Pt.cells, Pt.slots] at X' e1 e2 h1 h2 h3 st hcl
    subst h1; subst h2; subst h3
    exact Or.inr ⟨q, (T.setVm vm₁).calling g' mk (Value.ref b :: As).toArray, t, U', L, E, ce, hT, X', hL, e1, e2, hq, hce, hcv, vx_cls hW₁ hcl, st⟩
theorem vx_runSX {hh : List (Nat × Nat × Nat × Nat)} (S : CallFix p m c cc nL s args Ts own) (hM : vx_Met l y ws rm Pc Qc XC mc ms free) (cw : vx_CSW R s args own index y bytes maxL ret hh ws rm mc ms n) (hp : PreS s H Pc As)
    (hg : g.method = m) (hn : As.length = n) (hsize : g.locals.size = nL) (hstack : g.stack = As.reverse ++ rest) (hW : 2 * g.monitorRoom + (rest.map fun v => v.category).sum ≤ 8) (hdg : decode cc g.pc = .ok (.invokestatic index, 3)) (hf : cells + mc ≤ R.cells ∧ slots + ms ≤ R.slots) :
    vx_Run p l e R s m args below meth c H locs cells slots mc ms g rest (Qc As.toArray) XC free := by
  obtain ⟨⟨hrc, hrs, hfr, hlo, hws, hcw⟩, hcode, hini, hy, hlen, hl, hstt⟩ := cw
  have hK : vx_Back l R p e below s args y 3 8 (PreOf R mc ms Pc) (PostOf Qc mc ms free) (vx_Post XC mc ms free) := vx_backW (hh := hh) (bytes := bytes) (maxL := maxL) (ret := ret) hM hp.1 hrc hrs hfr hlo hws hcw (fun a' U hW => word_at hW (Or.inl (by first | rfl | simp [Cond.onTables, Cond.keeps, Cond.steady])) hini)
  obtain ⟨hx, hb, hml, ho, -⟩ := S
  intro T hT X
  rcases vx_callSX X hx (hh := hh) (bytes := bytes) (maxL := maxL) (ret := ret) ho hl hstt hini hcode hy hK hg (hsize.trans hml.symm) (argsL := As) (rest := rest) (fun sig h => hn.trans (hlen sig h)) hstack hW (by rw [hb]; exact hdg)
    (fun vm₁ hW₁ => ⟨hf.1, hf.2, hp.2 (T.setVm vm₁) hT hW₁⟩) with ⟨v, vm₁, ⟨U', l2, c2, s2⟩, hW₁, X', ⟨g', mk, t, L, e1, e2, hq, h1, hL, h2, h3⟩, st⟩ | ⟨q, vm₁, ⟨U', l2, c2, s2⟩, hW₁, X', ⟨g', mk, t, L, E, ce, e1, e2, hq, hce, hcv, hcl, h1, hL, h2, h3⟩, st⟩
  · dsimp only [Pt.U, Pt.locs, Pt.cells, Pt.slots] at X' e1 e2 h1 h2 h3 st
    subst h1; subst h2; subst h3
    exact Or.inl ⟨v, (T.setVm vm₁).calling g' mk As.toArray, t, U', L, hT, X', hL, e1, e2, hq, st⟩
  · dsimp only [Pt.U, Pt.locs, Pt.cells, Pt.slots] at X' e1 e2 h1 h2 h3 st hcl
    subst h1; subst h2; subst h3
    exact Or.inr ⟨q, (T.setVm vm₁).calling g' mk As.toArray, t, U', L, E, ce, hT, X', hL, e1, e2, hq, hce, hcv, vx_cls hW₁ hcl, st⟩
end
end VXH
theorem vx_ofWH {l : Launch} {y : MethodName} {ws ws' : List Cond} {rm : Room} {Pc : Array Value → State → Prop} {Qc : Array Value → State → Outcome → State → Prop} {XC : String → State → State → Prop} {mc ms : Nat} {free : Addr → Prop} {cc : ByteArray} {maxL : Nat} {ret : Option FieldType} {hh : List (Nat × Nat × Nat × Nat)}
    (hy : plainName y.cls = true) (hw : ws = Cond.codeWith y cc maxL ret hh :: ws')
    (body : ∀ p e s m args below meth c s₁, BodyLoose p l y (headSpec ws rm) cc maxL ret e s m args below meth c s₁ → c.maxLocals = maxL → Pc args s →
      W p l e (headSpec ws rm).room s m args below meth c s.heap [] 0 0 (vx_MQ below Qc XC args s mc ms free) (entryFrame m args maxL)) : vx_Met l y ws rm Pc Qc XC mc ms free := by
  refine MetFree.of_bodyS (code := cc) (maxLocals := maxL) (ret := ret) hy ?_ ?_
  · intro args s m h hn
    obtain ⟨m9, meth, c, hn9, h1, h2, h3, h4, -, h5, h6, -⟩ := Cond.codeWith_spec (atoms_spec (ws := ws) h _ (by rw [hw]; exact List.mem_cons_self))
    cases hn.symm.trans hn9
    exact ⟨meth, c, h1, h2, h3, h4, h5, h6⟩
  · intro p e s m args below meth c s₁ B hml hP _
    have hh0 : s₁.heap = s.heap := by rw [B.state]; rfl
    obtain ⟨t, a1, o, b1, b2, b3⟩ := body p e s m args below meth c s₁ B hml hP s₁ hh0 (Stand.of_body B)
    exact ⟨t, o, a1, b1, b2, b3⟩
/-! ===== END ===== -/
end
section
/-! NAMES: classes, fields, methods, the words of the tables that are good for every state of the run, their places -/
def RX0 : String := "DuctSizes$Curve"
def TX0 : u_T := fun k => match k with
  | 0 => ("DuctSizes$Curve", "flows", "[I", true)
  | 1 => ("DuctSizes$Curve", "pressures", "[I", true)
  | _ => ("DuctSizes$Curve", "points", "I", false)
def tyX0 : Nat → FieldType := fun k => match k with
  | 0 => .array .int
  | 1 => .array .int
  | _ => .int
theorem nmX0 : ∀ a, a < 3 → ∀ b, b < 3 → a ≠ b → (TX0 a).2.1 ≠ (TX0 b).2.1 := by decide +kernel
theorem tyX0_ok : ∀ k, k < 3 → parseFieldDescriptor (TX0 k).2.2.1 = some (tyX0 k) := by decide +kernel
abbrev cX0_init : ByteArray := prog_2_method_1_code
def yX0_init : MethodName := ⟨RX0, "<init>", "()V"⟩
abbrev cX0_takes : ByteArray := prog_2_method_2_code
def yX0_takes : MethodName := ⟨RX0, "takes", "(II)Z"⟩
abbrev cX0_addPoint : ByteArray := prog_2_method_3_code
def yX0_addPoint : MethodName := ⟨RX0, "addPoint", "(II)I"⟩
abbrev cX0_pressureAt : ByteArray := prog_2_method_4_code
def yX0_pressureAt : MethodName := ⟨RX0, "pressureAt", "(I)I"⟩
abbrev cX0_pressureBefore : ByteArray := prog_2_method_5_code
def yX0_pressureBefore : MethodName := ⟨RX0, "pressureBefore", "(II)I"⟩
def RX1 : String := "DuctSizes$Network"
def TX1 : u_T := fun k => match k with
  | 0 => ("DuctSizes$Network", "from", "[I", true)
  | 1 => ("DuctSizes$Network", "lengths", "[I", true)
  | 2 => ("DuctSizes$Network", "fittings", "[I", true)
  | 3 => ("DuctSizes$Network", "needs", "[I", true)
  | 4 => ("DuctSizes$Network", "flows", "[I", true)
  | 5 => ("DuctSizes$Network", "ducts", "I", false)
  | 6 => ("DuctSizes$Network", "areas", "[I", true)
  | 7 => ("DuctSizes$Network", "prices", "[I", true)
  | 8 => ("DuctSizes$Network", "sizes", "I", false)
  | _ => ("DuctSizes$Network", "speedLimit", "I", false)
def tyX1 : Nat → FieldType := fun k => match k with
  | 0 => .array .int
  | 1 => .array .int
  | 2 => .array .int
  | 3 => .array .int
  | 4 => .array .int
  | 5 => .int
  | 6 => .array .int
  | 7 => .array .int
  | 8 => .int
  | _ => .int
theorem nmX1 : ∀ a, a < 10 → ∀ b, b < 10 → a ≠ b → (TX1 a).2.1 ≠ (TX1 b).2.1 := by decide +kernel
theorem tyX1_ok : ∀ k, k < 10 → parseFieldDescriptor (TX1 k).2.2.1 = some (tyX1 k) := by decide +kernel
abbrev cX1_init : ByteArray := prog_3_method_1_code
def yX1_init : MethodName := ⟨RX1, "<init>", "()V"⟩
abbrev cX1_addDuct : ByteArray := prog_3_method_2_code
def yX1_addDuct : MethodName := ⟨RX1, "addDuct", "(III)I"⟩
abbrev cX1_addSize : ByteArray := prog_3_method_3_code
def yX1_addSize : MethodName := ⟨RX1, "addSize", "(II)I"⟩
abbrev cX1_changeNeed : ByteArray := prog_3_method_4_code
def yX1_changeNeed : MethodName := ⟨RX1, "changeNeed", "(II)I"⟩
abbrev cX1_sumFlows : ByteArray := prog_3_method_5_code
def yX1_sumFlows : MethodName := ⟨RX1, "sumFlows", "()V"⟩
abbrev cX1_speedOf : ByteArray := prog_3_method_6_code
def yX1_speedOf : MethodName := ⟨RX1, "speedOf", "(II)I"⟩
abbrev cX1_fallOf : ByteArray := prog_3_method_7_code
def yX1_fallOf : MethodName := ⟨RX1, "fallOf", "(II)I"⟩
abbrev cX1_allows : ByteArray := prog_3_method_8_code
def yX1_allows : MethodName := ⟨RX1, "allows", "(II)Z"⟩
abbrev cX1_priceOf : ByteArray := prog_3_method_9_code
def yX1_priceOf : MethodName := ⟨RX1, "priceOf", "(II)I"⟩
def RX2 : String := "DuctSizes$Search"
def TX2 : u_T := fun k => match k with
  | 0 => ("DuctSizes$Search", "network", "LDuctSizes$Network;", true)
  | 1 => ("DuctSizes$Search", "falls", "[[I", true)
  | 2 => ("DuctSizes$Search", "trialSizeOf", "[I", true)
  | 3 => ("DuctSizes$Search", "trialPressureAt", "[I", true)
  | 4 => ("DuctSizes$Search", "limit", "I", false)
  | 5 => ("DuctSizes$Search", "energyPrice", "I", false)
  | 6 => ("DuctSizes$Search", "sizeOf", "[I", true)
  | 7 => ("DuctSizes$Search", "pressureAt", "[I", true)
  | 8 => ("DuctSizes$Search", "found", "Z", false)
  | 9 => ("DuctSizes$Search", "cost", "I", false)
  | _ => ("DuctSizes$Search", "pressure", "I", false)
def tyX2 : Nat → FieldType := fun k => match k with
  | 0 => .object "DuctSizes$Network"
  | 1 => .array (.array .int)
  | 2 => .array .int
  | 3 => .array .int
  | 4 => .int
  | 5 => .int
  | 6 => .array .int
  | 7 => .array .int
  | 8 => .boolean
  | 9 => .int
  | _ => .int
theorem nmX2 : ∀ a, a < 11 → ∀ b, b < 11 → a ≠ b → (TX2 a).2.1 ≠ (TX2 b).2.1 := by decide +kernel
theorem tyX2_ok : ∀ k, k < 11 → parseFieldDescriptor (TX2 k).2.2.1 = some (tyX2 k) := by decide +kernel
abbrev cX2_init : ByteArray := prog_4_method_1_code
def yX2_init : MethodName := ⟨RX2, "<init>", "(LDuctSizes$Network;)V"⟩
abbrev cX2_run : ByteArray := prog_4_method_2_code
def yX2_run : MethodName := ⟨RX2, "run", "(II)V"⟩
abbrev cX2_firstNodeOfGreatestPressure : ByteArray := prog_4_method_3_code
def yX2_firstNodeOfGreatestPressure : MethodName := ⟨RX2, "firstNodeOfGreatestPressure", "()I"⟩
abbrev cX2_noteFalls : ByteArray := prog_4_method_4_code
def yX2_noteFalls : MethodName := ⟨RX2, "noteFalls", "()V"⟩
abbrev cX2_placeFrom : ByteArray := prog_4_method_5_code
def yX2_placeFrom : MethodName := ⟨RX2, "placeFrom", "(III)V"⟩
abbrev cX2_placeSize : ByteArray := prog_4_method_6_code
def yX2_placeSize : MethodName := ⟨RX2, "placeSize", "(IIII)V"⟩
abbrev cX2_isBetter : ByteArray := prog_4_method_7_code
def yX2_isBetter : MethodName := ⟨RX2, "isBetter", "(II)Z"⟩
abbrev cX2_keepTrial : ByteArray := prog_4_method_8_code
def yX2_keepTrial : MethodName := ⟨RX2, "keepTrial", "(II)V"⟩
def RX3 : String := "DuctSizes"
def TX3 : u_T := fun k => match k with
  | 0 => ("DuctSizes", "network", "LDuctSizes$Network;", true)
  | 1 => ("DuctSizes", "curve", "LDuctSizes$Curve;", true)
  | 2 => ("DuctSizes", "best", "LDuctSizes$Search;", true)
  | 3 => ("DuctSizes", "cheapest", "LDuctSizes$Search;", true)
  | 4 => ("DuctSizes", "energyPrice", "I", false)
  | _ => ("DuctSizes", "bestIsOld", "Z", false)
def tyX3 : Nat → FieldType := fun k => match k with
  | 0 => .object "DuctSizes$Network"
  | 1 => .object "DuctSizes$Curve"
  | 2 => .object "DuctSizes$Search"
  | 3 => .object "DuctSizes$Search"
  | 4 => .int
  | _ => .boolean
theorem nmX3 : ∀ a, a < 6 → ∀ b, b < 6 → a ≠ b → (TX3 a).2.1 ≠ (TX3 b).2.1 := by decide +kernel
theorem tyX3_ok : ∀ k, k < 6 → parseFieldDescriptor (TX3 k).2.2.1 = some (tyX3 k) := by decide +kernel
abbrev cX3_init : ByteArray := prog_1_method_1_code
def yX3_init : MethodName := ⟨RX3, "<init>", "()V"⟩
abbrev cX3_duct : ByteArray := prog_1_method_2_code
def yX3_duct : MethodName := ⟨RX3, "duct", "(III)I"⟩
abbrev cX3_need : ByteArray := prog_1_method_3_code
def yX3_need : MethodName := ⟨RX3, "need", "(II)I"⟩
abbrev cX3_size : ByteArray := prog_1_method_4_code
def yX3_size : MethodName := ⟨RX3, "size", "(II)I"⟩
abbrev cX3_set : ByteArray := prog_1_method_5_code
def yX3_set : MethodName := ⟨RX3, "set", "(II)I"⟩
abbrev cX3_fan : ByteArray := prog_1_method_6_code
def yX3_fan : MethodName := ⟨RX3, "fan", "(II)I"⟩
abbrev cX3_gives : ByteArray := prog_1_method_7_code
def yX3_gives : MethodName := ⟨RX3, "gives", "()I"⟩
abbrev cX3_flow : ByteArray := prog_1_method_8_code
def yX3_flow : MethodName := ⟨RX3, "flow", "(I)I"⟩
abbrev cX3_told : ByteArray := prog_1_method_9_code
def yX3_told : MethodName := ⟨RX3, "told", "(III)I"⟩
abbrev cX3_best : ByteArray := prog_1_method_10_code
def yX3_best : MethodName := ⟨RX3, "best", "(I)I"⟩
abbrev cX3_chosen : ByteArray := prog_1_method_11_code
def yX3_chosen : MethodName := ⟨RX3, "chosen", "(I)I"⟩
abbrev cX3_pressure : ByteArray := prog_1_method_12_code
def yX3_pressure : MethodName := ⟨RX3, "pressure", "(I)I"⟩
abbrev cX3_damper : ByteArray := prog_1_method_13_code
def yX3_damper : MethodName := ⟨RX3, "damper", "(I)I"⟩
abbrev cX3_least : ByteArray := prog_1_method_14_code
def yX3_least : MethodName := ⟨RX3, "least", "(I)I"⟩
abbrev cX3_worst : ByteArray := prog_1_method_15_code
def yX3_worst : MethodName := ⟨RX3, "worst", "()I"⟩
abbrev cX3_demand : ByteArray := prog_1_method_16_code
def yX3_demand : MethodName := ⟨RX3, "demand", "(III)V"⟩
abbrev cX3_changeSpeedLimit : ByteArray := prog_1_method_17_code
def yX3_changeSpeedLimit : MethodName := ⟨RX3, "changeSpeedLimit", "(I)I"⟩
abbrev cX3_changeEnergyPrice : ByteArray := prog_1_method_18_code
def yX3_changeEnergyPrice : MethodName := ⟨RX3, "changeEnergyPrice", "(I)I"⟩
abbrev cX3_bestChoice : ByteArray := prog_1_method_19_code
def yX3_bestChoice : MethodName := ⟨RX3, "bestChoice", "()LDuctSizes$Search;"⟩
def RX4 : String := "DuctSizesModel"
def TX4 : u_T := fun k => match k with
  | 0 => ("DuctSizesModel", "code", "I", false)
  | 1 => ("DuctSizesModel", "ducts", "I", false)
  | 2 => ("DuctSizesModel", "from", "[I", true)
  | 3 => ("DuctSizesModel", "lengths", "[I", true)
  | 4 => ("DuctSizesModel", "fittings", "[I", true)
  | 5 => ("DuctSizesModel", "needs", "[I", true)
  | 6 => ("DuctSizesModel", "sizes", "I", false)
  | 7 => ("DuctSizesModel", "areas", "[I", true)
  | 8 => ("DuctSizesModel", "prices", "[I", true)
  | 9 => ("DuctSizesModel", "speedLimit", "I", false)
  | 10 => ("DuctSizesModel", "energy", "I", false)
  | 11 => ("DuctSizesModel", "points", "I", false)
  | 12 => ("DuctSizesModel", "flows", "[I", true)
  | 13 => ("DuctSizesModel", "pressures", "[I", true)
  | 14 => ("DuctSizesModel", "choice", "[I", true)
  | 15 => ("DuctSizesModel", "at", "[J", true)
  | 16 => ("DuctSizesModel", "found", "Z", false)
  | 17 => ("DuctSizesModel", "bestCost", "J", false)
  | 18 => ("DuctSizesModel", "bestPressure", "J", false)
  | 19 => ("DuctSizesModel", "bestChoice", "[I", true)
  | 20 => ("DuctSizesModel", "bestAt", "[J", true)
  | _ => ("DuctSizesModel", "falls", "[J", true)
def tyX4 : Nat → FieldType := fun k => match k with
  | 0 => .int
  | 1 => .int
  | 2 => .array .int
  | 3 => .array .int
  | 4 => .array .int
  | 5 => .array .int
  | 6 => .int
  | 7 => .array .int
  | 8 => .array .int
  | 9 => .int
  | 10 => .int
  | 11 => .int
  | 12 => .array .int
  | 13 => .array .int
  | 14 => .array .int
  | 15 => .array .long
  | 16 => .boolean
  | 17 => .long
  | 18 => .long
  | 19 => .array .int
  | 20 => .array .long
  | _ => .array .long
theorem nmX4 : ∀ a, a < 22 → ∀ b, b < 22 → a ≠ b → (TX4 a).2.1 ≠ (TX4 b).2.1 := by decide +kernel
theorem tyX4_ok : ∀ k, k < 22 → parseFieldDescriptor (TX4 k).2.2.1 = some (tyX4 k) := by decide +kernel
abbrev cX4_init : ByteArray := prog_6_method_1_code
def yX4_init : MethodName := ⟨RX4, "<init>", "()V"⟩
abbrev cX4_thrown : ByteArray := prog_6_method_2_code
def yX4_thrown : MethodName := ⟨RX4, "thrown", "()I"⟩
abbrev cX4_isIn : ByteArray := prog_6_method_3_code
def yX4_isIn : MethodName := ⟨RX4, "isIn", "(JJJ)Z"⟩
abbrev cX4_isDuct : ByteArray := prog_6_method_4_code
def yX4_isDuct : MethodName := ⟨RX4, "isDuct", "(I)Z"⟩
abbrev cX4_duct : ByteArray := prog_6_method_5_code
def yX4_duct : MethodName := ⟨RX4, "duct", "(III)I"⟩
abbrev cX4_need : ByteArray := prog_6_method_6_code
def yX4_need : MethodName := ⟨RX4, "need", "(II)I"⟩
abbrev cX4_size : ByteArray := prog_6_method_7_code
def yX4_size : MethodName := ⟨RX4, "size", "(II)I"⟩
abbrev cX4_set : ByteArray := prog_6_method_8_code
def yX4_set : MethodName := ⟨RX4, "set", "(II)I"⟩
abbrev cX4_fan : ByteArray := prog_6_method_9_code
def yX4_fan : MethodName := ⟨RX4, "fan", "(II)I"⟩
abbrev cX4_given : ByteArray := prog_6_method_10_code
def yX4_given : MethodName := ⟨RX4, "given", "()I"⟩
abbrev cX4_gives : ByteArray := prog_6_method_11_code
def yX4_gives : MethodName := ⟨RX4, "gives", "()I"⟩
abbrev cX4_isBelow : ByteArray := prog_6_method_12_code
def yX4_isBelow : MethodName := ⟨RX4, "isBelow", "(II)Z"⟩
abbrev cX4_flowOf : ByteArray := prog_6_method_13_code
def yX4_flowOf : MethodName := ⟨RX4, "flowOf", "(I)J"⟩
abbrev cX4_flow : ByteArray := prog_6_method_14_code
def yX4_flow : MethodName := ⟨RX4, "flow", "(I)I"⟩
abbrev cX4_speedOf : ByteArray := prog_6_method_15_code
def yX4_speedOf : MethodName := ⟨RX4, "speedOf", "(II)J"⟩
abbrev cX4_fallOf : ByteArray := prog_6_method_16_code
def yX4_fallOf : MethodName := ⟨RX4, "fallOf", "(II)J"⟩
abbrev cX4_told : ByteArray := prog_6_method_17_code
def yX4_told : MethodName := ⟨RX4, "told", "(III)I"⟩
abbrev cX4_findFalls : ByteArray := prog_6_method_18_code
def yX4_findFalls : MethodName := ⟨RX4, "findFalls", "()V"⟩
abbrev cX4_ways : ByteArray := prog_6_method_19_code
def yX4_ways : MethodName := ⟨RX4, "ways", "()I"⟩
abbrev cX4_look : ByteArray := prog_6_method_20_code
def yX4_look : MethodName := ⟨RX4, "look", "(I)J"⟩
abbrev cX4_price : ByteArray := prog_6_method_21_code
def yX4_price : MethodName := ⟨RX4, "price", "()J"⟩
abbrev cX4_findBest : ByteArray := prog_6_method_22_code
def yX4_findBest : MethodName := ⟨RX4, "findBest", "()V"⟩
abbrev cX4_best : ByteArray := prog_6_method_23_code
def yX4_best : MethodName := ⟨RX4, "best", "(I)I"⟩
abbrev cX4_chosen : ByteArray := prog_6_method_24_code
def yX4_chosen : MethodName := ⟨RX4, "chosen", "(I)I"⟩
abbrev cX4_pressure : ByteArray := prog_6_method_25_code
def yX4_pressure : MethodName := ⟨RX4, "pressure", "(I)I"⟩
abbrev cX4_damper : ByteArray := prog_6_method_26_code
def yX4_damper : MethodName := ⟨RX4, "damper", "(I)I"⟩
abbrev cX4_least : ByteArray := prog_6_method_27_code
def yX4_least : MethodName := ⟨RX4, "least", "(I)I"⟩
abbrev cX4_worst : ByteArray := prog_6_method_28_code
def yX4_worst : MethodName := ⟨RX4, "worst", "()I"⟩
def dk_tbl : List Cond := lw_tbl.filter goodWord
abbrev wsX0_init : List Cond := .code yX0_init cX0_init 1 none :: dk_tbl
abbrev wsX0_takes : List Cond := .code yX0_takes cX0_takes 3 (some .boolean) :: dk_tbl
abbrev wsX0_addPoint : List Cond := .code yX0_addPoint cX0_addPoint 3 (some .int) :: dk_tbl
abbrev wsX0_pressureAt : List Cond := .code yX0_pressureAt cX0_pressureAt 3 (some .int) :: dk_tbl
abbrev wsX0_pressureBefore : List Cond := .code yX0_pressureBefore cX0_pressureBefore 6 (some .int) :: dk_tbl
abbrev wsX1_init : List Cond := .code yX1_init cX1_init 1 none :: dk_tbl
abbrev wsX1_addDuct : List Cond := .code yX1_addDuct cX1_addDuct 4 (some .int) :: dk_tbl
abbrev wsX1_addSize : List Cond := .code yX1_addSize cX1_addSize 3 (some .int) :: dk_tbl
abbrev wsX1_changeNeed : List Cond := .code yX1_changeNeed cX1_changeNeed 4 (some .int) :: dk_tbl
abbrev wsX1_sumFlows : List Cond := .code yX1_sumFlows cX1_sumFlows 2 none :: dk_tbl
abbrev wsX1_speedOf : List Cond := .code yX1_speedOf cX1_speedOf 3 (some .int) :: dk_tbl
abbrev wsX1_fallOf : List Cond := .code yX1_fallOf cX1_fallOf 11 (some .int) :: dk_tbl
abbrev wsX1_allows : List Cond := .code yX1_allows cX1_allows 3 (some .boolean) :: dk_tbl
abbrev wsX1_priceOf : List Cond := .code yX1_priceOf cX1_priceOf 3 (some .int) :: dk_tbl
abbrev wsX2_init : List Cond := .code yX2_init cX2_init 2 none :: dk_tbl
abbrev wsX2_run : List Cond := .code yX2_run cX2_run 3 none :: dk_tbl
abbrev wsX2_firstNodeOfGreatestPressure : List Cond := .code yX2_firstNodeOfGreatestPressure cX2_firstNodeOfGreatestPressure 3 (some .int) :: dk_tbl
abbrev wsX2_noteFalls : List Cond := .code yX2_noteFalls cX2_noteFalls 3 none :: dk_tbl
abbrev wsX2_placeFrom : List Cond := .code yX2_placeFrom cX2_placeFrom 5 none :: dk_tbl
abbrev wsX2_placeSize : List Cond := .code yX2_placeSize cX2_placeSize 8 none :: dk_tbl
abbrev wsX2_isBetter : List Cond := .code yX2_isBetter cX2_isBetter 4 (some .boolean) :: dk_tbl
abbrev wsX2_keepTrial : List Cond := .code yX2_keepTrial cX2_keepTrial 4 none :: dk_tbl
abbrev wsX3_init : List Cond := .code yX3_init cX3_init 1 none :: dk_tbl
abbrev wsX3_duct : List Cond := .code yX3_duct cX3_duct 4 (some .int) :: dk_tbl
abbrev wsX3_need : List Cond := .code yX3_need cX3_need 3 (some .int) :: dk_tbl
abbrev wsX3_size : List Cond := .code yX3_size cX3_size 3 (some .int) :: dk_tbl
abbrev wsX3_set : List Cond := .code yX3_set cX3_set 3 (some .int) :: dk_tbl
abbrev wsX3_fan : List Cond := .code yX3_fan cX3_fan 3 (some .int) :: dk_tbl
abbrev wsX3_gives : List Cond := .code yX3_gives cX3_gives 1 (some .int) :: dk_tbl
abbrev wsX3_flow : List Cond := .code yX3_flow cX3_flow 2 (some .int) :: dk_tbl
abbrev wsX3_told : List Cond := .code yX3_told cX3_told 4 (some .int) :: dk_tbl
abbrev wsX3_best : List Cond := .code yX3_best cX3_best 3 (some .int) :: dk_tbl
abbrev wsX3_chosen : List Cond := .code yX3_chosen cX3_chosen 3 (some .int) :: dk_tbl
abbrev wsX3_pressure : List Cond := .code yX3_pressure cX3_pressure 3 (some .int) :: dk_tbl
abbrev wsX3_damper : List Cond := .code yX3_damper cX3_damper 3 (some .int) :: dk_tbl
abbrev wsX3_least : List Cond := .code yX3_least cX3_least 2 (some .int) :: dk_tbl
abbrev wsX3_worst : List Cond := .code yX3_worst cX3_worst 2 (some .int) :: dk_tbl
abbrev wsX3_demand : List Cond := .code yX3_demand cX3_demand 3 none :: dk_tbl
abbrev wsX3_changeSpeedLimit : List Cond := .code yX3_changeSpeedLimit cX3_changeSpeedLimit 3 (some .int) :: dk_tbl
abbrev wsX3_changeEnergyPrice : List Cond := .code yX3_changeEnergyPrice cX3_changeEnergyPrice 3 (some .int) :: dk_tbl
abbrev wsX3_bestChoice : List Cond := .code yX3_bestChoice cX3_bestChoice 1 (some (.object "DuctSizes$Search")) :: dk_tbl
abbrev wsX4_init : List Cond := .code yX4_init cX4_init 1 none :: dk_tbl
abbrev wsX4_thrown : List Cond := .code yX4_thrown cX4_thrown 1 (some .int) :: dk_tbl
abbrev wsX4_isIn : List Cond := .code yX4_isIn cX4_isIn 6 (some .boolean) :: dk_tbl
abbrev wsX4_isDuct : List Cond := .code yX4_isDuct cX4_isDuct 2 (some .boolean) :: dk_tbl
abbrev wsX4_duct : List Cond := .code yX4_duct cX4_duct 4 (some .int) :: dk_tbl
abbrev wsX4_need : List Cond := .code yX4_need cX4_need 4 (some .int) :: dk_tbl
abbrev wsX4_size : List Cond := .code yX4_size cX4_size 3 (some .int) :: dk_tbl
abbrev wsX4_set : List Cond := .code yX4_set cX4_set 4 (some .int) :: dk_tbl
abbrev wsX4_fan : List Cond := .code yX4_fan cX4_fan 4 (some .int) :: dk_tbl
abbrev wsX4_given : List Cond := .code yX4_given cX4_given 5 (some .int) :: dk_tbl
abbrev wsX4_gives : List Cond := .code yX4_gives cX4_gives 1 (some .int) :: dk_tbl
abbrev wsX4_isBelow : List Cond := .code yX4_isBelow cX4_isBelow 4 (some .boolean) :: dk_tbl
abbrev wsX4_flowOf : List Cond := .code yX4_flowOf cX4_flowOf 5 (some .long) :: dk_tbl
abbrev wsX4_flow : List Cond := .code yX4_flow cX4_flow 2 (some .int) :: dk_tbl
abbrev wsX4_speedOf : List Cond := .code yX4_speedOf cX4_speedOf 3 (some .long) :: dk_tbl
abbrev wsX4_fallOf : List Cond := .code yX4_fallOf cX4_fallOf 7 (some .long) :: dk_tbl
abbrev wsX4_told : List Cond := .code yX4_told cX4_told 4 (some .int) :: dk_tbl
abbrev wsX4_findFalls : List Cond := .code yX4_findFalls cX4_findFalls 3 none :: dk_tbl
abbrev wsX4_ways : List Cond := .code yX4_ways cX4_ways 3 (some .int) :: dk_tbl
abbrev wsX4_look : List Cond := .code yX4_look cX4_look 8 (some .long) :: dk_tbl
abbrev wsX4_price : List Cond := .code yX4_price cX4_price 4 (some .long) :: dk_tbl
abbrev wsX4_findBest : List Cond := .code yX4_findBest cX4_findBest 10 none :: dk_tbl
abbrev wsX4_best : List Cond := .code yX4_best cX4_best 2 (some .int) :: dk_tbl
abbrev wsX4_chosen : List Cond := .code yX4_chosen cX4_chosen 2 (some .int) :: dk_tbl
abbrev wsX4_pressure : List Cond := .code yX4_pressure cX4_pressure 2 (some .int) :: dk_tbl
abbrev wsX4_damper : List Cond := .code yX4_damper cX4_damper 2 (some .int) :: dk_tbl
abbrev wsX4_least : List Cond := .code yX4_least cX4_least 8 (some .int) :: dk_tbl
abbrev wsX4_worst : List Cond := .code yX4_worst cX4_worst 2 (some .int) :: dk_tbl
abbrev vwCl : List vw_C := [(RX0, TX0, 3), (RX1, TX1, 10), (RX2, TX2, 11), (RX3, TX3, 6), (RX4, TX4, 22)]
theorem in_X0 : ∀ w ∈ u_ws RX0 TX0 3, w ∈ dk_tbl := by decide +kernel
theorem in_X1 : ∀ w ∈ u_ws RX1 TX1 10, w ∈ dk_tbl := by decide +kernel
theorem in_X2 : ∀ w ∈ u_ws RX2 TX2 11, w ∈ dk_tbl := by decide +kernel
theorem in_X3 : ∀ w ∈ u_ws RX3 TX3 6, w ∈ dk_tbl := by decide +kernel
theorem in_X4 : ∀ w ∈ u_ws RX4 TX4 22, w ∈ dk_tbl := by decide +kernel
theorem dk_gd {w : Cond} (h : w ∈ dk_tbl) : w ∈ dk_tbl ∧ ((w.onTables && w.keeps) = true ∨ ∃ ty, w = .arrayClass ty) := ⟨h, good_of_word (List.mem_filter.mp h).2⟩
theorem dk_gC {c : Cond} (h : c ∈ dk_tbl) : GoodIn dk_tbl (c :: dk_tbl) := fun w hw => (List.mem_cons.mp hw).elim (fun e => by rw [e]; exact dk_gd h) dk_gd
theorem dk_gV {own C : String} {idx n : Nat} {y : MethodName} {c : ByteArray} {r : Option FieldType} (h1 : Cond.methodLink own idx y ∈ dk_tbl) (h2 : Cond.instanceMethod y ∈ dk_tbl) (h3 : Cond.selects C y y ∈ dk_tbl) (h4 : Cond.initialized C ∈ dk_tbl) (h5 : Cond.code y c n r ∈ dk_tbl) : GoodIn dk_tbl (wsV own idx C y (.code y c n r :: dk_tbl)) := by
  intro w hw
  rcases List.mem_append.mp hw with h | h
  · simp only [List.mem_cons, List.not_mem_nil, or_false] at h
    rcases h with rfl | rfl | rfl | rfl
    · exact dk_gd h1
    · exact dk_gd h2
    · exact dk_gd h3
    · exact dk_gd h4
  · exact dk_gC h5 w h
theorem dk_gS {own : String} {idx n : Nat} {y : MethodName} {c : ByteArray} {r : Option FieldType} (h1 : Cond.methodLink own idx y ∈ dk_tbl) (h2 : Cond.static y ∈ dk_tbl) (h4 : Cond.initialized y.cls ∈ dk_tbl) (h5 : Cond.code y c n r ∈ dk_tbl) : GoodIn dk_tbl (va_wsS own idx y (.code y c n r :: dk_tbl)) := by
  intro w hw
  rcases List.mem_append.mp hw with h | h
  · simp only [List.mem_cons, List.not_mem_nil, or_false] at h
    rcases h with rfl | rfl | rfl
    · exact dk_gd h1
    · exact dk_gd h2
    · exact dk_gd h4
  · exact dk_gC h5 w h
end
section
def RL : String := "DuctSizesLaw"
abbrev cL_duct : ByteArray := method_3_code
def yL_duct : MethodName := ⟨RL, "duct", "(LDuctSizes;III[J)I"⟩
abbrev cL_need : ByteArray := method_4_code
def yL_need : MethodName := ⟨RL, "need", "(LDuctSizes;II[J)I"⟩
abbrev cL_size : ByteArray := method_5_code
def yL_size : MethodName := ⟨RL, "size", "(LDuctSizes;II[J)I"⟩
abbrev cL_set : ByteArray := method_6_code
def yL_set : MethodName := ⟨RL, "set", "(LDuctSizes;II[J)I"⟩
abbrev cL_fan : ByteArray := method_7_code
def yL_fan : MethodName := ⟨RL, "fan", "(LDuctSizes;II[J)I"⟩
abbrev cL_flow : ByteArray := method_8_code
def yL_flow : MethodName := ⟨RL, "flow", "(LDuctSizes;I[J)I"⟩
abbrev cL_told : ByteArray := method_9_code
def yL_told : MethodName := ⟨RL, "told", "(LDuctSizes;III[J)I"⟩
abbrev cL_best : ByteArray := method_10_code
def yL_best : MethodName := ⟨RL, "best", "(LDuctSizes;I[J)I"⟩
abbrev cL_chosen : ByteArray := method_11_code
def yL_chosen : MethodName := ⟨RL, "chosen", "(LDuctSizes;I[J)I"⟩
abbrev cL_pressure : ByteArray := method_12_code
def yL_pressure : MethodName := ⟨RL, "pressure", "(LDuctSizes;I[J)I"⟩
abbrev cL_damper : ByteArray := method_13_code
def yL_damper : MethodName := ⟨RL, "damper", "(LDuctSizes;I[J)I"⟩
abbrev cL_least : ByteArray := method_14_code
def yL_least : MethodName := ⟨RL, "least", "(LDuctSizes;I[J)I"⟩
abbrev wsL_duct : List Cond := .codeWith yL_duct cL_duct 6 (some .int) [(0, 12, 15, 13), (0, 12, 19, 15)] :: dk_tbl
abbrev wsL_need : List Cond := .codeWith yL_need cL_need 5 (some .int) [(0, 10, 13, 13)] :: dk_tbl
abbrev wsL_size : List Cond := .codeWith yL_size cL_size 5 (some .int) [(0, 10, 13, 13), (0, 10, 17, 15)] :: dk_tbl
abbrev wsL_set : List Cond := .codeWith yL_set cL_set 5 (some .int) [(0, 10, 13, 13)] :: dk_tbl
abbrev wsL_fan : List Cond := .codeWith yL_fan cL_fan 5 (some .int) [(0, 10, 13, 13), (0, 10, 17, 15)] :: dk_tbl
abbrev wsL_flow : List Cond := .codeWith yL_flow cL_flow 4 (some .int) [(0, 9, 12, 13)] :: dk_tbl
abbrev wsL_told : List Cond := .codeWith yL_told cL_told 6 (some .int) [(0, 12, 15, 13)] :: dk_tbl
abbrev wsL_best : List Cond := .codeWith yL_best cL_best 4 (some .int) [(0, 9, 12, 13)] :: dk_tbl
abbrev wsL_chosen : List Cond := .codeWith yL_chosen cL_chosen 4 (some .int) [(0, 9, 12, 13)] :: dk_tbl
abbrev wsL_pressure : List Cond := .codeWith yL_pressure cL_pressure 4 (some .int) [(0, 9, 12, 13)] :: dk_tbl
abbrev wsL_damper : List Cond := .codeWith yL_damper cL_damper 4 (some .int) [(0, 9, 12, 13)] :: dk_tbl
abbrev wsL_least : List Cond := .codeWith yL_least cL_least 4 (some .int) [(0, 9, 12, 13)] :: dk_tbl
end
section
/-! WORDS: each word that the rows use, at its place -/
theorem mw_0 : Cond.selects "DuctSizes$Curve" yX0_pressureBefore yX0_pressureBefore ∈ dk_tbl := List.mem_filter.mpr ⟨List.mem_of_getElem? (i := 0) rfl, rfl⟩
theorem mw_1 : Cond.selects "DuctSizes" yX3_bestChoice yX3_bestChoice ∈ dk_tbl := List.mem_filter.mpr ⟨List.mem_of_getElem? (i := 1) rfl, rfl⟩
theorem mw_2 : Cond.selects "DuctSizes$Search" yX2_noteFalls yX2_noteFalls ∈ dk_tbl := List.mem_filter.mpr ⟨List.mem_of_getElem? (i := 2) rfl, rfl⟩
theorem mw_3 : Cond.selects "DuctSizes$Search" yX2_placeFrom yX2_placeFrom ∈ dk_tbl := List.mem_filter.mpr ⟨List.mem_of_getElem? (i := 3) rfl, rfl⟩
theorem mw_4 : Cond.selects "DuctSizes$Search" yX2_keepTrial yX2_keepTrial ∈ dk_tbl := List.mem_filter.mpr ⟨List.mem_of_getElem? (i := 4) rfl, rfl⟩
theorem mw_5 : Cond.selects "DuctSizes$Search" yX2_placeSize yX2_placeSize ∈ dk_tbl := List.mem_filter.mpr ⟨List.mem_of_getElem? (i := 5) rfl, rfl⟩
theorem mw_6 : Cond.selects "DuctSizes$Search" yX2_isBetter yX2_isBetter ∈ dk_tbl := List.mem_filter.mpr ⟨List.mem_of_getElem? (i := 6) rfl, rfl⟩
theorem mw_8 : Cond.selects "DuctSizes$Network" yX1_sumFlows yX1_sumFlows ∈ dk_tbl := List.mem_filter.mpr ⟨List.mem_of_getElem? (i := 8) rfl, rfl⟩
theorem mw_9 : Cond.selects "DuctSizes" yX3_changeSpeedLimit yX3_changeSpeedLimit ∈ dk_tbl := List.mem_filter.mpr ⟨List.mem_of_getElem? (i := 9) rfl, rfl⟩
theorem mw_10 : Cond.selects "DuctSizes" yX3_changeEnergyPrice yX3_changeEnergyPrice ∈ dk_tbl := List.mem_filter.mpr ⟨List.mem_of_getElem? (i := 10) rfl, rfl⟩
theorem mw_23 : Cond.initialized "DuctSizes" ∈ dk_tbl := List.mem_filter.mpr ⟨List.mem_of_getElem? (i := 23) rfl, rfl⟩
theorem mw_24 : Cond.initialized "DuctSizes$Network" ∈ dk_tbl := List.mem_filter.mpr ⟨List.mem_of_getElem? (i := 24) rfl, rfl⟩
theorem mw_25 : Cond.initialized "DuctSizes$Curve" ∈ dk_tbl := List.mem_filter.mpr ⟨List.mem_of_getElem? (i := 25) rfl, rfl⟩
theorem mw_26 : Cond.initialized "DuctSizes$Search" ∈ dk_tbl := List.mem_filter.mpr ⟨List.mem_of_getElem? (i := 26) rfl, rfl⟩
theorem mw_31 : Cond.initialized "java/lang/IllegalArgumentException" ∈ dk_tbl := List.mem_filter.mpr ⟨List.mem_of_getElem? (i := 31) rfl, rfl⟩
theorem mw_32 : Cond.initialized "java/lang/IllegalStateException" ∈ dk_tbl := List.mem_filter.mpr ⟨List.mem_of_getElem? (i := 32) rfl, rfl⟩
theorem mw_33 : Cond.initialized "java/lang/Math" ∈ dk_tbl := List.mem_filter.mpr ⟨List.mem_of_getElem? (i := 33) rfl, rfl⟩
theorem mw_39 : Cond.methodLink "DuctSizes" 1 ({ cls := "java/lang/Object", name := "<init>", desc := "()V" } : Jvm.MethodName) ∈ dk_tbl := List.mem_filter.mpr ⟨List.mem_of_getElem? (i := 39) rfl, rfl⟩
theorem mw_40 : Cond.instanceMethod ({ cls := "java/lang/Object", name := "<init>", desc := "()V" } : Jvm.MethodName) ∈ dk_tbl := List.mem_filter.mpr ⟨List.mem_of_getElem? (i := 40) rfl, rfl⟩
theorem mw_41 : Cond.code ({ cls := "java/lang/Object", name := "<init>", desc := "()V" } : Jvm.MethodName) object_method_1_code 1 (none : Option FieldType) ∈ dk_tbl := List.mem_filter.mpr ⟨List.mem_of_getElem? (i := 41) rfl, rfl⟩
theorem mw_42 : Cond.classLink "DuctSizes" 7 "DuctSizes$Network" ∈ dk_tbl := List.mem_filter.mpr ⟨List.mem_of_getElem? (i := 42) rfl, rfl⟩
theorem mw_43 : Cond.instantiable "DuctSizes$Network" 10 ∈ dk_tbl := List.mem_filter.mpr ⟨List.mem_of_getElem? (i := 43) rfl, rfl⟩
theorem mw_45 : Cond.instanceMethod yX1_init ∈ dk_tbl := List.mem_filter.mpr ⟨List.mem_of_getElem? (i := 45) rfl, rfl⟩
theorem mw_46 : Cond.code yX1_init prog_3_method_1_code 1 (none : Option FieldType) ∈ dk_tbl := List.mem_filter.mpr ⟨List.mem_of_getElem? (i := 46) rfl, rfl⟩
theorem mw_47 : Cond.methodLink "DuctSizes$Network" 3 ({ cls := "java/lang/Object", name := "<init>", desc := "()V" } : Jvm.MethodName) ∈ dk_tbl := List.mem_filter.mpr ⟨List.mem_of_getElem? (i := 47) rfl, rfl⟩
theorem mw_48 : Cond.constant "DuctSizes$Network" 40 (100000 : Int32) ∈ dk_tbl := List.mem_filter.mpr ⟨List.mem_of_getElem? (i := 48) rfl, rfl⟩
theorem mw_49 : Cond.fieldLink RX1 9 "DuctSizes$Network" "from" "[I" ∈ dk_tbl := List.mem_filter.mpr ⟨List.mem_of_getElem? (i := 49) rfl, rfl⟩
theorem mw_50 : Cond.fieldLink RX2 81 "DuctSizes$Network" "from" "[I" ∈ dk_tbl := List.mem_filter.mpr ⟨List.mem_of_getElem? (i := 50) rfl, rfl⟩
theorem mw_51 : Cond.fieldLink RX1 15 "DuctSizes$Network" "lengths" "[I" ∈ dk_tbl := List.mem_filter.mpr ⟨List.mem_of_getElem? (i := 51) rfl, rfl⟩
theorem mw_52 : Cond.fieldLink RX1 18 "DuctSizes$Network" "fittings" "[I" ∈ dk_tbl := List.mem_filter.mpr ⟨List.mem_of_getElem? (i := 52) rfl, rfl⟩
theorem mw_53 : Cond.fieldLink RX1 21 "DuctSizes$Network" "needs" "[I" ∈ dk_tbl := List.mem_filter.mpr ⟨List.mem_of_getElem? (i := 53) rfl, rfl⟩
theorem mw_54 : Cond.fieldLink RX3 120 "DuctSizes$Network" "needs" "[I" ∈ dk_tbl := List.mem_filter.mpr ⟨List.mem_of_getElem? (i := 54) rfl, rfl⟩
theorem mw_55 : Cond.fieldLink RX1 24 "DuctSizes$Network" "flows" "[I" ∈ dk_tbl := List.mem_filter.mpr ⟨List.mem_of_getElem? (i := 55) rfl, rfl⟩
theorem mw_56 : Cond.fieldLink RX3 89 "DuctSizes$Network" "flows" "[I" ∈ dk_tbl := List.mem_filter.mpr ⟨List.mem_of_getElem? (i := 56) rfl, rfl⟩
theorem mw_57 : Cond.fieldLink RX1 27 "DuctSizes$Network" "ducts" "I" ∈ dk_tbl := List.mem_filter.mpr ⟨List.mem_of_getElem? (i := 57) rfl, rfl⟩
theorem mw_58 : Cond.fieldLink RX3 43 "DuctSizes$Network" "ducts" "I" ∈ dk_tbl := List.mem_filter.mpr ⟨List.mem_of_getElem? (i := 58) rfl, rfl⟩
theorem mw_59 : Cond.fieldLink RX2 57 "DuctSizes$Network" "ducts" "I" ∈ dk_tbl := List.mem_filter.mpr ⟨List.mem_of_getElem? (i := 59) rfl, rfl⟩
theorem mw_60 : Cond.fieldLink RX1 31 "DuctSizes$Network" "areas" "[I" ∈ dk_tbl := List.mem_filter.mpr ⟨List.mem_of_getElem? (i := 60) rfl, rfl⟩
theorem mw_61 : Cond.fieldLink RX1 34 "DuctSizes$Network" "prices" "[I" ∈ dk_tbl := List.mem_filter.mpr ⟨List.mem_of_getElem? (i := 61) rfl, rfl⟩
theorem mw_62 : Cond.fieldLink RX1 37 "DuctSizes$Network" "sizes" "I" ∈ dk_tbl := List.mem_filter.mpr ⟨List.mem_of_getElem? (i := 62) rfl, rfl⟩
theorem mw_63 : Cond.fieldLink RX3 65 "DuctSizes$Network" "sizes" "I" ∈ dk_tbl := List.mem_filter.mpr ⟨List.mem_of_getElem? (i := 63) rfl, rfl⟩
theorem mw_64 : Cond.fieldLink RX2 62 "DuctSizes$Network" "sizes" "I" ∈ dk_tbl := List.mem_filter.mpr ⟨List.mem_of_getElem? (i := 64) rfl, rfl⟩
theorem mw_65 : Cond.fieldLink RX1 41 "DuctSizes$Network" "speedLimit" "I" ∈ dk_tbl := List.mem_filter.mpr ⟨List.mem_of_getElem? (i := 65) rfl, rfl⟩
theorem mw_66 : Cond.fieldLink RX3 137 "DuctSizes$Network" "speedLimit" "I" ∈ dk_tbl := List.mem_filter.mpr ⟨List.mem_of_getElem? (i := 66) rfl, rfl⟩
theorem mw_88 : Cond.arrayClass FieldType.int ∈ dk_tbl := List.mem_filter.mpr ⟨List.mem_of_getElem? (i := 88) rfl, rfl⟩
theorem mw_89 : Cond.classLink "DuctSizes" 16 "DuctSizes$Curve" ∈ dk_tbl := List.mem_filter.mpr ⟨List.mem_of_getElem? (i := 89) rfl, rfl⟩
theorem mw_90 : Cond.instantiable "DuctSizes$Curve" 3 ∈ dk_tbl := List.mem_filter.mpr ⟨List.mem_of_getElem? (i := 90) rfl, rfl⟩
theorem mw_92 : Cond.instanceMethod yX0_init ∈ dk_tbl := List.mem_filter.mpr ⟨List.mem_of_getElem? (i := 92) rfl, rfl⟩
theorem mw_93 : Cond.code yX0_init prog_2_method_1_code 1 (none : Option FieldType) ∈ dk_tbl := List.mem_filter.mpr ⟨List.mem_of_getElem? (i := 93) rfl, rfl⟩
theorem mw_94 : Cond.methodLink "DuctSizes$Curve" 3 ({ cls := "java/lang/Object", name := "<init>", desc := "()V" } : Jvm.MethodName) ∈ dk_tbl := List.mem_filter.mpr ⟨List.mem_of_getElem? (i := 94) rfl, rfl⟩
theorem mw_95 : Cond.fieldLink RX0 9 "DuctSizes$Curve" "flows" "[I" ∈ dk_tbl := List.mem_filter.mpr ⟨List.mem_of_getElem? (i := 95) rfl, rfl⟩
theorem mw_96 : Cond.fieldLink RX0 15 "DuctSizes$Curve" "pressures" "[I" ∈ dk_tbl := List.mem_filter.mpr ⟨List.mem_of_getElem? (i := 96) rfl, rfl⟩
theorem mw_97 : Cond.fieldLink RX0 18 "DuctSizes$Curve" "points" "I" ∈ dk_tbl := List.mem_filter.mpr ⟨List.mem_of_getElem? (i := 97) rfl, rfl⟩
theorem mw_105 : Cond.classLink "DuctSizes" 23 "DuctSizes$Search" ∈ dk_tbl := List.mem_filter.mpr ⟨List.mem_of_getElem? (i := 105) rfl, rfl⟩
theorem mw_106 : Cond.instantiable "DuctSizes$Search" 11 ∈ dk_tbl := List.mem_filter.mpr ⟨List.mem_of_getElem? (i := 106) rfl, rfl⟩
theorem mw_107 : Cond.methodLink "DuctSizes" 25 yX2_init ∈ dk_tbl := List.mem_filter.mpr ⟨List.mem_of_getElem? (i := 107) rfl, rfl⟩
theorem mw_108 : Cond.instanceMethod yX2_init ∈ dk_tbl := List.mem_filter.mpr ⟨List.mem_of_getElem? (i := 108) rfl, rfl⟩
theorem mw_109 : Cond.code yX2_init prog_4_method_1_code 2 (none : Option FieldType) ∈ dk_tbl := List.mem_filter.mpr ⟨List.mem_of_getElem? (i := 109) rfl, rfl⟩
theorem mw_110 : Cond.methodLink "DuctSizes$Search" 3 ({ cls := "java/lang/Object", name := "<init>", desc := "()V" } : Jvm.MethodName) ∈ dk_tbl := List.mem_filter.mpr ⟨List.mem_of_getElem? (i := 110) rfl, rfl⟩
theorem mw_111 : Cond.classLink "DuctSizes$Search" 9 "[[I" ∈ dk_tbl := List.mem_filter.mpr ⟨List.mem_of_getElem? (i := 111) rfl, rfl⟩
theorem mw_113 : Cond.fieldLink RX2 46 "DuctSizes$Search" "network" "LDuctSizes$Network;" ∈ dk_tbl := List.mem_filter.mpr ⟨List.mem_of_getElem? (i := 113) rfl, rfl⟩
theorem mw_114 : Cond.fieldLink RX2 11 "DuctSizes$Search" "falls" "[[I" ∈ dk_tbl := List.mem_filter.mpr ⟨List.mem_of_getElem? (i := 114) rfl, rfl⟩
theorem mw_115 : Cond.fieldLink RX2 16 "DuctSizes$Search" "trialSizeOf" "[I" ∈ dk_tbl := List.mem_filter.mpr ⟨List.mem_of_getElem? (i := 115) rfl, rfl⟩
theorem mw_116 : Cond.fieldLink RX2 20 "DuctSizes$Search" "trialPressureAt" "[I" ∈ dk_tbl := List.mem_filter.mpr ⟨List.mem_of_getElem? (i := 116) rfl, rfl⟩
theorem mw_117 : Cond.fieldLink RX2 23 "DuctSizes$Search" "limit" "I" ∈ dk_tbl := List.mem_filter.mpr ⟨List.mem_of_getElem? (i := 117) rfl, rfl⟩
theorem mw_118 : Cond.fieldLink RX2 27 "DuctSizes$Search" "energyPrice" "I" ∈ dk_tbl := List.mem_filter.mpr ⟨List.mem_of_getElem? (i := 118) rfl, rfl⟩
theorem mw_119 : Cond.fieldLink RX2 30 "DuctSizes$Search" "sizeOf" "[I" ∈ dk_tbl := List.mem_filter.mpr ⟨List.mem_of_getElem? (i := 119) rfl, rfl⟩
theorem mw_120 : Cond.fieldLink RX3 115 "DuctSizes$Search" "sizeOf" "[I" ∈ dk_tbl := List.mem_filter.mpr ⟨List.mem_of_getElem? (i := 120) rfl, rfl⟩
theorem mw_121 : Cond.fieldLink RX2 33 "DuctSizes$Search" "pressureAt" "[I" ∈ dk_tbl := List.mem_filter.mpr ⟨List.mem_of_getElem? (i := 121) rfl, rfl⟩
theorem mw_122 : Cond.fieldLink RX3 118 "DuctSizes$Search" "pressureAt" "[I" ∈ dk_tbl := List.mem_filter.mpr ⟨List.mem_of_getElem? (i := 122) rfl, rfl⟩
theorem mw_123 : Cond.fieldLink RX2 36 "DuctSizes$Search" "found" "Z" ∈ dk_tbl := List.mem_filter.mpr ⟨List.mem_of_getElem? (i := 123) rfl, rfl⟩
theorem mw_124 : Cond.fieldLink RX3 106 "DuctSizes$Search" "found" "Z" ∈ dk_tbl := List.mem_filter.mpr ⟨List.mem_of_getElem? (i := 124) rfl, rfl⟩
theorem mw_125 : Cond.fieldLink RX2 40 "DuctSizes$Search" "cost" "I" ∈ dk_tbl := List.mem_filter.mpr ⟨List.mem_of_getElem? (i := 125) rfl, rfl⟩
theorem mw_126 : Cond.fieldLink RX3 109 "DuctSizes$Search" "cost" "I" ∈ dk_tbl := List.mem_filter.mpr ⟨List.mem_of_getElem? (i := 126) rfl, rfl⟩
theorem mw_127 : Cond.fieldLink RX2 43 "DuctSizes$Search" "pressure" "I" ∈ dk_tbl := List.mem_filter.mpr ⟨List.mem_of_getElem? (i := 127) rfl, rfl⟩
theorem mw_128 : Cond.fieldLink RX3 112 "DuctSizes$Search" "pressure" "I" ∈ dk_tbl := List.mem_filter.mpr ⟨List.mem_of_getElem? (i := 128) rfl, rfl⟩
theorem mw_152 : Cond.fieldLink RX3 10 "DuctSizes" "network" "LDuctSizes$Network;" ∈ dk_tbl := List.mem_filter.mpr ⟨List.mem_of_getElem? (i := 152) rfl, rfl⟩
theorem mw_153 : Cond.fieldLink RX3 19 "DuctSizes" "curve" "LDuctSizes$Curve;" ∈ dk_tbl := List.mem_filter.mpr ⟨List.mem_of_getElem? (i := 153) rfl, rfl⟩
theorem mw_154 : Cond.fieldLink RX3 28 "DuctSizes" "best" "LDuctSizes$Search;" ∈ dk_tbl := List.mem_filter.mpr ⟨List.mem_of_getElem? (i := 154) rfl, rfl⟩
theorem mw_155 : Cond.fieldLink RX3 32 "DuctSizes" "cheapest" "LDuctSizes$Search;" ∈ dk_tbl := List.mem_filter.mpr ⟨List.mem_of_getElem? (i := 155) rfl, rfl⟩
theorem mw_156 : Cond.fieldLink RX3 35 "DuctSizes" "energyPrice" "I" ∈ dk_tbl := List.mem_filter.mpr ⟨List.mem_of_getElem? (i := 156) rfl, rfl⟩
theorem mw_157 : Cond.fieldLink RX3 39 "DuctSizes" "bestIsOld" "Z" ∈ dk_tbl := List.mem_filter.mpr ⟨List.mem_of_getElem? (i := 157) rfl, rfl⟩
theorem mw_172 : Cond.instanceMethod yX3_gives ∈ dk_tbl := List.mem_filter.mpr ⟨List.mem_of_getElem? (i := 172) rfl, rfl⟩
theorem mw_173 : Cond.selects "DuctSizes" yX3_gives yX3_gives ∈ dk_tbl := List.mem_filter.mpr ⟨List.mem_of_getElem? (i := 173) rfl, rfl⟩
theorem mw_174 : Cond.code yX3_gives prog_1_method_7_code 1 (some FieldType.int) ∈ dk_tbl := List.mem_filter.mpr ⟨List.mem_of_getElem? (i := 174) rfl, rfl⟩
theorem mw_175 : Cond.methodLink "DuctSizes" 93 yX0_pressureAt ∈ dk_tbl := List.mem_filter.mpr ⟨List.mem_of_getElem? (i := 175) rfl, rfl⟩
theorem mw_176 : Cond.instanceMethod yX0_pressureAt ∈ dk_tbl := List.mem_filter.mpr ⟨List.mem_of_getElem? (i := 176) rfl, rfl⟩
theorem mw_177 : Cond.selects "DuctSizes$Curve" yX0_pressureAt yX0_pressureAt ∈ dk_tbl := List.mem_filter.mpr ⟨List.mem_of_getElem? (i := 177) rfl, rfl⟩
theorem mw_178 : Cond.code yX0_pressureAt prog_2_method_4_code 3 (some FieldType.int) ∈ dk_tbl := List.mem_filter.mpr ⟨List.mem_of_getElem? (i := 178) rfl, rfl⟩
theorem mw_179 : Cond.methodLink "DuctSizes$Curve" 22 yX0_pressureBefore ∈ dk_tbl := List.mem_filter.mpr ⟨List.mem_of_getElem? (i := 179) rfl, rfl⟩
theorem mw_181 : Cond.instanceMethod yX0_pressureBefore ∈ dk_tbl := List.mem_filter.mpr ⟨List.mem_of_getElem? (i := 181) rfl, rfl⟩
theorem mw_182 : Cond.code yX0_pressureBefore prog_2_method_5_code 6 (some FieldType.int) ∈ dk_tbl := List.mem_filter.mpr ⟨List.mem_of_getElem? (i := 182) rfl, rfl⟩
theorem mw_187 : Cond.methodLink "DuctSizes" 102 yX3_bestChoice ∈ dk_tbl := List.mem_filter.mpr ⟨List.mem_of_getElem? (i := 187) rfl, rfl⟩
theorem mw_189 : Cond.instanceMethod yX3_bestChoice ∈ dk_tbl := List.mem_filter.mpr ⟨List.mem_of_getElem? (i := 189) rfl, rfl⟩
theorem mw_190 : Cond.code yX3_bestChoice prog_1_method_19_code 1 (some (FieldType.object "DuctSizes$Search")) ∈ dk_tbl := List.mem_filter.mpr ⟨List.mem_of_getElem? (i := 190) rfl, rfl⟩
theorem mw_191 : Cond.methodLink "DuctSizes" 140 yX3_gives ∈ dk_tbl := List.mem_filter.mpr ⟨List.mem_of_getElem? (i := 191) rfl, rfl⟩
theorem mw_192 : Cond.methodLink "DuctSizes" 123 yX2_run ∈ dk_tbl := List.mem_filter.mpr ⟨List.mem_of_getElem? (i := 192) rfl, rfl⟩
theorem mw_193 : Cond.instanceMethod yX2_run ∈ dk_tbl := List.mem_filter.mpr ⟨List.mem_of_getElem? (i := 193) rfl, rfl⟩
theorem mw_194 : Cond.selects "DuctSizes$Search" yX2_run yX2_run ∈ dk_tbl := List.mem_filter.mpr ⟨List.mem_of_getElem? (i := 194) rfl, rfl⟩
theorem mw_195 : Cond.code yX2_run prog_4_method_2_code 3 (none : Option FieldType) ∈ dk_tbl := List.mem_filter.mpr ⟨List.mem_of_getElem? (i := 195) rfl, rfl⟩
theorem mw_196 : Cond.methodLink "DuctSizes$Search" 50 yX2_noteFalls ∈ dk_tbl := List.mem_filter.mpr ⟨List.mem_of_getElem? (i := 196) rfl, rfl⟩
theorem mw_198 : Cond.instanceMethod yX2_noteFalls ∈ dk_tbl := List.mem_filter.mpr ⟨List.mem_of_getElem? (i := 198) rfl, rfl⟩
theorem mw_199 : Cond.code yX2_noteFalls prog_4_method_4_code 3 (none : Option FieldType) ∈ dk_tbl := List.mem_filter.mpr ⟨List.mem_of_getElem? (i := 199) rfl, rfl⟩
theorem mw_200 : Cond.methodLink "DuctSizes$Search" 65 yX1_allows ∈ dk_tbl := List.mem_filter.mpr ⟨List.mem_of_getElem? (i := 200) rfl, rfl⟩
theorem mw_201 : Cond.instanceMethod yX1_allows ∈ dk_tbl := List.mem_filter.mpr ⟨List.mem_of_getElem? (i := 201) rfl, rfl⟩
theorem mw_202 : Cond.selects "DuctSizes$Network" yX1_allows yX1_allows ∈ dk_tbl := List.mem_filter.mpr ⟨List.mem_of_getElem? (i := 202) rfl, rfl⟩
theorem mw_203 : Cond.code yX1_allows prog_3_method_8_code 3 (some FieldType.boolean) ∈ dk_tbl := List.mem_filter.mpr ⟨List.mem_of_getElem? (i := 203) rfl, rfl⟩
theorem mw_204 : Cond.methodLink "DuctSizes$Network" 59 yX1_speedOf ∈ dk_tbl := List.mem_filter.mpr ⟨List.mem_of_getElem? (i := 204) rfl, rfl⟩
theorem mw_205 : Cond.instanceMethod yX1_speedOf ∈ dk_tbl := List.mem_filter.mpr ⟨List.mem_of_getElem? (i := 205) rfl, rfl⟩
theorem mw_206 : Cond.selects "DuctSizes$Network" yX1_speedOf yX1_speedOf ∈ dk_tbl := List.mem_filter.mpr ⟨List.mem_of_getElem? (i := 206) rfl, rfl⟩
theorem mw_207 : Cond.code yX1_speedOf prog_3_method_6_code 3 (some FieldType.int) ∈ dk_tbl := List.mem_filter.mpr ⟨List.mem_of_getElem? (i := 207) rfl, rfl⟩
theorem mw_208 : Cond.methodLink "DuctSizes$Search" 69 yX1_fallOf ∈ dk_tbl := List.mem_filter.mpr ⟨List.mem_of_getElem? (i := 208) rfl, rfl⟩
theorem mw_209 : Cond.instanceMethod yX1_fallOf ∈ dk_tbl := List.mem_filter.mpr ⟨List.mem_of_getElem? (i := 209) rfl, rfl⟩
theorem mw_210 : Cond.selects "DuctSizes$Network" yX1_fallOf yX1_fallOf ∈ dk_tbl := List.mem_filter.mpr ⟨List.mem_of_getElem? (i := 210) rfl, rfl⟩
theorem mw_211 : Cond.code yX1_fallOf prog_3_method_7_code 11 (some FieldType.int) ∈ dk_tbl := List.mem_filter.mpr ⟨List.mem_of_getElem? (i := 211) rfl, rfl⟩
theorem mw_212 : Cond.constantLong "DuctSizes$Network" 47 (1000 : Int64) ∈ dk_tbl := List.mem_filter.mpr ⟨List.mem_of_getElem? (i := 212) rfl, rfl⟩
theorem mw_213 : Cond.constantLong "DuctSizes$Network" 49 (100 : Int64) ∈ dk_tbl := List.mem_filter.mpr ⟨List.mem_of_getElem? (i := 213) rfl, rfl⟩
theorem mw_214 : Cond.constantLong "DuctSizes$Network" 51 (1000000 : Int64) ∈ dk_tbl := List.mem_filter.mpr ⟨List.mem_of_getElem? (i := 214) rfl, rfl⟩
theorem mw_215 : Cond.methodLink "DuctSizes$Network" 53 ({ cls := "java/lang/Math", name := "min", desc := "(JJ)J" } : Jvm.MethodName) ∈ dk_tbl := List.mem_filter.mpr ⟨List.mem_of_getElem? (i := 215) rfl, rfl⟩
theorem mw_216 : Cond.static ({ cls := "java/lang/Math", name := "min", desc := "(JJ)J" } : Jvm.MethodName) ∈ dk_tbl := List.mem_filter.mpr ⟨List.mem_of_getElem? (i := 216) rfl, rfl⟩
theorem mw_217 : Cond.code ({ cls := "java/lang/Math", name := "min", desc := "(JJ)J" } : Jvm.MethodName) prog_10_method_70_code 4 (some FieldType.long) ∈ dk_tbl := List.mem_filter.mpr ⟨List.mem_of_getElem? (i := 217) rfl, rfl⟩
theorem mw_218 : Cond.methodLink "DuctSizes$Search" 53 yX2_placeFrom ∈ dk_tbl := List.mem_filter.mpr ⟨List.mem_of_getElem? (i := 218) rfl, rfl⟩
theorem mw_220 : Cond.instanceMethod yX2_placeFrom ∈ dk_tbl := List.mem_filter.mpr ⟨List.mem_of_getElem? (i := 220) rfl, rfl⟩
theorem mw_221 : Cond.code yX2_placeFrom prog_4_method_5_code 5 (none : Option FieldType) ∈ dk_tbl := List.mem_filter.mpr ⟨List.mem_of_getElem? (i := 221) rfl, rfl⟩
theorem mw_222 : Cond.methodLink "DuctSizes$Search" 73 yX2_keepTrial ∈ dk_tbl := List.mem_filter.mpr ⟨List.mem_of_getElem? (i := 222) rfl, rfl⟩
theorem mw_224 : Cond.instanceMethod yX2_keepTrial ∈ dk_tbl := List.mem_filter.mpr ⟨List.mem_of_getElem? (i := 224) rfl, rfl⟩
theorem mw_225 : Cond.code yX2_keepTrial prog_4_method_8_code 4 (none : Option FieldType) ∈ dk_tbl := List.mem_filter.mpr ⟨List.mem_of_getElem? (i := 225) rfl, rfl⟩
theorem mw_226 : Cond.methodLink "DuctSizes$Search" 77 yX2_placeSize ∈ dk_tbl := List.mem_filter.mpr ⟨List.mem_of_getElem? (i := 226) rfl, rfl⟩
theorem mw_228 : Cond.instanceMethod yX2_placeSize ∈ dk_tbl := List.mem_filter.mpr ⟨List.mem_of_getElem? (i := 228) rfl, rfl⟩
theorem mw_229 : Cond.code yX2_placeSize prog_4_method_6_code 8 (none : Option FieldType) ∈ dk_tbl := List.mem_filter.mpr ⟨List.mem_of_getElem? (i := 229) rfl, rfl⟩
theorem mw_230 : Cond.methodLink "DuctSizes$Search" 84 ({ cls := "java/lang/Math", name := "max", desc := "(II)I" } : Jvm.MethodName) ∈ dk_tbl := List.mem_filter.mpr ⟨List.mem_of_getElem? (i := 230) rfl, rfl⟩
theorem mw_231 : Cond.static ({ cls := "java/lang/Math", name := "max", desc := "(II)I" } : Jvm.MethodName) ∈ dk_tbl := List.mem_filter.mpr ⟨List.mem_of_getElem? (i := 231) rfl, rfl⟩
theorem mw_232 : Cond.code ({ cls := "java/lang/Math", name := "max", desc := "(II)I" } : Jvm.MethodName) prog_10_method_65_code 2 (some FieldType.int) ∈ dk_tbl := List.mem_filter.mpr ⟨List.mem_of_getElem? (i := 232) rfl, rfl⟩
theorem mw_233 : Cond.methodLink "DuctSizes$Search" 89 yX1_priceOf ∈ dk_tbl := List.mem_filter.mpr ⟨List.mem_of_getElem? (i := 233) rfl, rfl⟩
theorem mw_234 : Cond.instanceMethod yX1_priceOf ∈ dk_tbl := List.mem_filter.mpr ⟨List.mem_of_getElem? (i := 234) rfl, rfl⟩
theorem mw_235 : Cond.selects "DuctSizes$Network" yX1_priceOf yX1_priceOf ∈ dk_tbl := List.mem_filter.mpr ⟨List.mem_of_getElem? (i := 235) rfl, rfl⟩
theorem mw_236 : Cond.code yX1_priceOf prog_3_method_9_code 3 (some FieldType.int) ∈ dk_tbl := List.mem_filter.mpr ⟨List.mem_of_getElem? (i := 236) rfl, rfl⟩
theorem mw_237 : Cond.methodLink "DuctSizes$Search" 92 yX2_isBetter ∈ dk_tbl := List.mem_filter.mpr ⟨List.mem_of_getElem? (i := 237) rfl, rfl⟩
theorem mw_239 : Cond.instanceMethod yX2_isBetter ∈ dk_tbl := List.mem_filter.mpr ⟨List.mem_of_getElem? (i := 239) rfl, rfl⟩
theorem mw_240 : Cond.code yX2_isBetter prog_4_method_7_code 4 (some FieldType.boolean) ∈ dk_tbl := List.mem_filter.mpr ⟨List.mem_of_getElem? (i := 240) rfl, rfl⟩
theorem mw_241 : Cond.methodLink "DuctSizes" 127 yX2_firstNodeOfGreatestPressure ∈ dk_tbl := List.mem_filter.mpr ⟨List.mem_of_getElem? (i := 241) rfl, rfl⟩
theorem mw_242 : Cond.instanceMethod yX2_firstNodeOfGreatestPressure ∈ dk_tbl := List.mem_filter.mpr ⟨List.mem_of_getElem? (i := 242) rfl, rfl⟩
theorem mw_243 : Cond.selects "DuctSizes$Search" yX2_firstNodeOfGreatestPressure yX2_firstNodeOfGreatestPressure ∈ dk_tbl := List.mem_filter.mpr ⟨List.mem_of_getElem? (i := 243) rfl, rfl⟩
theorem mw_244 : Cond.code yX2_firstNodeOfGreatestPressure prog_4_method_3_code 3 (some FieldType.int) ∈ dk_tbl := List.mem_filter.mpr ⟨List.mem_of_getElem? (i := 244) rfl, rfl⟩
theorem mw_248 : Cond.classLink "DuctSizesLaw" 13 "java/lang/IllegalArgumentException" ∈ dk_tbl := List.mem_filter.mpr ⟨List.mem_of_getElem? (i := 248) rfl, rfl⟩
theorem mw_249 : Cond.classLink "DuctSizesLaw" 15 "java/lang/IllegalStateException" ∈ dk_tbl := List.mem_filter.mpr ⟨List.mem_of_getElem? (i := 249) rfl, rfl⟩
theorem mw_250 : Cond.methodLink "DuctSizesLaw" 7 yX3_duct ∈ dk_tbl := List.mem_filter.mpr ⟨List.mem_of_getElem? (i := 250) rfl, rfl⟩
theorem mw_251 : Cond.instanceMethod yX3_duct ∈ dk_tbl := List.mem_filter.mpr ⟨List.mem_of_getElem? (i := 251) rfl, rfl⟩
theorem mw_252 : Cond.selects "DuctSizes" yX3_duct yX3_duct ∈ dk_tbl := List.mem_filter.mpr ⟨List.mem_of_getElem? (i := 252) rfl, rfl⟩
theorem mw_253 : Cond.code yX3_duct prog_1_method_2_code 4 (some FieldType.int) ∈ dk_tbl := List.mem_filter.mpr ⟨List.mem_of_getElem? (i := 253) rfl, rfl⟩
theorem mw_254 : Cond.methodLink "DuctSizes" 46 yX3_demand ∈ dk_tbl := List.mem_filter.mpr ⟨List.mem_of_getElem? (i := 254) rfl, rfl⟩
theorem mw_255 : Cond.static yX3_demand ∈ dk_tbl := List.mem_filter.mpr ⟨List.mem_of_getElem? (i := 255) rfl, rfl⟩
theorem mw_256 : Cond.code yX3_demand prog_1_method_16_code 3 (none : Option FieldType) ∈ dk_tbl := List.mem_filter.mpr ⟨List.mem_of_getElem? (i := 256) rfl, rfl⟩
theorem mw_257 : Cond.classLink "DuctSizes" 131 "java/lang/IllegalArgumentException" ∈ dk_tbl := List.mem_filter.mpr ⟨List.mem_of_getElem? (i := 257) rfl, rfl⟩
theorem mw_324 : Cond.classLink "DuctSizes" 50 "java/lang/IllegalStateException" ∈ dk_tbl := List.mem_filter.mpr ⟨List.mem_of_getElem? (i := 324) rfl, rfl⟩
theorem mw_340 : Cond.methodLink "DuctSizes" 57 yX1_addDuct ∈ dk_tbl := List.mem_filter.mpr ⟨List.mem_of_getElem? (i := 340) rfl, rfl⟩
theorem mw_341 : Cond.instanceMethod yX1_addDuct ∈ dk_tbl := List.mem_filter.mpr ⟨List.mem_of_getElem? (i := 341) rfl, rfl⟩
theorem mw_342 : Cond.selects "DuctSizes$Network" yX1_addDuct yX1_addDuct ∈ dk_tbl := List.mem_filter.mpr ⟨List.mem_of_getElem? (i := 342) rfl, rfl⟩
theorem mw_343 : Cond.code yX1_addDuct prog_3_method_2_code 4 (some FieldType.int) ∈ dk_tbl := List.mem_filter.mpr ⟨List.mem_of_getElem? (i := 343) rfl, rfl⟩
theorem mw_347 : Cond.methodLink "DuctSizesLaw" 17 yX3_need ∈ dk_tbl := List.mem_filter.mpr ⟨List.mem_of_getElem? (i := 347) rfl, rfl⟩
theorem mw_348 : Cond.instanceMethod yX3_need ∈ dk_tbl := List.mem_filter.mpr ⟨List.mem_of_getElem? (i := 348) rfl, rfl⟩
theorem mw_349 : Cond.selects "DuctSizes" yX3_need yX3_need ∈ dk_tbl := List.mem_filter.mpr ⟨List.mem_of_getElem? (i := 349) rfl, rfl⟩
theorem mw_350 : Cond.code yX3_need prog_1_method_3_code 3 (some FieldType.int) ∈ dk_tbl := List.mem_filter.mpr ⟨List.mem_of_getElem? (i := 350) rfl, rfl⟩
theorem mw_351 : Cond.methodLink "DuctSizes" 61 yX1_changeNeed ∈ dk_tbl := List.mem_filter.mpr ⟨List.mem_of_getElem? (i := 351) rfl, rfl⟩
theorem mw_352 : Cond.instanceMethod yX1_changeNeed ∈ dk_tbl := List.mem_filter.mpr ⟨List.mem_of_getElem? (i := 352) rfl, rfl⟩
theorem mw_353 : Cond.selects "DuctSizes$Network" yX1_changeNeed yX1_changeNeed ∈ dk_tbl := List.mem_filter.mpr ⟨List.mem_of_getElem? (i := 353) rfl, rfl⟩
theorem mw_354 : Cond.code yX1_changeNeed prog_3_method_4_code 4 (some FieldType.int) ∈ dk_tbl := List.mem_filter.mpr ⟨List.mem_of_getElem? (i := 354) rfl, rfl⟩
theorem mw_355 : Cond.methodLink "DuctSizes$Network" 44 yX1_sumFlows ∈ dk_tbl := List.mem_filter.mpr ⟨List.mem_of_getElem? (i := 355) rfl, rfl⟩
theorem mw_357 : Cond.instanceMethod yX1_sumFlows ∈ dk_tbl := List.mem_filter.mpr ⟨List.mem_of_getElem? (i := 357) rfl, rfl⟩
theorem mw_358 : Cond.code yX1_sumFlows prog_3_method_5_code 2 (none : Option FieldType) ∈ dk_tbl := List.mem_filter.mpr ⟨List.mem_of_getElem? (i := 358) rfl, rfl⟩
theorem mw_362 : Cond.methodLink "DuctSizesLaw" 21 yX3_size ∈ dk_tbl := List.mem_filter.mpr ⟨List.mem_of_getElem? (i := 362) rfl, rfl⟩
theorem mw_363 : Cond.instanceMethod yX3_size ∈ dk_tbl := List.mem_filter.mpr ⟨List.mem_of_getElem? (i := 363) rfl, rfl⟩
theorem mw_364 : Cond.selects "DuctSizes" yX3_size yX3_size ∈ dk_tbl := List.mem_filter.mpr ⟨List.mem_of_getElem? (i := 364) rfl, rfl⟩
theorem mw_365 : Cond.code yX3_size prog_1_method_4_code 3 (some FieldType.int) ∈ dk_tbl := List.mem_filter.mpr ⟨List.mem_of_getElem? (i := 365) rfl, rfl⟩
theorem mw_367 : Cond.methodLink "DuctSizes" 70 yX1_addSize ∈ dk_tbl := List.mem_filter.mpr ⟨List.mem_of_getElem? (i := 367) rfl, rfl⟩
theorem mw_368 : Cond.instanceMethod yX1_addSize ∈ dk_tbl := List.mem_filter.mpr ⟨List.mem_of_getElem? (i := 368) rfl, rfl⟩
theorem mw_369 : Cond.selects "DuctSizes$Network" yX1_addSize yX1_addSize ∈ dk_tbl := List.mem_filter.mpr ⟨List.mem_of_getElem? (i := 369) rfl, rfl⟩
theorem mw_370 : Cond.code yX1_addSize prog_3_method_3_code 3 (some FieldType.int) ∈ dk_tbl := List.mem_filter.mpr ⟨List.mem_of_getElem? (i := 370) rfl, rfl⟩
theorem mw_374 : Cond.methodLink "DuctSizesLaw" 24 yX3_set ∈ dk_tbl := List.mem_filter.mpr ⟨List.mem_of_getElem? (i := 374) rfl, rfl⟩
theorem mw_375 : Cond.instanceMethod yX3_set ∈ dk_tbl := List.mem_filter.mpr ⟨List.mem_of_getElem? (i := 375) rfl, rfl⟩
theorem mw_376 : Cond.selects "DuctSizes" yX3_set yX3_set ∈ dk_tbl := List.mem_filter.mpr ⟨List.mem_of_getElem? (i := 376) rfl, rfl⟩
theorem mw_377 : Cond.code yX3_set prog_1_method_5_code 3 (some FieldType.int) ∈ dk_tbl := List.mem_filter.mpr ⟨List.mem_of_getElem? (i := 377) rfl, rfl⟩
theorem mw_378 : Cond.methodLink "DuctSizes" 73 yX3_changeSpeedLimit ∈ dk_tbl := List.mem_filter.mpr ⟨List.mem_of_getElem? (i := 378) rfl, rfl⟩
theorem mw_380 : Cond.instanceMethod yX3_changeSpeedLimit ∈ dk_tbl := List.mem_filter.mpr ⟨List.mem_of_getElem? (i := 380) rfl, rfl⟩
theorem mw_381 : Cond.code yX3_changeSpeedLimit prog_1_method_17_code 3 (some FieldType.int) ∈ dk_tbl := List.mem_filter.mpr ⟨List.mem_of_getElem? (i := 381) rfl, rfl⟩
theorem mw_382 : Cond.constant "DuctSizes" 136 (100000 : Int32) ∈ dk_tbl := List.mem_filter.mpr ⟨List.mem_of_getElem? (i := 382) rfl, rfl⟩
theorem mw_383 : Cond.methodLink "DuctSizes" 77 yX3_changeEnergyPrice ∈ dk_tbl := List.mem_filter.mpr ⟨List.mem_of_getElem? (i := 383) rfl, rfl⟩
theorem mw_385 : Cond.instanceMethod yX3_changeEnergyPrice ∈ dk_tbl := List.mem_filter.mpr ⟨List.mem_of_getElem? (i := 385) rfl, rfl⟩
theorem mw_386 : Cond.code yX3_changeEnergyPrice prog_1_method_18_code 3 (some FieldType.int) ∈ dk_tbl := List.mem_filter.mpr ⟨List.mem_of_getElem? (i := 386) rfl, rfl⟩
theorem mw_390 : Cond.methodLink "DuctSizesLaw" 27 yX3_fan ∈ dk_tbl := List.mem_filter.mpr ⟨List.mem_of_getElem? (i := 390) rfl, rfl⟩
theorem mw_391 : Cond.instanceMethod yX3_fan ∈ dk_tbl := List.mem_filter.mpr ⟨List.mem_of_getElem? (i := 391) rfl, rfl⟩
theorem mw_392 : Cond.selects "DuctSizes" yX3_fan yX3_fan ∈ dk_tbl := List.mem_filter.mpr ⟨List.mem_of_getElem? (i := 392) rfl, rfl⟩
theorem mw_393 : Cond.code yX3_fan prog_1_method_6_code 3 (some FieldType.int) ∈ dk_tbl := List.mem_filter.mpr ⟨List.mem_of_getElem? (i := 393) rfl, rfl⟩
theorem mw_394 : Cond.methodLink "DuctSizes" 80 yX0_takes ∈ dk_tbl := List.mem_filter.mpr ⟨List.mem_of_getElem? (i := 394) rfl, rfl⟩
theorem mw_395 : Cond.instanceMethod yX0_takes ∈ dk_tbl := List.mem_filter.mpr ⟨List.mem_of_getElem? (i := 395) rfl, rfl⟩
theorem mw_396 : Cond.selects "DuctSizes$Curve" yX0_takes yX0_takes ∈ dk_tbl := List.mem_filter.mpr ⟨List.mem_of_getElem? (i := 396) rfl, rfl⟩
theorem mw_397 : Cond.code yX0_takes prog_2_method_2_code 3 (some FieldType.boolean) ∈ dk_tbl := List.mem_filter.mpr ⟨List.mem_of_getElem? (i := 397) rfl, rfl⟩
theorem mw_399 : Cond.methodLink "DuctSizes" 86 yX0_addPoint ∈ dk_tbl := List.mem_filter.mpr ⟨List.mem_of_getElem? (i := 399) rfl, rfl⟩
theorem mw_400 : Cond.instanceMethod yX0_addPoint ∈ dk_tbl := List.mem_filter.mpr ⟨List.mem_of_getElem? (i := 400) rfl, rfl⟩
theorem mw_401 : Cond.selects "DuctSizes$Curve" yX0_addPoint yX0_addPoint ∈ dk_tbl := List.mem_filter.mpr ⟨List.mem_of_getElem? (i := 401) rfl, rfl⟩
theorem mw_402 : Cond.code yX0_addPoint prog_2_method_3_code 3 (some FieldType.int) ∈ dk_tbl := List.mem_filter.mpr ⟨List.mem_of_getElem? (i := 402) rfl, rfl⟩
theorem mw_406 : Cond.methodLink "DuctSizesLaw" 30 yX3_flow ∈ dk_tbl := List.mem_filter.mpr ⟨List.mem_of_getElem? (i := 406) rfl, rfl⟩
theorem mw_407 : Cond.instanceMethod yX3_flow ∈ dk_tbl := List.mem_filter.mpr ⟨List.mem_of_getElem? (i := 407) rfl, rfl⟩
theorem mw_408 : Cond.selects "DuctSizes" yX3_flow yX3_flow ∈ dk_tbl := List.mem_filter.mpr ⟨List.mem_of_getElem? (i := 408) rfl, rfl⟩
theorem mw_409 : Cond.code yX3_flow prog_1_method_8_code 2 (some FieldType.int) ∈ dk_tbl := List.mem_filter.mpr ⟨List.mem_of_getElem? (i := 409) rfl, rfl⟩
theorem mw_413 : Cond.methodLink "DuctSizesLaw" 34 yX3_told ∈ dk_tbl := List.mem_filter.mpr ⟨List.mem_of_getElem? (i := 413) rfl, rfl⟩
theorem mw_414 : Cond.instanceMethod yX3_told ∈ dk_tbl := List.mem_filter.mpr ⟨List.mem_of_getElem? (i := 414) rfl, rfl⟩
theorem mw_415 : Cond.selects "DuctSizes" yX3_told yX3_told ∈ dk_tbl := List.mem_filter.mpr ⟨List.mem_of_getElem? (i := 415) rfl, rfl⟩
theorem mw_416 : Cond.code yX3_told prog_1_method_9_code 4 (some FieldType.int) ∈ dk_tbl := List.mem_filter.mpr ⟨List.mem_of_getElem? (i := 416) rfl, rfl⟩
theorem mw_417 : Cond.methodLink "DuctSizes" 96 yX1_speedOf ∈ dk_tbl := List.mem_filter.mpr ⟨List.mem_of_getElem? (i := 417) rfl, rfl⟩
theorem mw_418 : Cond.methodLink "DuctSizes" 99 yX1_fallOf ∈ dk_tbl := List.mem_filter.mpr ⟨List.mem_of_getElem? (i := 418) rfl, rfl⟩
theorem mw_422 : Cond.methodLink "DuctSizesLaw" 37 yX3_best ∈ dk_tbl := List.mem_filter.mpr ⟨List.mem_of_getElem? (i := 422) rfl, rfl⟩
theorem mw_423 : Cond.instanceMethod yX3_best ∈ dk_tbl := List.mem_filter.mpr ⟨List.mem_of_getElem? (i := 423) rfl, rfl⟩
theorem mw_424 : Cond.selects "DuctSizes" yX3_best yX3_best ∈ dk_tbl := List.mem_filter.mpr ⟨List.mem_of_getElem? (i := 424) rfl, rfl⟩
theorem mw_425 : Cond.code yX3_best prog_1_method_10_code 3 (some FieldType.int) ∈ dk_tbl := List.mem_filter.mpr ⟨List.mem_of_getElem? (i := 425) rfl, rfl⟩
theorem mw_429 : Cond.methodLink "DuctSizesLaw" 40 yX3_chosen ∈ dk_tbl := List.mem_filter.mpr ⟨List.mem_of_getElem? (i := 429) rfl, rfl⟩
theorem mw_430 : Cond.instanceMethod yX3_chosen ∈ dk_tbl := List.mem_filter.mpr ⟨List.mem_of_getElem? (i := 430) rfl, rfl⟩
theorem mw_431 : Cond.selects "DuctSizes" yX3_chosen yX3_chosen ∈ dk_tbl := List.mem_filter.mpr ⟨List.mem_of_getElem? (i := 431) rfl, rfl⟩
theorem mw_432 : Cond.code yX3_chosen prog_1_method_11_code 3 (some FieldType.int) ∈ dk_tbl := List.mem_filter.mpr ⟨List.mem_of_getElem? (i := 432) rfl, rfl⟩
theorem mw_436 : Cond.methodLink "DuctSizesLaw" 43 yX3_pressure ∈ dk_tbl := List.mem_filter.mpr ⟨List.mem_of_getElem? (i := 436) rfl, rfl⟩
theorem mw_437 : Cond.instanceMethod yX3_pressure ∈ dk_tbl := List.mem_filter.mpr ⟨List.mem_of_getElem? (i := 437) rfl, rfl⟩
theorem mw_438 : Cond.selects "DuctSizes" yX3_pressure yX3_pressure ∈ dk_tbl := List.mem_filter.mpr ⟨List.mem_of_getElem? (i := 438) rfl, rfl⟩
theorem mw_439 : Cond.code yX3_pressure prog_1_method_12_code 3 (some FieldType.int) ∈ dk_tbl := List.mem_filter.mpr ⟨List.mem_of_getElem? (i := 439) rfl, rfl⟩
theorem mw_443 : Cond.methodLink "DuctSizesLaw" 46 yX3_damper ∈ dk_tbl := List.mem_filter.mpr ⟨List.mem_of_getElem? (i := 443) rfl, rfl⟩
theorem mw_444 : Cond.instanceMethod yX3_damper ∈ dk_tbl := List.mem_filter.mpr ⟨List.mem_of_getElem? (i := 444) rfl, rfl⟩
theorem mw_445 : Cond.selects "DuctSizes" yX3_damper yX3_damper ∈ dk_tbl := List.mem_filter.mpr ⟨List.mem_of_getElem? (i := 445) rfl, rfl⟩
theorem mw_446 : Cond.code yX3_damper prog_1_method_13_code 3 (some FieldType.int) ∈ dk_tbl := List.mem_filter.mpr ⟨List.mem_of_getElem? (i := 446) rfl, rfl⟩
theorem mw_450 : Cond.methodLink "DuctSizesLaw" 49 yX3_least ∈ dk_tbl := List.mem_filter.mpr ⟨List.mem_of_getElem? (i := 450) rfl, rfl⟩
theorem mw_451 : Cond.instanceMethod yX3_least ∈ dk_tbl := List.mem_filter.mpr ⟨List.mem_of_getElem? (i := 451) rfl, rfl⟩
theorem mw_452 : Cond.selects "DuctSizes" yX3_least yX3_least ∈ dk_tbl := List.mem_filter.mpr ⟨List.mem_of_getElem? (i := 452) rfl, rfl⟩
theorem mw_453 : Cond.code yX3_least prog_1_method_14_code 2 (some FieldType.int) ∈ dk_tbl := List.mem_filter.mpr ⟨List.mem_of_getElem? (i := 453) rfl, rfl⟩
end
section
/-! DECODE: every instruction at its place -/
theorem dX1_speedOf_0 : decode cX1_speedOf 0 = .ok (.bipush 100, 2) := by decide +kernel
theorem dX1_speedOf_2 : decode cX1_speedOf 2 = .ok (.aload_n 0, 1) := by decide +kernel
theorem dX1_speedOf_3 : decode cX1_speedOf 3 = .ok (.getfield 24, 3) := by decide +kernel
theorem dX1_speedOf_6 : decode cX1_speedOf 6 = .ok (.iload_n 1, 1) := by decide +kernel
theorem dX1_speedOf_7 : decode cX1_speedOf 7 = .ok (.iaload, 1) := by decide +kernel
theorem dX1_speedOf_8 : decode cX1_speedOf 8 = .ok (.imul, 1) := by decide +kernel
theorem dX1_speedOf_9 : decode cX1_speedOf 9 = .ok (.aload_n 0, 1) := by decide +kernel
theorem dX1_speedOf_10 : decode cX1_speedOf 10 = .ok (.getfield 31, 3) := by decide +kernel
theorem dX1_speedOf_13 : decode cX1_speedOf 13 = .ok (.iload_n 2, 1) := by decide +kernel
theorem dX1_speedOf_14 : decode cX1_speedOf 14 = .ok (.iaload, 1) := by decide +kernel
theorem dX1_speedOf_15 : decode cX1_speedOf 15 = .ok (.idiv, 1) := by decide +kernel
theorem dX1_speedOf_16 : decode cX1_speedOf 16 = .ok (.ireturn, 1) := by decide +kernel
theorem dX1_fallOf_0 : decode cX1_fallOf 0 = .ok (.aload_n 0, 1) := by decide +kernel
theorem dX1_fallOf_1 : decode cX1_fallOf 1 = .ok (.getfield 24, 3) := by decide +kernel
theorem dX1_fallOf_4 : decode cX1_fallOf 4 = .ok (.iload_n 1, 1) := by decide +kernel
theorem dX1_fallOf_5 : decode cX1_fallOf 5 = .ok (.iaload, 1) := by decide +kernel
theorem dX1_fallOf_6 : decode cX1_fallOf 6 = .ok (.i2l, 1) := by decide +kernel
theorem dX1_fallOf_7 : decode cX1_fallOf 7 = .ok (.lstore_n 3, 1) := by decide +kernel
theorem dX1_fallOf_8 : decode cX1_fallOf 8 = .ok (.aload_n 0, 1) := by decide +kernel
theorem dX1_fallOf_9 : decode cX1_fallOf 9 = .ok (.getfield 31, 3) := by decide +kernel
theorem dX1_fallOf_12 : decode cX1_fallOf 12 = .ok (.iload_n 2, 1) := by decide +kernel
theorem dX1_fallOf_13 : decode cX1_fallOf 13 = .ok (.iaload, 1) := by decide +kernel
theorem dX1_fallOf_14 : decode cX1_fallOf 14 = .ok (.i2l, 1) := by decide +kernel
theorem dX1_fallOf_15 : decode cX1_fallOf 15 = .ok (.lstore 5, 2) := by decide +kernel
theorem dX1_fallOf_17 : decode cX1_fallOf 17 = .ok (.ldc2_w 47, 3) := by decide +kernel
theorem dX1_fallOf_20 : decode cX1_fallOf 20 = .ok (.lload_n 3, 1) := by decide +kernel
theorem dX1_fallOf_21 : decode cX1_fallOf 21 = .ok (.lmul, 1) := by decide +kernel
theorem dX1_fallOf_22 : decode cX1_fallOf 22 = .ok (.lload_n 3, 1) := by decide +kernel
theorem dX1_fallOf_23 : decode cX1_fallOf 23 = .ok (.lmul, 1) := by decide +kernel
theorem dX1_fallOf_24 : decode cX1_fallOf 24 = .ok (.lload 5, 2) := by decide +kernel
theorem dX1_fallOf_26 : decode cX1_fallOf 26 = .ok (.lload 5, 2) := by decide +kernel
theorem dX1_fallOf_28 : decode cX1_fallOf 28 = .ok (.lmul, 1) := by decide +kernel
theorem dX1_fallOf_29 : decode cX1_fallOf 29 = .ok (.ldiv, 1) := by decide +kernel
theorem dX1_fallOf_30 : decode cX1_fallOf 30 = .ok (.lstore 7, 2) := by decide +kernel
theorem dX1_fallOf_32 : decode cX1_fallOf 32 = .ok (.aload_n 0, 1) := by decide +kernel
theorem dX1_fallOf_33 : decode cX1_fallOf 33 = .ok (.getfield 15, 3) := by decide +kernel
theorem dX1_fallOf_36 : decode cX1_fallOf 36 = .ok (.iload_n 1, 1) := by decide +kernel
theorem dX1_fallOf_37 : decode cX1_fallOf 37 = .ok (.iaload, 1) := by decide +kernel
theorem dX1_fallOf_38 : decode cX1_fallOf 38 = .ok (.i2l, 1) := by decide +kernel
theorem dX1_fallOf_39 : decode cX1_fallOf 39 = .ok (.lload 7, 2) := by decide +kernel
theorem dX1_fallOf_41 : decode cX1_fallOf 41 = .ok (.lmul, 1) := by decide +kernel
theorem dX1_fallOf_42 : decode cX1_fallOf 42 = .ok (.ldc2_w 49, 3) := by decide +kernel
theorem dX1_fallOf_45 : decode cX1_fallOf 45 = .ok (.ldiv, 1) := by decide +kernel
theorem dX1_fallOf_46 : decode cX1_fallOf 46 = .ok (.ldc2_w 51, 3) := by decide +kernel
theorem dX1_fallOf_49 : decode cX1_fallOf 49 = .ok (.invokestatic 53, 3) := by decide +kernel
theorem dX1_fallOf_52 : decode cX1_fallOf 52 = .ok (.lstore 9, 2) := by decide +kernel
theorem dX1_fallOf_54 : decode cX1_fallOf 54 = .ok (.lload 9, 2) := by decide +kernel
theorem dX1_fallOf_56 : decode cX1_fallOf 56 = .ok (.l2i, 1) := by decide +kernel
theorem dX1_fallOf_57 : decode cX1_fallOf 57 = .ok (.aload_n 0, 1) := by decide +kernel
theorem dX1_fallOf_58 : decode cX1_fallOf 58 = .ok (.getfield 18, 3) := by decide +kernel
theorem dX1_fallOf_61 : decode cX1_fallOf 61 = .ok (.iload_n 1, 1) := by decide +kernel
theorem dX1_fallOf_62 : decode cX1_fallOf 62 = .ok (.iaload, 1) := by decide +kernel
theorem dX1_fallOf_63 : decode cX1_fallOf 63 = .ok (.iadd, 1) := by decide +kernel
theorem dX1_fallOf_64 : decode cX1_fallOf 64 = .ok (.ireturn, 1) := by decide +kernel
theorem dX1_allows_0 : decode cX1_allows 0 = .ok (.aload_n 0, 1) := by decide +kernel
theorem dX1_allows_1 : decode cX1_allows 1 = .ok (.iload_n 1, 1) := by decide +kernel
theorem dX1_allows_2 : decode cX1_allows 2 = .ok (.iload_n 2, 1) := by decide +kernel
theorem dX1_allows_3 : decode cX1_allows 3 = .ok (.invokevirtual 59, 3) := by decide +kernel
theorem dX1_allows_6 : decode cX1_allows 6 = .ok (.aload_n 0, 1) := by decide +kernel
theorem dX1_allows_7 : decode cX1_allows 7 = .ok (.getfield 41, 3) := by decide +kernel
theorem dX1_allows_10 : decode cX1_allows 10 = .ok (.if_icmp .gt 7, 3) := by decide +kernel
theorem dX1_allows_13 : decode cX1_allows 13 = .ok (.iconst 1, 1) := by decide +kernel
theorem dX1_allows_14 : decode cX1_allows 14 = .ok (.goto 4, 3) := by decide +kernel
theorem dX1_allows_17 : decode cX1_allows 17 = .ok (.iconst 0, 1) := by decide +kernel
theorem dX1_allows_18 : decode cX1_allows 18 = .ok (.ireturn, 1) := by decide +kernel
theorem dX1_priceOf_0 : decode cX1_priceOf 0 = .ok (.aload_n 0, 1) := by decide +kernel
theorem dX1_priceOf_1 : decode cX1_priceOf 1 = .ok (.getfield 15, 3) := by decide +kernel
theorem dX1_priceOf_4 : decode cX1_priceOf 4 = .ok (.iload_n 1, 1) := by decide +kernel
theorem dX1_priceOf_5 : decode cX1_priceOf 5 = .ok (.iaload, 1) := by decide +kernel
theorem dX1_priceOf_6 : decode cX1_priceOf 6 = .ok (.aload_n 0, 1) := by decide +kernel
theorem dX1_priceOf_7 : decode cX1_priceOf 7 = .ok (.getfield 34, 3) := by decide +kernel
theorem dX1_priceOf_10 : decode cX1_priceOf 10 = .ok (.iload_n 2, 1) := by decide +kernel
theorem dX1_priceOf_11 : decode cX1_priceOf 11 = .ok (.iaload, 1) := by decide +kernel
theorem dX1_priceOf_12 : decode cX1_priceOf 12 = .ok (.imul, 1) := by decide +kernel
theorem dX1_priceOf_13 : decode cX1_priceOf 13 = .ok (.ireturn, 1) := by decide +kernel
theorem dX1_addDuct_0 : decode cX1_addDuct 0 = .ok (.aload_n 0, 1) := by decide +kernel
theorem dX1_addDuct_1 : decode cX1_addDuct 1 = .ok (.dup, 1) := by decide +kernel
theorem dX1_addDuct_2 : decode cX1_addDuct 2 = .ok (.getfield 27, 3) := by decide +kernel
theorem dX1_addDuct_5 : decode cX1_addDuct 5 = .ok (.iconst 1, 1) := by decide +kernel
theorem dX1_addDuct_6 : decode cX1_addDuct 6 = .ok (.iadd, 1) := by decide +kernel
theorem dX1_addDuct_7 : decode cX1_addDuct 7 = .ok (.putfield 27, 3) := by decide +kernel
theorem dX1_addDuct_10 : decode cX1_addDuct 10 = .ok (.aload_n 0, 1) := by decide +kernel
theorem dX1_addDuct_11 : decode cX1_addDuct 11 = .ok (.getfield 9, 3) := by decide +kernel
theorem dX1_addDuct_14 : decode cX1_addDuct 14 = .ok (.aload_n 0, 1) := by decide +kernel
theorem dX1_addDuct_15 : decode cX1_addDuct 15 = .ok (.getfield 27, 3) := by decide +kernel
theorem dX1_addDuct_18 : decode cX1_addDuct 18 = .ok (.iload_n 1, 1) := by decide +kernel
theorem dX1_addDuct_19 : decode cX1_addDuct 19 = .ok (.iastore, 1) := by decide +kernel
theorem dX1_addDuct_20 : decode cX1_addDuct 20 = .ok (.aload_n 0, 1) := by decide +kernel
theorem dX1_addDuct_21 : decode cX1_addDuct 21 = .ok (.getfield 15, 3) := by decide +kernel
theorem dX1_addDuct_24 : decode cX1_addDuct 24 = .ok (.aload_n 0, 1) := by decide +kernel
theorem dX1_addDuct_25 : decode cX1_addDuct 25 = .ok (.getfield 27, 3) := by decide +kernel
theorem dX1_addDuct_28 : decode cX1_addDuct 28 = .ok (.iload_n 2, 1) := by decide +kernel
theorem dX1_addDuct_29 : decode cX1_addDuct 29 = .ok (.iastore, 1) := by decide +kernel
theorem dX1_addDuct_30 : decode cX1_addDuct 30 = .ok (.aload_n 0, 1) := by decide +kernel
theorem dX1_addDuct_31 : decode cX1_addDuct 31 = .ok (.getfield 18, 3) := by decide +kernel
theorem dX1_addDuct_34 : decode cX1_addDuct 34 = .ok (.aload_n 0, 1) := by decide +kernel
theorem dX1_addDuct_35 : decode cX1_addDuct 35 = .ok (.getfield 27, 3) := by decide +kernel
theorem dX1_addDuct_38 : decode cX1_addDuct 38 = .ok (.iload_n 3, 1) := by decide +kernel
theorem dX1_addDuct_39 : decode cX1_addDuct 39 = .ok (.iastore, 1) := by decide +kernel
theorem dX1_addDuct_40 : decode cX1_addDuct 40 = .ok (.aload_n 0, 1) := by decide +kernel
theorem dX1_addDuct_41 : decode cX1_addDuct 41 = .ok (.getfield 27, 3) := by decide +kernel
theorem dX1_addDuct_44 : decode cX1_addDuct 44 = .ok (.ireturn, 1) := by decide +kernel
theorem dX1_addSize_0 : decode cX1_addSize 0 = .ok (.aload_n 0, 1) := by decide +kernel
theorem dX1_addSize_1 : decode cX1_addSize 1 = .ok (.getfield 31, 3) := by decide +kernel
theorem dX1_addSize_4 : decode cX1_addSize 4 = .ok (.aload_n 0, 1) := by decide +kernel
theorem dX1_addSize_5 : decode cX1_addSize 5 = .ok (.getfield 37, 3) := by decide +kernel
theorem dX1_addSize_8 : decode cX1_addSize 8 = .ok (.iload_n 1, 1) := by decide +kernel
theorem dX1_addSize_9 : decode cX1_addSize 9 = .ok (.iastore, 1) := by decide +kernel
theorem dX1_addSize_10 : decode cX1_addSize 10 = .ok (.aload_n 0, 1) := by decide +kernel
theorem dX1_addSize_11 : decode cX1_addSize 11 = .ok (.getfield 34, 3) := by decide +kernel
theorem dX1_addSize_14 : decode cX1_addSize 14 = .ok (.aload_n 0, 1) := by decide +kernel
theorem dX1_addSize_15 : decode cX1_addSize 15 = .ok (.getfield 37, 3) := by decide +kernel
theorem dX1_addSize_18 : decode cX1_addSize 18 = .ok (.iload_n 2, 1) := by decide +kernel
theorem dX1_addSize_19 : decode cX1_addSize 19 = .ok (.iastore, 1) := by decide +kernel
theorem dX1_addSize_20 : decode cX1_addSize 20 = .ok (.aload_n 0, 1) := by decide +kernel
theorem dX1_addSize_21 : decode cX1_addSize 21 = .ok (.dup, 1) := by decide +kernel
theorem dX1_addSize_22 : decode cX1_addSize 22 = .ok (.getfield 37, 3) := by decide +kernel
theorem dX1_addSize_25 : decode cX1_addSize 25 = .ok (.iconst 1, 1) := by decide +kernel
theorem dX1_addSize_26 : decode cX1_addSize 26 = .ok (.iadd, 1) := by decide +kernel
theorem dX1_addSize_27 : decode cX1_addSize 27 = .ok (.putfield 37, 3) := by decide +kernel
theorem dX1_addSize_30 : decode cX1_addSize 30 = .ok (.aload_n 0, 1) := by decide +kernel
theorem dX1_addSize_31 : decode cX1_addSize 31 = .ok (.getfield 37, 3) := by decide +kernel
theorem dX1_addSize_34 : decode cX1_addSize 34 = .ok (.iconst 1, 1) := by decide +kernel
theorem dX1_addSize_35 : decode cX1_addSize 35 = .ok (.isub, 1) := by decide +kernel
theorem dX1_addSize_36 : decode cX1_addSize 36 = .ok (.ireturn, 1) := by decide +kernel
theorem dX1_sumFlows_0 : decode cX1_sumFlows 0 = .ok (.iconst 0, 1) := by decide +kernel
theorem dX1_sumFlows_1 : decode cX1_sumFlows 1 = .ok (.istore_n 1, 1) := by decide +kernel
theorem dX1_sumFlows_2 : decode cX1_sumFlows 2 = .ok (.iload_n 1, 1) := by decide +kernel
theorem dX1_sumFlows_3 : decode cX1_sumFlows 3 = .ok (.aload_n 0, 1) := by decide +kernel
theorem dX1_sumFlows_4 : decode cX1_sumFlows 4 = .ok (.getfield 27, 3) := by decide +kernel
theorem dX1_sumFlows_7 : decode cX1_sumFlows 7 = .ok (.if_icmp .gt 21, 3) := by decide +kernel
theorem dX1_sumFlows_10 : decode cX1_sumFlows 10 = .ok (.aload_n 0, 1) := by decide +kernel
theorem dX1_sumFlows_11 : decode cX1_sumFlows 11 = .ok (.getfield 24, 3) := by decide +kernel
theorem dX1_sumFlows_14 : decode cX1_sumFlows 14 = .ok (.iload_n 1, 1) := by decide +kernel
theorem dX1_sumFlows_15 : decode cX1_sumFlows 15 = .ok (.aload_n 0, 1) := by decide +kernel
theorem dX1_sumFlows_16 : decode cX1_sumFlows 16 = .ok (.getfield 21, 3) := by decide +kernel
theorem dX1_sumFlows_19 : decode cX1_sumFlows 19 = .ok (.iload_n 1, 1) := by decide +kernel
theorem dX1_sumFlows_20 : decode cX1_sumFlows 20 = .ok (.iaload, 1) := by decide +kernel
theorem dX1_sumFlows_21 : decode cX1_sumFlows 21 = .ok (.iastore, 1) := by decide +kernel
theorem dX1_sumFlows_22 : decode cX1_sumFlows 22 = .ok (.iinc 1 1, 3) := by decide +kernel
theorem dX1_sumFlows_25 : decode cX1_sumFlows 25 = .ok (.goto (-23), 3) := by decide +kernel
theorem dX1_sumFlows_28 : decode cX1_sumFlows 28 = .ok (.aload_n 0, 1) := by decide +kernel
theorem dX1_sumFlows_29 : decode cX1_sumFlows 29 = .ok (.getfield 27, 3) := by decide +kernel
theorem dX1_sumFlows_32 : decode cX1_sumFlows 32 = .ok (.istore_n 1, 1) := by decide +kernel
theorem dX1_sumFlows_33 : decode cX1_sumFlows 33 = .ok (.iload_n 1, 1) := by decide +kernel
theorem dX1_sumFlows_34 : decode cX1_sumFlows 34 = .ok (.iconst 1, 1) := by decide +kernel
theorem dX1_sumFlows_35 : decode cX1_sumFlows 35 = .ok (.if_icmp .lt 29, 3) := by decide +kernel
theorem dX1_sumFlows_38 : decode cX1_sumFlows 38 = .ok (.aload_n 0, 1) := by decide +kernel
theorem dX1_sumFlows_39 : decode cX1_sumFlows 39 = .ok (.getfield 24, 3) := by decide +kernel
theorem dX1_sumFlows_42 : decode cX1_sumFlows 42 = .ok (.aload_n 0, 1) := by decide +kernel
theorem dX1_sumFlows_43 : decode cX1_sumFlows 43 = .ok (.getfield 9, 3) := by decide +kernel
theorem dX1_sumFlows_46 : decode cX1_sumFlows 46 = .ok (.iload_n 1, 1) := by decide +kernel
theorem dX1_sumFlows_47 : decode cX1_sumFlows 47 = .ok (.iaload, 1) := by decide +kernel
theorem dX1_sumFlows_48 : decode cX1_sumFlows 48 = .ok (.dup2, 1) := by decide +kernel
theorem dX1_sumFlows_49 : decode cX1_sumFlows 49 = .ok (.iaload, 1) := by decide +kernel
theorem dX1_sumFlows_50 : decode cX1_sumFlows 50 = .ok (.aload_n 0, 1) := by decide +kernel
theorem dX1_sumFlows_51 : decode cX1_sumFlows 51 = .ok (.getfield 24, 3) := by decide +kernel
theorem dX1_sumFlows_54 : decode cX1_sumFlows 54 = .ok (.iload_n 1, 1) := by decide +kernel
theorem dX1_sumFlows_55 : decode cX1_sumFlows 55 = .ok (.iaload, 1) := by decide +kernel
theorem dX1_sumFlows_56 : decode cX1_sumFlows 56 = .ok (.iadd, 1) := by decide +kernel
theorem dX1_sumFlows_57 : decode cX1_sumFlows 57 = .ok (.iastore, 1) := by decide +kernel
theorem dX1_sumFlows_58 : decode cX1_sumFlows 58 = .ok (.iinc 1 (-1), 3) := by decide +kernel
theorem dX1_sumFlows_61 : decode cX1_sumFlows 61 = .ok (.goto (-28), 3) := by decide +kernel
theorem dX1_sumFlows_64 : decode cX1_sumFlows 64 = .ok (.return_, 1) := by decide +kernel
theorem dX1_changeNeed_0 : decode cX1_changeNeed 0 = .ok (.aload_n 0, 1) := by decide +kernel
theorem dX1_changeNeed_1 : decode cX1_changeNeed 1 = .ok (.getfield 21, 3) := by decide +kernel
theorem dX1_changeNeed_4 : decode cX1_changeNeed 4 = .ok (.iload_n 1, 1) := by decide +kernel
theorem dX1_changeNeed_5 : decode cX1_changeNeed 5 = .ok (.iaload, 1) := by decide +kernel
theorem dX1_changeNeed_6 : decode cX1_changeNeed 6 = .ok (.istore_n 3, 1) := by decide +kernel
theorem dX1_changeNeed_7 : decode cX1_changeNeed 7 = .ok (.aload_n 0, 1) := by decide +kernel
theorem dX1_changeNeed_8 : decode cX1_changeNeed 8 = .ok (.getfield 21, 3) := by decide +kernel
theorem dX1_changeNeed_11 : decode cX1_changeNeed 11 = .ok (.iload_n 1, 1) := by decide +kernel
theorem dX1_changeNeed_12 : decode cX1_changeNeed 12 = .ok (.iload_n 2, 1) := by decide +kernel
theorem dX1_changeNeed_13 : decode cX1_changeNeed 13 = .ok (.iastore, 1) := by decide +kernel
theorem dX1_changeNeed_14 : decode cX1_changeNeed 14 = .ok (.aload_n 0, 1) := by decide +kernel
theorem dX1_changeNeed_15 : decode cX1_changeNeed 15 = .ok (.invokevirtual 44, 3) := by decide +kernel
theorem dX1_changeNeed_18 : decode cX1_changeNeed 18 = .ok (.iload_n 3, 1) := by decide +kernel
theorem dX1_changeNeed_19 : decode cX1_changeNeed 19 = .ok (.ireturn, 1) := by decide +kernel
theorem dX0_takes_0 : decode cX0_takes 0 = .ok (.aload_n 0, 1) := by decide +kernel
theorem dX0_takes_1 : decode cX0_takes 1 = .ok (.getfield 18, 3) := by decide +kernel
theorem dX0_takes_4 : decode cX0_takes 4 = .ok (.iconst 5, 1) := by decide +kernel
theorem dX0_takes_5 : decode cX0_takes 5 = .ok (.if_icmp .lt 5, 3) := by decide +kernel
theorem dX0_takes_8 : decode cX0_takes 8 = .ok (.iconst 0, 1) := by decide +kernel
theorem dX0_takes_9 : decode cX0_takes 9 = .ok (.ireturn, 1) := by decide +kernel
theorem dX0_takes_10 : decode cX0_takes 10 = .ok (.aload_n 0, 1) := by decide +kernel
theorem dX0_takes_11 : decode cX0_takes 11 = .ok (.getfield 18, 3) := by decide +kernel
theorem dX0_takes_14 : decode cX0_takes 14 = .ok (.ifCond .eq 33, 3) := by decide +kernel
theorem dX0_takes_17 : decode cX0_takes 17 = .ok (.iload_n 1, 1) := by decide +kernel
theorem dX0_takes_18 : decode cX0_takes 18 = .ok (.aload_n 0, 1) := by decide +kernel
theorem dX0_takes_19 : decode cX0_takes 19 = .ok (.getfield 9, 3) := by decide +kernel
theorem dX0_takes_22 : decode cX0_takes 22 = .ok (.aload_n 0, 1) := by decide +kernel
theorem dX0_takes_23 : decode cX0_takes 23 = .ok (.getfield 18, 3) := by decide +kernel
theorem dX0_takes_26 : decode cX0_takes 26 = .ok (.iconst 1, 1) := by decide +kernel
theorem dX0_takes_27 : decode cX0_takes 27 = .ok (.isub, 1) := by decide +kernel
theorem dX0_takes_28 : decode cX0_takes 28 = .ok (.iaload, 1) := by decide +kernel
theorem dX0_takes_29 : decode cX0_takes 29 = .ok (.if_icmp .le 22, 3) := by decide +kernel
theorem dX0_takes_32 : decode cX0_takes 32 = .ok (.iload_n 2, 1) := by decide +kernel
theorem dX0_takes_33 : decode cX0_takes 33 = .ok (.aload_n 0, 1) := by decide +kernel
theorem dX0_takes_34 : decode cX0_takes 34 = .ok (.getfield 15, 3) := by decide +kernel
theorem dX0_takes_37 : decode cX0_takes 37 = .ok (.aload_n 0, 1) := by decide +kernel
theorem dX0_takes_38 : decode cX0_takes 38 = .ok (.getfield 18, 3) := by decide +kernel
theorem dX0_takes_41 : decode cX0_takes 41 = .ok (.iconst 1, 1) := by decide +kernel
theorem dX0_takes_42 : decode cX0_takes 42 = .ok (.isub, 1) := by decide +kernel
theorem dX0_takes_43 : decode cX0_takes 43 = .ok (.iaload, 1) := by decide +kernel
theorem dX0_takes_44 : decode cX0_takes 44 = .ok (.if_icmp .gt 7, 3) := by decide +kernel
theorem dX0_takes_47 : decode cX0_takes 47 = .ok (.iconst 1, 1) := by decide +kernel
theorem dX0_takes_48 : decode cX0_takes 48 = .ok (.goto 4, 3) := by decide +kernel
theorem dX0_takes_51 : decode cX0_takes 51 = .ok (.iconst 0, 1) := by decide +kernel
theorem dX0_takes_52 : decode cX0_takes 52 = .ok (.ireturn, 1) := by decide +kernel
theorem dX0_addPoint_0 : decode cX0_addPoint 0 = .ok (.aload_n 0, 1) := by decide +kernel
theorem dX0_addPoint_1 : decode cX0_addPoint 1 = .ok (.getfield 9, 3) := by decide +kernel
theorem dX0_addPoint_4 : decode cX0_addPoint 4 = .ok (.aload_n 0, 1) := by decide +kernel
theorem dX0_addPoint_5 : decode cX0_addPoint 5 = .ok (.getfield 18, 3) := by decide +kernel
theorem dX0_addPoint_8 : decode cX0_addPoint 8 = .ok (.iload_n 1, 1) := by decide +kernel
theorem dX0_addPoint_9 : decode cX0_addPoint 9 = .ok (.iastore, 1) := by decide +kernel
theorem dX0_addPoint_10 : decode cX0_addPoint 10 = .ok (.aload_n 0, 1) := by decide +kernel
theorem dX0_addPoint_11 : decode cX0_addPoint 11 = .ok (.getfield 15, 3) := by decide +kernel
theorem dX0_addPoint_14 : decode cX0_addPoint 14 = .ok (.aload_n 0, 1) := by decide +kernel
theorem dX0_addPoint_15 : decode cX0_addPoint 15 = .ok (.getfield 18, 3) := by decide +kernel
theorem dX0_addPoint_18 : decode cX0_addPoint 18 = .ok (.iload_n 2, 1) := by decide +kernel
theorem dX0_addPoint_19 : decode cX0_addPoint 19 = .ok (.iastore, 1) := by decide +kernel
theorem dX0_addPoint_20 : decode cX0_addPoint 20 = .ok (.aload_n 0, 1) := by decide +kernel
theorem dX0_addPoint_21 : decode cX0_addPoint 21 = .ok (.dup, 1) := by decide +kernel
theorem dX0_addPoint_22 : decode cX0_addPoint 22 = .ok (.getfield 18, 3) := by decide +kernel
theorem dX0_addPoint_25 : decode cX0_addPoint 25 = .ok (.iconst 1, 1) := by decide +kernel
theorem dX0_addPoint_26 : decode cX0_addPoint 26 = .ok (.iadd, 1) := by decide +kernel
theorem dX0_addPoint_27 : decode cX0_addPoint 27 = .ok (.putfield 18, 3) := by decide +kernel
theorem dX0_addPoint_30 : decode cX0_addPoint 30 = .ok (.aload_n 0, 1) := by decide +kernel
theorem dX0_addPoint_31 : decode cX0_addPoint 31 = .ok (.getfield 18, 3) := by decide +kernel
theorem dX0_addPoint_34 : decode cX0_addPoint 34 = .ok (.ireturn, 1) := by decide +kernel
theorem dX0_pressureBefore_0 : decode cX0_pressureBefore 0 = .ok (.iload_n 1, 1) := by decide +kernel
theorem dX0_pressureBefore_1 : decode cX0_pressureBefore 1 = .ok (.iconst 1, 1) := by decide +kernel
theorem dX0_pressureBefore_2 : decode cX0_pressureBefore 2 = .ok (.isub, 1) := by decide +kernel
theorem dX0_pressureBefore_3 : decode cX0_pressureBefore 3 = .ok (.istore_n 3, 1) := by decide +kernel
theorem dX0_pressureBefore_4 : decode cX0_pressureBefore 4 = .ok (.aload_n 0, 1) := by decide +kernel
theorem dX0_pressureBefore_5 : decode cX0_pressureBefore 5 = .ok (.getfield 9, 3) := by decide +kernel
theorem dX0_pressureBefore_8 : decode cX0_pressureBefore 8 = .ok (.iload_n 1, 1) := by decide +kernel
theorem dX0_pressureBefore_9 : decode cX0_pressureBefore 9 = .ok (.iaload, 1) := by decide +kernel
theorem dX0_pressureBefore_10 : decode cX0_pressureBefore 10 = .ok (.aload_n 0, 1) := by decide +kernel
theorem dX0_pressureBefore_11 : decode cX0_pressureBefore 11 = .ok (.getfield 9, 3) := by decide +kernel
theorem dX0_pressureBefore_14 : decode cX0_pressureBefore 14 = .ok (.iload_n 3, 1) := by decide +kernel
theorem dX0_pressureBefore_15 : decode cX0_pressureBefore 15 = .ok (.iaload, 1) := by decide +kernel
theorem dX0_pressureBefore_16 : decode cX0_pressureBefore 16 = .ok (.isub, 1) := by decide +kernel
theorem dX0_pressureBefore_17 : decode cX0_pressureBefore 17 = .ok (.istore 4, 2) := by decide +kernel
theorem dX0_pressureBefore_19 : decode cX0_pressureBefore 19 = .ok (.aload_n 0, 1) := by decide +kernel
theorem dX0_pressureBefore_20 : decode cX0_pressureBefore 20 = .ok (.getfield 15, 3) := by decide +kernel
theorem dX0_pressureBefore_23 : decode cX0_pressureBefore 23 = .ok (.iload_n 3, 1) := by decide +kernel
theorem dX0_pressureBefore_24 : decode cX0_pressureBefore 24 = .ok (.iaload, 1) := by decide +kernel
theorem dX0_pressureBefore_25 : decode cX0_pressureBefore 25 = .ok (.aload_n 0, 1) := by decide +kernel
theorem dX0_pressureBefore_26 : decode cX0_pressureBefore 26 = .ok (.getfield 15, 3) := by decide +kernel
theorem dX0_pressureBefore_29 : decode cX0_pressureBefore 29 = .ok (.iload_n 1, 1) := by decide +kernel
theorem dX0_pressureBefore_30 : decode cX0_pressureBefore 30 = .ok (.iaload, 1) := by decide +kernel
theorem dX0_pressureBefore_31 : decode cX0_pressureBefore 31 = .ok (.isub, 1) := by decide +kernel
theorem dX0_pressureBefore_32 : decode cX0_pressureBefore 32 = .ok (.iload_n 2, 1) := by decide +kernel
theorem dX0_pressureBefore_33 : decode cX0_pressureBefore 33 = .ok (.aload_n 0, 1) := by decide +kernel
theorem dX0_pressureBefore_34 : decode cX0_pressureBefore 34 = .ok (.getfield 9, 3) := by decide +kernel
theorem dX0_pressureBefore_37 : decode cX0_pressureBefore 37 = .ok (.iload_n 3, 1) := by decide +kernel
theorem dX0_pressureBefore_38 : decode cX0_pressureBefore 38 = .ok (.iaload, 1) := by decide +kernel
theorem dX0_pressureBefore_39 : decode cX0_pressureBefore 39 = .ok (.isub, 1) := by decide +kernel
theorem dX0_pressureBefore_40 : decode cX0_pressureBefore 40 = .ok (.imul, 1) := by decide +kernel
theorem dX0_pressureBefore_41 : decode cX0_pressureBefore 41 = .ok (.istore 5, 2) := by decide +kernel
theorem dX0_pressureBefore_43 : decode cX0_pressureBefore 43 = .ok (.aload_n 0, 1) := by decide +kernel
theorem dX0_pressureBefore_44 : decode cX0_pressureBefore 44 = .ok (.getfield 15, 3) := by decide +kernel
theorem dX0_pressureBefore_47 : decode cX0_pressureBefore 47 = .ok (.iload_n 3, 1) := by decide +kernel
theorem dX0_pressureBefore_48 : decode cX0_pressureBefore 48 = .ok (.iaload, 1) := by decide +kernel
theorem dX0_pressureBefore_49 : decode cX0_pressureBefore 49 = .ok (.iload 5, 2) := by decide +kernel
theorem dX0_pressureBefore_51 : decode cX0_pressureBefore 51 = .ok (.iload 4, 2) := by decide +kernel
theorem dX0_pressureBefore_53 : decode cX0_pressureBefore 53 = .ok (.iadd, 1) := by decide +kernel
theorem dX0_pressureBefore_54 : decode cX0_pressureBefore 54 = .ok (.iconst 1, 1) := by decide +kernel
theorem dX0_pressureBefore_55 : decode cX0_pressureBefore 55 = .ok (.isub, 1) := by decide +kernel
theorem dX0_pressureBefore_56 : decode cX0_pressureBefore 56 = .ok (.iload 4, 2) := by decide +kernel
theorem dX0_pressureBefore_58 : decode cX0_pressureBefore 58 = .ok (.idiv, 1) := by decide +kernel
theorem dX0_pressureBefore_59 : decode cX0_pressureBefore 59 = .ok (.isub, 1) := by decide +kernel
theorem dX0_pressureBefore_60 : decode cX0_pressureBefore 60 = .ok (.ireturn, 1) := by decide +kernel
theorem dX0_pressureAt_0 : decode cX0_pressureAt 0 = .ok (.aload_n 0, 1) := by decide +kernel
theorem dX0_pressureAt_1 : decode cX0_pressureAt 1 = .ok (.getfield 18, 3) := by decide +kernel
theorem dX0_pressureAt_4 : decode cX0_pressureAt 4 = .ok (.ifCond .ne 7, 3) := by decide +kernel
theorem dX0_pressureAt_7 : decode cX0_pressureAt 7 = .ok (.sipush 300, 3) := by decide +kernel
theorem dX0_pressureAt_10 : decode cX0_pressureAt 10 = .ok (.ireturn, 1) := by decide +kernel
theorem dX0_pressureAt_11 : decode cX0_pressureAt 11 = .ok (.iload_n 1, 1) := by decide +kernel
theorem dX0_pressureAt_12 : decode cX0_pressureAt 12 = .ok (.aload_n 0, 1) := by decide +kernel
theorem dX0_pressureAt_13 : decode cX0_pressureAt 13 = .ok (.getfield 9, 3) := by decide +kernel
theorem dX0_pressureAt_16 : decode cX0_pressureAt 16 = .ok (.iconst 0, 1) := by decide +kernel
theorem dX0_pressureAt_17 : decode cX0_pressureAt 17 = .ok (.iaload, 1) := by decide +kernel
theorem dX0_pressureAt_18 : decode cX0_pressureAt 18 = .ok (.if_icmp .gt 10, 3) := by decide +kernel
theorem dX0_pressureAt_21 : decode cX0_pressureAt 21 = .ok (.aload_n 0, 1) := by decide +kernel
theorem dX0_pressureAt_22 : decode cX0_pressureAt 22 = .ok (.getfield 15, 3) := by decide +kernel
theorem dX0_pressureAt_25 : decode cX0_pressureAt 25 = .ok (.iconst 0, 1) := by decide +kernel
theorem dX0_pressureAt_26 : decode cX0_pressureAt 26 = .ok (.iaload, 1) := by decide +kernel
theorem dX0_pressureAt_27 : decode cX0_pressureAt 27 = .ok (.ireturn, 1) := by decide +kernel
theorem dX0_pressureAt_28 : decode cX0_pressureAt 28 = .ok (.iconst 1, 1) := by decide +kernel
theorem dX0_pressureAt_29 : decode cX0_pressureAt 29 = .ok (.istore_n 2, 1) := by decide +kernel
theorem dX0_pressureAt_30 : decode cX0_pressureAt 30 = .ok (.iload_n 2, 1) := by decide +kernel
theorem dX0_pressureAt_31 : decode cX0_pressureAt 31 = .ok (.aload_n 0, 1) := by decide +kernel
theorem dX0_pressureAt_32 : decode cX0_pressureAt 32 = .ok (.getfield 18, 3) := by decide +kernel
theorem dX0_pressureAt_35 : decode cX0_pressureAt 35 = .ok (.if_icmp .ge 26, 3) := by decide +kernel
theorem dX0_pressureAt_38 : decode cX0_pressureAt 38 = .ok (.iload_n 1, 1) := by decide +kernel
theorem dX0_pressureAt_39 : decode cX0_pressureAt 39 = .ok (.aload_n 0, 1) := by decide +kernel
theorem dX0_pressureAt_40 : decode cX0_pressureAt 40 = .ok (.getfield 9, 3) := by decide +kernel
theorem dX0_pressureAt_43 : decode cX0_pressureAt 43 = .ok (.iload_n 2, 1) := by decide +kernel
theorem dX0_pressureAt_44 : decode cX0_pressureAt 44 = .ok (.iaload, 1) := by decide +kernel
theorem dX0_pressureAt_45 : decode cX0_pressureAt 45 = .ok (.if_icmp .gt 10, 3) := by decide +kernel
theorem dX0_pressureAt_48 : decode cX0_pressureAt 48 = .ok (.aload_n 0, 1) := by decide +kernel
theorem dX0_pressureAt_49 : decode cX0_pressureAt 49 = .ok (.iload_n 2, 1) := by decide +kernel
theorem dX0_pressureAt_50 : decode cX0_pressureAt 50 = .ok (.iload_n 1, 1) := by decide +kernel
theorem dX0_pressureAt_51 : decode cX0_pressureAt 51 = .ok (.invokevirtual 22, 3) := by decide +kernel
theorem dX0_pressureAt_54 : decode cX0_pressureAt 54 = .ok (.ireturn, 1) := by decide +kernel
theorem dX0_pressureAt_55 : decode cX0_pressureAt 55 = .ok (.iinc 2 1, 3) := by decide +kernel
theorem dX0_pressureAt_58 : decode cX0_pressureAt 58 = .ok (.goto (-28), 3) := by decide +kernel
theorem dX0_pressureAt_61 : decode cX0_pressureAt 61 = .ok (.iconst 0, 1) := by decide +kernel
theorem dX0_pressureAt_62 : decode cX0_pressureAt 62 = .ok (.ireturn, 1) := by decide +kernel
theorem dX2_isBetter_0 : decode cX2_isBetter 0 = .ok (.iload_n 1, 1) := by decide +kernel
theorem dX2_isBetter_1 : decode cX2_isBetter 1 = .ok (.aload_n 0, 1) := by decide +kernel
theorem dX2_isBetter_2 : decode cX2_isBetter 2 = .ok (.getfield 27, 3) := by decide +kernel
theorem dX2_isBetter_5 : decode cX2_isBetter 5 = .ok (.iload_n 2, 1) := by decide +kernel
theorem dX2_isBetter_6 : decode cX2_isBetter 6 = .ok (.imul, 1) := by decide +kernel
theorem dX2_isBetter_7 : decode cX2_isBetter 7 = .ok (.iadd, 1) := by decide +kernel
theorem dX2_isBetter_8 : decode cX2_isBetter 8 = .ok (.istore_n 3, 1) := by decide +kernel
theorem dX2_isBetter_9 : decode cX2_isBetter 9 = .ok (.aload_n 0, 1) := by decide +kernel
theorem dX2_isBetter_10 : decode cX2_isBetter 10 = .ok (.getfield 36, 3) := by decide +kernel
theorem dX2_isBetter_13 : decode cX2_isBetter 13 = .ok (.ifCond .eq 27, 3) := by decide +kernel
theorem dX2_isBetter_16 : decode cX2_isBetter 16 = .ok (.iload_n 3, 1) := by decide +kernel
theorem dX2_isBetter_17 : decode cX2_isBetter 17 = .ok (.aload_n 0, 1) := by decide +kernel
theorem dX2_isBetter_18 : decode cX2_isBetter 18 = .ok (.getfield 40, 3) := by decide +kernel
theorem dX2_isBetter_21 : decode cX2_isBetter 21 = .ok (.if_icmp .lt 19, 3) := by decide +kernel
theorem dX2_isBetter_24 : decode cX2_isBetter 24 = .ok (.iload_n 3, 1) := by decide +kernel
theorem dX2_isBetter_25 : decode cX2_isBetter 25 = .ok (.aload_n 0, 1) := by decide +kernel
theorem dX2_isBetter_26 : decode cX2_isBetter 26 = .ok (.getfield 40, 3) := by decide +kernel
theorem dX2_isBetter_29 : decode cX2_isBetter 29 = .ok (.if_icmp .ne 15, 3) := by decide +kernel
theorem dX2_isBetter_32 : decode cX2_isBetter 32 = .ok (.iload_n 2, 1) := by decide +kernel
theorem dX2_isBetter_33 : decode cX2_isBetter 33 = .ok (.aload_n 0, 1) := by decide +kernel
theorem dX2_isBetter_34 : decode cX2_isBetter 34 = .ok (.getfield 43, 3) := by decide +kernel
theorem dX2_isBetter_37 : decode cX2_isBetter 37 = .ok (.if_icmp .ge 7, 3) := by decide +kernel
theorem dX2_isBetter_40 : decode cX2_isBetter 40 = .ok (.iconst 1, 1) := by decide +kernel
theorem dX2_isBetter_41 : decode cX2_isBetter 41 = .ok (.goto 4, 3) := by decide +kernel
theorem dX2_isBetter_44 : decode cX2_isBetter 44 = .ok (.iconst 0, 1) := by decide +kernel
theorem dX2_isBetter_45 : decode cX2_isBetter 45 = .ok (.ireturn, 1) := by decide +kernel
theorem dX2_firstNodeOfGreatestPressure_0 : decode cX2_firstNodeOfGreatestPressure 0 = .ok (.iconst 0, 1) := by decide +kernel
theorem dX2_firstNodeOfGreatestPressure_1 : decode cX2_firstNodeOfGreatestPressure 1 = .ok (.istore_n 1, 1) := by decide +kernel
theorem dX2_firstNodeOfGreatestPressure_2 : decode cX2_firstNodeOfGreatestPressure 2 = .ok (.iconst 1, 1) := by decide +kernel
theorem dX2_firstNodeOfGreatestPressure_3 : decode cX2_firstNodeOfGreatestPressure 3 = .ok (.istore_n 2, 1) := by decide +kernel
theorem dX2_firstNodeOfGreatestPressure_4 : decode cX2_firstNodeOfGreatestPressure 4 = .ok (.iload_n 2, 1) := by decide +kernel
theorem dX2_firstNodeOfGreatestPressure_5 : decode cX2_firstNodeOfGreatestPressure 5 = .ok (.aload_n 0, 1) := by decide +kernel
theorem dX2_firstNodeOfGreatestPressure_6 : decode cX2_firstNodeOfGreatestPressure 6 = .ok (.getfield 46, 3) := by decide +kernel
theorem dX2_firstNodeOfGreatestPressure_9 : decode cX2_firstNodeOfGreatestPressure 9 = .ok (.getfield 57, 3) := by decide +kernel
theorem dX2_firstNodeOfGreatestPressure_12 : decode cX2_firstNodeOfGreatestPressure 12 = .ok (.if_icmp .gt 26, 3) := by decide +kernel
theorem dX2_firstNodeOfGreatestPressure_15 : decode cX2_firstNodeOfGreatestPressure 15 = .ok (.aload_n 0, 1) := by decide +kernel
theorem dX2_firstNodeOfGreatestPressure_16 : decode cX2_firstNodeOfGreatestPressure 16 = .ok (.getfield 33, 3) := by decide +kernel
theorem dX2_firstNodeOfGreatestPressure_19 : decode cX2_firstNodeOfGreatestPressure 19 = .ok (.iload_n 2, 1) := by decide +kernel
theorem dX2_firstNodeOfGreatestPressure_20 : decode cX2_firstNodeOfGreatestPressure 20 = .ok (.iaload, 1) := by decide +kernel
theorem dX2_firstNodeOfGreatestPressure_21 : decode cX2_firstNodeOfGreatestPressure 21 = .ok (.aload_n 0, 1) := by decide +kernel
theorem dX2_firstNodeOfGreatestPressure_22 : decode cX2_firstNodeOfGreatestPressure 22 = .ok (.getfield 33, 3) := by decide +kernel
theorem dX2_firstNodeOfGreatestPressure_25 : decode cX2_firstNodeOfGreatestPressure 25 = .ok (.iload_n 1, 1) := by decide +kernel
theorem dX2_firstNodeOfGreatestPressure_26 : decode cX2_firstNodeOfGreatestPressure 26 = .ok (.iaload, 1) := by decide +kernel
theorem dX2_firstNodeOfGreatestPressure_27 : decode cX2_firstNodeOfGreatestPressure 27 = .ok (.if_icmp .le 5, 3) := by decide +kernel
theorem dX2_firstNodeOfGreatestPressure_30 : decode cX2_firstNodeOfGreatestPressure 30 = .ok (.iload_n 2, 1) := by decide +kernel
theorem dX2_firstNodeOfGreatestPressure_31 : decode cX2_firstNodeOfGreatestPressure 31 = .ok (.istore_n 1, 1) := by decide +kernel
theorem dX2_firstNodeOfGreatestPressure_32 : decode cX2_firstNodeOfGreatestPressure 32 = .ok (.iinc 2 1, 3) := by decide +kernel
theorem dX2_firstNodeOfGreatestPressure_35 : decode cX2_firstNodeOfGreatestPressure 35 = .ok (.goto (-31), 3) := by decide +kernel
theorem dX2_firstNodeOfGreatestPressure_38 : decode cX2_firstNodeOfGreatestPressure 38 = .ok (.iload_n 1, 1) := by decide +kernel
theorem dX2_firstNodeOfGreatestPressure_39 : decode cX2_firstNodeOfGreatestPressure 39 = .ok (.ireturn, 1) := by decide +kernel
theorem dX2_noteFalls_0 : decode cX2_noteFalls 0 = .ok (.iconst 1, 1) := by decide +kernel
theorem dX2_noteFalls_1 : decode cX2_noteFalls 1 = .ok (.istore_n 1, 1) := by decide +kernel
theorem dX2_noteFalls_2 : decode cX2_noteFalls 2 = .ok (.iload_n 1, 1) := by decide +kernel
theorem dX2_noteFalls_3 : decode cX2_noteFalls 3 = .ok (.aload_n 0, 1) := by decide +kernel
theorem dX2_noteFalls_4 : decode cX2_noteFalls 4 = .ok (.getfield 46, 3) := by decide +kernel
theorem dX2_noteFalls_7 : decode cX2_noteFalls 7 = .ok (.getfield 57, 3) := by decide +kernel
theorem dX2_noteFalls_10 : decode cX2_noteFalls 10 = .ok (.if_icmp .gt 61, 3) := by decide +kernel
theorem dX2_noteFalls_13 : decode cX2_noteFalls 13 = .ok (.iconst 0, 1) := by decide +kernel
theorem dX2_noteFalls_14 : decode cX2_noteFalls 14 = .ok (.istore_n 2, 1) := by decide +kernel
theorem dX2_noteFalls_15 : decode cX2_noteFalls 15 = .ok (.iload_n 2, 1) := by decide +kernel
theorem dX2_noteFalls_16 : decode cX2_noteFalls 16 = .ok (.aload_n 0, 1) := by decide +kernel
theorem dX2_noteFalls_17 : decode cX2_noteFalls 17 = .ok (.getfield 46, 3) := by decide +kernel
theorem dX2_noteFalls_20 : decode cX2_noteFalls 20 = .ok (.getfield 62, 3) := by decide +kernel
theorem dX2_noteFalls_23 : decode cX2_noteFalls 23 = .ok (.if_icmp .ge 42, 3) := by decide +kernel
theorem dX2_noteFalls_26 : decode cX2_noteFalls 26 = .ok (.aload_n 0, 1) := by decide +kernel
theorem dX2_noteFalls_27 : decode cX2_noteFalls 27 = .ok (.getfield 11, 3) := by decide +kernel
theorem dX2_noteFalls_30 : decode cX2_noteFalls 30 = .ok (.iload_n 1, 1) := by decide +kernel
theorem dX2_noteFalls_31 : decode cX2_noteFalls 31 = .ok (.aaload, 1) := by decide +kernel
theorem dX2_noteFalls_32 : decode cX2_noteFalls 32 = .ok (.iload_n 2, 1) := by decide +kernel
theorem dX2_noteFalls_33 : decode cX2_noteFalls 33 = .ok (.aload_n 0, 1) := by decide +kernel
theorem dX2_noteFalls_34 : decode cX2_noteFalls 34 = .ok (.getfield 46, 3) := by decide +kernel
theorem dX2_noteFalls_37 : decode cX2_noteFalls 37 = .ok (.iload_n 1, 1) := by decide +kernel
theorem dX2_noteFalls_38 : decode cX2_noteFalls 38 = .ok (.iload_n 2, 1) := by decide +kernel
theorem dX2_noteFalls_39 : decode cX2_noteFalls 39 = .ok (.invokevirtual 65, 3) := by decide +kernel
theorem dX2_noteFalls_42 : decode cX2_noteFalls 42 = .ok (.ifCond .eq 15, 3) := by decide +kernel
theorem dX2_noteFalls_45 : decode cX2_noteFalls 45 = .ok (.aload_n 0, 1) := by decide +kernel
theorem dX2_noteFalls_46 : decode cX2_noteFalls 46 = .ok (.getfield 46, 3) := by decide +kernel
theorem dX2_noteFalls_49 : decode cX2_noteFalls 49 = .ok (.iload_n 1, 1) := by decide +kernel
theorem dX2_noteFalls_50 : decode cX2_noteFalls 50 = .ok (.iload_n 2, 1) := by decide +kernel
theorem dX2_noteFalls_51 : decode cX2_noteFalls 51 = .ok (.invokevirtual 69, 3) := by decide +kernel
theorem dX2_noteFalls_54 : decode cX2_noteFalls 54 = .ok (.goto 4, 3) := by decide +kernel
theorem dX2_noteFalls_57 : decode cX2_noteFalls 57 = .ok (.iconst (-1), 1) := by decide +kernel
theorem dX2_noteFalls_58 : decode cX2_noteFalls 58 = .ok (.iastore, 1) := by decide +kernel
theorem dX2_noteFalls_59 : decode cX2_noteFalls 59 = .ok (.iinc 2 1, 3) := by decide +kernel
theorem dX2_noteFalls_62 : decode cX2_noteFalls 62 = .ok (.goto (-47), 3) := by decide +kernel
theorem dX2_noteFalls_65 : decode cX2_noteFalls 65 = .ok (.iinc 1 1, 3) := by decide +kernel
theorem dX2_noteFalls_68 : decode cX2_noteFalls 68 = .ok (.goto (-66), 3) := by decide +kernel
theorem dX2_noteFalls_71 : decode cX2_noteFalls 71 = .ok (.return_, 1) := by decide +kernel
theorem dX2_keepTrial_0 : decode cX2_keepTrial 0 = .ok (.aload_n 0, 1) := by decide +kernel
theorem dX2_keepTrial_1 : decode cX2_keepTrial 1 = .ok (.iconst 1, 1) := by decide +kernel
theorem dX2_keepTrial_2 : decode cX2_keepTrial 2 = .ok (.putfield 36, 3) := by decide +kernel
theorem dX2_keepTrial_5 : decode cX2_keepTrial 5 = .ok (.aload_n 0, 1) := by decide +kernel
theorem dX2_keepTrial_6 : decode cX2_keepTrial 6 = .ok (.iload_n 1, 1) := by decide +kernel
theorem dX2_keepTrial_7 : decode cX2_keepTrial 7 = .ok (.aload_n 0, 1) := by decide +kernel
theorem dX2_keepTrial_8 : decode cX2_keepTrial 8 = .ok (.getfield 27, 3) := by decide +kernel
theorem dX2_keepTrial_11 : decode cX2_keepTrial 11 = .ok (.iload_n 2, 1) := by decide +kernel
theorem dX2_keepTrial_12 : decode cX2_keepTrial 12 = .ok (.imul, 1) := by decide +kernel
theorem dX2_keepTrial_13 : decode cX2_keepTrial 13 = .ok (.iadd, 1) := by decide +kernel
theorem dX2_keepTrial_14 : decode cX2_keepTrial 14 = .ok (.putfield 40, 3) := by decide +kernel
theorem dX2_keepTrial_17 : decode cX2_keepTrial 17 = .ok (.aload_n 0, 1) := by decide +kernel
theorem dX2_keepTrial_18 : decode cX2_keepTrial 18 = .ok (.iload_n 2, 1) := by decide +kernel
theorem dX2_keepTrial_19 : decode cX2_keepTrial 19 = .ok (.putfield 43, 3) := by decide +kernel
theorem dX2_keepTrial_22 : decode cX2_keepTrial 22 = .ok (.iconst 1, 1) := by decide +kernel
theorem dX2_keepTrial_23 : decode cX2_keepTrial 23 = .ok (.istore_n 3, 1) := by decide +kernel
theorem dX2_keepTrial_24 : decode cX2_keepTrial 24 = .ok (.iload_n 3, 1) := by decide +kernel
theorem dX2_keepTrial_25 : decode cX2_keepTrial 25 = .ok (.aload_n 0, 1) := by decide +kernel
theorem dX2_keepTrial_26 : decode cX2_keepTrial 26 = .ok (.getfield 46, 3) := by decide +kernel
theorem dX2_keepTrial_29 : decode cX2_keepTrial 29 = .ok (.getfield 57, 3) := by decide +kernel
theorem dX2_keepTrial_32 : decode cX2_keepTrial 32 = .ok (.if_icmp .gt 33, 3) := by decide +kernel
theorem dX2_keepTrial_35 : decode cX2_keepTrial 35 = .ok (.aload_n 0, 1) := by decide +kernel
theorem dX2_keepTrial_36 : decode cX2_keepTrial 36 = .ok (.getfield 30, 3) := by decide +kernel
theorem dX2_keepTrial_39 : decode cX2_keepTrial 39 = .ok (.iload_n 3, 1) := by decide +kernel
theorem dX2_keepTrial_40 : decode cX2_keepTrial 40 = .ok (.aload_n 0, 1) := by decide +kernel
theorem dX2_keepTrial_41 : decode cX2_keepTrial 41 = .ok (.getfield 16, 3) := by decide +kernel
theorem dX2_keepTrial_44 : decode cX2_keepTrial 44 = .ok (.iload_n 3, 1) := by decide +kernel
theorem dX2_keepTrial_45 : decode cX2_keepTrial 45 = .ok (.iaload, 1) := by decide +kernel
theorem dX2_keepTrial_46 : decode cX2_keepTrial 46 = .ok (.iastore, 1) := by decide +kernel
theorem dX2_keepTrial_47 : decode cX2_keepTrial 47 = .ok (.aload_n 0, 1) := by decide +kernel
theorem dX2_keepTrial_48 : decode cX2_keepTrial 48 = .ok (.getfield 33, 3) := by decide +kernel
theorem dX2_keepTrial_51 : decode cX2_keepTrial 51 = .ok (.iload_n 3, 1) := by decide +kernel
theorem dX2_keepTrial_52 : decode cX2_keepTrial 52 = .ok (.aload_n 0, 1) := by decide +kernel
theorem dX2_keepTrial_53 : decode cX2_keepTrial 53 = .ok (.getfield 20, 3) := by decide +kernel
theorem dX2_keepTrial_56 : decode cX2_keepTrial 56 = .ok (.iload_n 3, 1) := by decide +kernel
theorem dX2_keepTrial_57 : decode cX2_keepTrial 57 = .ok (.iaload, 1) := by decide +kernel
theorem dX2_keepTrial_58 : decode cX2_keepTrial 58 = .ok (.iastore, 1) := by decide +kernel
theorem dX2_keepTrial_59 : decode cX2_keepTrial 59 = .ok (.iinc 3 1, 3) := by decide +kernel
theorem dX2_keepTrial_62 : decode cX2_keepTrial 62 = .ok (.goto (-38), 3) := by decide +kernel
theorem dX2_keepTrial_65 : decode cX2_keepTrial 65 = .ok (.return_, 1) := by decide +kernel
theorem dX2_placeFrom_0 : decode cX2_placeFrom 0 = .ok (.iload_n 1, 1) := by decide +kernel
theorem dX2_placeFrom_1 : decode cX2_placeFrom 1 = .ok (.aload_n 0, 1) := by decide +kernel
theorem dX2_placeFrom_2 : decode cX2_placeFrom 2 = .ok (.getfield 46, 3) := by decide +kernel
theorem dX2_placeFrom_5 : decode cX2_placeFrom 5 = .ok (.getfield 57, 3) := by decide +kernel
theorem dX2_placeFrom_8 : decode cX2_placeFrom 8 = .ok (.if_icmp .le 10, 3) := by decide +kernel
theorem dX2_placeFrom_11 : decode cX2_placeFrom 11 = .ok (.aload_n 0, 1) := by decide +kernel
theorem dX2_placeFrom_12 : decode cX2_placeFrom 12 = .ok (.iload_n 2, 1) := by decide +kernel
theorem dX2_placeFrom_13 : decode cX2_placeFrom 13 = .ok (.iload_n 3, 1) := by decide +kernel
theorem dX2_placeFrom_14 : decode cX2_placeFrom 14 = .ok (.invokevirtual 73, 3) := by decide +kernel
theorem dX2_placeFrom_17 : decode cX2_placeFrom 17 = .ok (.return_, 1) := by decide +kernel
theorem dX2_placeFrom_18 : decode cX2_placeFrom 18 = .ok (.iconst 0, 1) := by decide +kernel
theorem dX2_placeFrom_19 : decode cX2_placeFrom 19 = .ok (.istore 4, 2) := by decide +kernel
theorem dX2_placeFrom_21 : decode cX2_placeFrom 21 = .ok (.iload 4, 2) := by decide +kernel
theorem dX2_placeFrom_23 : decode cX2_placeFrom 23 = .ok (.aload_n 0, 1) := by decide +kernel
theorem dX2_placeFrom_24 : decode cX2_placeFrom 24 = .ok (.getfield 46, 3) := by decide +kernel
theorem dX2_placeFrom_27 : decode cX2_placeFrom 27 = .ok (.getfield 62, 3) := by decide +kernel
theorem dX2_placeFrom_30 : decode cX2_placeFrom 30 = .ok (.if_icmp .ge 31, 3) := by decide +kernel
theorem dX2_placeFrom_33 : decode cX2_placeFrom 33 = .ok (.aload_n 0, 1) := by decide +kernel
theorem dX2_placeFrom_34 : decode cX2_placeFrom 34 = .ok (.getfield 11, 3) := by decide +kernel
theorem dX2_placeFrom_37 : decode cX2_placeFrom 37 = .ok (.iload_n 1, 1) := by decide +kernel
theorem dX2_placeFrom_38 : decode cX2_placeFrom 38 = .ok (.aaload, 1) := by decide +kernel
theorem dX2_placeFrom_39 : decode cX2_placeFrom 39 = .ok (.iload 4, 2) := by decide +kernel
theorem dX2_placeFrom_41 : decode cX2_placeFrom 41 = .ok (.iaload, 1) := by decide +kernel
theorem dX2_placeFrom_42 : decode cX2_placeFrom 42 = .ok (.iconst (-1), 1) := by decide +kernel
theorem dX2_placeFrom_43 : decode cX2_placeFrom 43 = .ok (.if_icmp .eq 12, 3) := by decide +kernel
theorem dX2_placeFrom_46 : decode cX2_placeFrom 46 = .ok (.aload_n 0, 1) := by decide +kernel
theorem dX2_placeFrom_47 : decode cX2_placeFrom 47 = .ok (.iload_n 1, 1) := by decide +kernel
theorem dX2_placeFrom_48 : decode cX2_placeFrom 48 = .ok (.iload 4, 2) := by decide +kernel
theorem dX2_placeFrom_50 : decode cX2_placeFrom 50 = .ok (.iload_n 2, 1) := by decide +kernel
theorem dX2_placeFrom_51 : decode cX2_placeFrom 51 = .ok (.iload_n 3, 1) := by decide +kernel
theorem dX2_placeFrom_52 : decode cX2_placeFrom 52 = .ok (.invokevirtual 77, 3) := by decide +kernel
theorem dX2_placeFrom_55 : decode cX2_placeFrom 55 = .ok (.iinc 4 1, 3) := by decide +kernel
theorem dX2_placeFrom_58 : decode cX2_placeFrom 58 = .ok (.goto (-37), 3) := by decide +kernel
theorem dX2_placeFrom_61 : decode cX2_placeFrom 61 = .ok (.return_, 1) := by decide +kernel
theorem dX2_placeSize_0 : decode cX2_placeSize 0 = .ok (.aload_n 0, 1) := by decide +kernel
theorem dX2_placeSize_1 : decode cX2_placeSize 1 = .ok (.getfield 20, 3) := by decide +kernel
theorem dX2_placeSize_4 : decode cX2_placeSize 4 = .ok (.aload_n 0, 1) := by decide +kernel
theorem dX2_placeSize_5 : decode cX2_placeSize 5 = .ok (.getfield 46, 3) := by decide +kernel
theorem dX2_placeSize_8 : decode cX2_placeSize 8 = .ok (.getfield 81, 3) := by decide +kernel
theorem dX2_placeSize_11 : decode cX2_placeSize 11 = .ok (.iload_n 1, 1) := by decide +kernel
theorem dX2_placeSize_12 : decode cX2_placeSize 12 = .ok (.iaload, 1) := by decide +kernel
theorem dX2_placeSize_13 : decode cX2_placeSize 13 = .ok (.iaload, 1) := by decide +kernel
theorem dX2_placeSize_14 : decode cX2_placeSize 14 = .ok (.aload_n 0, 1) := by decide +kernel
theorem dX2_placeSize_15 : decode cX2_placeSize 15 = .ok (.getfield 11, 3) := by decide +kernel
theorem dX2_placeSize_18 : decode cX2_placeSize 18 = .ok (.iload_n 1, 1) := by decide +kernel
theorem dX2_placeSize_19 : decode cX2_placeSize 19 = .ok (.aaload, 1) := by decide +kernel
theorem dX2_placeSize_20 : decode cX2_placeSize 20 = .ok (.iload_n 2, 1) := by decide +kernel
theorem dX2_placeSize_21 : decode cX2_placeSize 21 = .ok (.iaload, 1) := by decide +kernel
theorem dX2_placeSize_22 : decode cX2_placeSize 22 = .ok (.iadd, 1) := by decide +kernel
theorem dX2_placeSize_23 : decode cX2_placeSize 23 = .ok (.istore 5, 2) := by decide +kernel
theorem dX2_placeSize_25 : decode cX2_placeSize 25 = .ok (.iload 4, 2) := by decide +kernel
theorem dX2_placeSize_27 : decode cX2_placeSize 27 = .ok (.iload 5, 2) := by decide +kernel
theorem dX2_placeSize_29 : decode cX2_placeSize 29 = .ok (.invokestatic 84, 3) := by decide +kernel
theorem dX2_placeSize_32 : decode cX2_placeSize 32 = .ok (.istore 6, 2) := by decide +kernel
theorem dX2_placeSize_34 : decode cX2_placeSize 34 = .ok (.iload_n 3, 1) := by decide +kernel
theorem dX2_placeSize_35 : decode cX2_placeSize 35 = .ok (.aload_n 0, 1) := by decide +kernel
theorem dX2_placeSize_36 : decode cX2_placeSize 36 = .ok (.getfield 46, 3) := by decide +kernel
theorem dX2_placeSize_39 : decode cX2_placeSize 39 = .ok (.iload_n 1, 1) := by decide +kernel
theorem dX2_placeSize_40 : decode cX2_placeSize 40 = .ok (.iload_n 2, 1) := by decide +kernel
theorem dX2_placeSize_41 : decode cX2_placeSize 41 = .ok (.invokevirtual 89, 3) := by decide +kernel
theorem dX2_placeSize_44 : decode cX2_placeSize 44 = .ok (.iadd, 1) := by decide +kernel
theorem dX2_placeSize_45 : decode cX2_placeSize 45 = .ok (.istore 7, 2) := by decide +kernel
theorem dX2_placeSize_47 : decode cX2_placeSize 47 = .ok (.iload 6, 2) := by decide +kernel
theorem dX2_placeSize_49 : decode cX2_placeSize 49 = .ok (.aload_n 0, 1) := by decide +kernel
theorem dX2_placeSize_50 : decode cX2_placeSize 50 = .ok (.getfield 23, 3) := by decide +kernel
theorem dX2_placeSize_53 : decode cX2_placeSize 53 = .ok (.if_icmp .gt 14, 3) := by decide +kernel
theorem dX2_placeSize_56 : decode cX2_placeSize 56 = .ok (.aload_n 0, 1) := by decide +kernel
theorem dX2_placeSize_57 : decode cX2_placeSize 57 = .ok (.iload 7, 2) := by decide +kernel
theorem dX2_placeSize_59 : decode cX2_placeSize 59 = .ok (.iload 6, 2) := by decide +kernel
theorem dX2_placeSize_61 : decode cX2_placeSize 61 = .ok (.invokevirtual 92, 3) := by decide +kernel
theorem dX2_placeSize_64 : decode cX2_placeSize 64 = .ok (.ifCond .ne 4, 3) := by decide +kernel
theorem dX2_placeSize_67 : decode cX2_placeSize 67 = .ok (.return_, 1) := by decide +kernel
theorem dX2_placeSize_68 : decode cX2_placeSize 68 = .ok (.aload_n 0, 1) := by decide +kernel
theorem dX2_placeSize_69 : decode cX2_placeSize 69 = .ok (.getfield 16, 3) := by decide +kernel
theorem dX2_placeSize_72 : decode cX2_placeSize 72 = .ok (.iload_n 1, 1) := by decide +kernel
theorem dX2_placeSize_73 : decode cX2_placeSize 73 = .ok (.iload_n 2, 1) := by decide +kernel
theorem dX2_placeSize_74 : decode cX2_placeSize 74 = .ok (.iastore, 1) := by decide +kernel
theorem dX2_placeSize_75 : decode cX2_placeSize 75 = .ok (.aload_n 0, 1) := by decide +kernel
theorem dX2_placeSize_76 : decode cX2_placeSize 76 = .ok (.getfield 20, 3) := by decide +kernel
theorem dX2_placeSize_79 : decode cX2_placeSize 79 = .ok (.iload_n 1, 1) := by decide +kernel
theorem dX2_placeSize_80 : decode cX2_placeSize 80 = .ok (.iload 5, 2) := by decide +kernel
theorem dX2_placeSize_82 : decode cX2_placeSize 82 = .ok (.iastore, 1) := by decide +kernel
theorem dX2_placeSize_83 : decode cX2_placeSize 83 = .ok (.aload_n 0, 1) := by decide +kernel
theorem dX2_placeSize_84 : decode cX2_placeSize 84 = .ok (.iload_n 1, 1) := by decide +kernel
theorem dX2_placeSize_85 : decode cX2_placeSize 85 = .ok (.iconst 1, 1) := by decide +kernel
theorem dX2_placeSize_86 : decode cX2_placeSize 86 = .ok (.iadd, 1) := by decide +kernel
theorem dX2_placeSize_87 : decode cX2_placeSize 87 = .ok (.iload 7, 2) := by decide +kernel
theorem dX2_placeSize_89 : decode cX2_placeSize 89 = .ok (.iload 6, 2) := by decide +kernel
theorem dX2_placeSize_91 : decode cX2_placeSize 91 = .ok (.invokevirtual 53, 3) := by decide +kernel
theorem dX2_placeSize_94 : decode cX2_placeSize 94 = .ok (.return_, 1) := by decide +kernel
theorem dX2_run_0 : decode cX2_run 0 = .ok (.aload_n 0, 1) := by decide +kernel
theorem dX2_run_1 : decode cX2_run 1 = .ok (.iload_n 1, 1) := by decide +kernel
theorem dX2_run_2 : decode cX2_run 2 = .ok (.putfield 23, 3) := by decide +kernel
theorem dX2_run_5 : decode cX2_run 5 = .ok (.aload_n 0, 1) := by decide +kernel
theorem dX2_run_6 : decode cX2_run 6 = .ok (.iload_n 2, 1) := by decide +kernel
theorem dX2_run_7 : decode cX2_run 7 = .ok (.putfield 27, 3) := by decide +kernel
theorem dX2_run_10 : decode cX2_run 10 = .ok (.aload_n 0, 1) := by decide +kernel
theorem dX2_run_11 : decode cX2_run 11 = .ok (.iconst 0, 1) := by decide +kernel
theorem dX2_run_12 : decode cX2_run 12 = .ok (.putfield 36, 3) := by decide +kernel
theorem dX2_run_15 : decode cX2_run 15 = .ok (.aload_n 0, 1) := by decide +kernel
theorem dX2_run_16 : decode cX2_run 16 = .ok (.invokevirtual 50, 3) := by decide +kernel
theorem dX2_run_19 : decode cX2_run 19 = .ok (.aload_n 0, 1) := by decide +kernel
theorem dX2_run_20 : decode cX2_run 20 = .ok (.iconst 1, 1) := by decide +kernel
theorem dX2_run_21 : decode cX2_run 21 = .ok (.iconst 0, 1) := by decide +kernel
theorem dX2_run_22 : decode cX2_run 22 = .ok (.iconst 0, 1) := by decide +kernel
theorem dX2_run_23 : decode cX2_run 23 = .ok (.invokevirtual 53, 3) := by decide +kernel
theorem dX2_run_26 : decode cX2_run 26 = .ok (.return_, 1) := by decide +kernel
theorem dX3_duct_0 : decode cX3_duct 0 = .ok (.iload_n 1, 1) := by decide +kernel
theorem dX3_duct_1 : decode cX3_duct 1 = .ok (.iconst 0, 1) := by decide +kernel
theorem dX3_duct_2 : decode cX3_duct 2 = .ok (.aload_n 0, 1) := by decide +kernel
theorem dX3_duct_3 : decode cX3_duct 3 = .ok (.getfield 10, 3) := by decide +kernel
theorem dX3_duct_6 : decode cX3_duct 6 = .ok (.getfield 43, 3) := by decide +kernel
theorem dX3_duct_9 : decode cX3_duct 9 = .ok (.invokestatic 46, 3) := by decide +kernel
theorem dX3_duct_12 : decode cX3_duct 12 = .ok (.iload_n 2, 1) := by decide +kernel
theorem dX3_duct_13 : decode cX3_duct 13 = .ok (.iconst 1, 1) := by decide +kernel
theorem dX3_duct_14 : decode cX3_duct 14 = .ok (.bipush 100, 2) := by decide +kernel
theorem dX3_duct_16 : decode cX3_duct 16 = .ok (.invokestatic 46, 3) := by decide +kernel
theorem dX3_duct_19 : decode cX3_duct 19 = .ok (.iload_n 3, 1) := by decide +kernel
theorem dX3_duct_20 : decode cX3_duct 20 = .ok (.iconst 0, 1) := by decide +kernel
theorem dX3_duct_21 : decode cX3_duct 21 = .ok (.bipush 50, 2) := by decide +kernel
theorem dX3_duct_23 : decode cX3_duct 23 = .ok (.invokestatic 46, 3) := by decide +kernel
theorem dX3_duct_26 : decode cX3_duct 26 = .ok (.aload_n 0, 1) := by decide +kernel
theorem dX3_duct_27 : decode cX3_duct 27 = .ok (.getfield 10, 3) := by decide +kernel
theorem dX3_duct_30 : decode cX3_duct 30 = .ok (.getfield 43, 3) := by decide +kernel
theorem dX3_duct_33 : decode cX3_duct 33 = .ok (.bipush 6, 2) := by decide +kernel
theorem dX3_duct_35 : decode cX3_duct 35 = .ok (.if_icmp .lt 13, 3) := by decide +kernel
theorem dX3_duct_38 : decode cX3_duct 38 = .ok (.new 50, 3) := by decide +kernel
theorem dX3_duct_41 : decode cX3_duct 41 = .ok (.dup, 1) := by decide +kernel
theorem dX3_duct_42 : decode cX3_duct 42 = .ok (.ldc 52, 2) := by decide +kernel
theorem dX3_duct_44 : decode cX3_duct 44 = .ok (.invokespecial 54, 3) := by decide +kernel
theorem dX3_duct_47 : decode cX3_duct 47 = .ok (.athrow, 1) := by decide +kernel
theorem dX3_duct_48 : decode cX3_duct 48 = .ok (.aload_n 0, 1) := by decide +kernel
theorem dX3_duct_49 : decode cX3_duct 49 = .ok (.iconst 1, 1) := by decide +kernel
theorem dX3_duct_50 : decode cX3_duct 50 = .ok (.putfield 39, 3) := by decide +kernel
theorem dX3_duct_53 : decode cX3_duct 53 = .ok (.aload_n 0, 1) := by decide +kernel
theorem dX3_duct_54 : decode cX3_duct 54 = .ok (.getfield 10, 3) := by decide +kernel
theorem dX3_duct_57 : decode cX3_duct 57 = .ok (.iload_n 1, 1) := by decide +kernel
theorem dX3_duct_58 : decode cX3_duct 58 = .ok (.iload_n 2, 1) := by decide +kernel
theorem dX3_duct_59 : decode cX3_duct 59 = .ok (.iload_n 3, 1) := by decide +kernel
theorem dX3_duct_60 : decode cX3_duct 60 = .ok (.invokevirtual 57, 3) := by decide +kernel
theorem dX3_duct_63 : decode cX3_duct 63 = .ok (.ireturn, 1) := by decide +kernel
theorem dX3_need_0 : decode cX3_need 0 = .ok (.iload_n 1, 1) := by decide +kernel
theorem dX3_need_1 : decode cX3_need 1 = .ok (.iconst 1, 1) := by decide +kernel
theorem dX3_need_2 : decode cX3_need 2 = .ok (.aload_n 0, 1) := by decide +kernel
theorem dX3_need_3 : decode cX3_need 3 = .ok (.getfield 10, 3) := by decide +kernel
theorem dX3_need_6 : decode cX3_need 6 = .ok (.getfield 43, 3) := by decide +kernel
theorem dX3_need_9 : decode cX3_need 9 = .ok (.invokestatic 46, 3) := by decide +kernel
theorem dX3_need_12 : decode cX3_need 12 = .ok (.iload_n 2, 1) := by decide +kernel
theorem dX3_need_13 : decode cX3_need 13 = .ok (.iconst 0, 1) := by decide +kernel
theorem dX3_need_14 : decode cX3_need 14 = .ok (.sipush 1000, 3) := by decide +kernel
theorem dX3_need_17 : decode cX3_need 17 = .ok (.invokestatic 46, 3) := by decide +kernel
theorem dX3_need_20 : decode cX3_need 20 = .ok (.aload_n 0, 1) := by decide +kernel
theorem dX3_need_21 : decode cX3_need 21 = .ok (.iconst 1, 1) := by decide +kernel
theorem dX3_need_22 : decode cX3_need 22 = .ok (.putfield 39, 3) := by decide +kernel
theorem dX3_need_25 : decode cX3_need 25 = .ok (.aload_n 0, 1) := by decide +kernel
theorem dX3_need_26 : decode cX3_need 26 = .ok (.getfield 10, 3) := by decide +kernel
theorem dX3_need_29 : decode cX3_need 29 = .ok (.iload_n 1, 1) := by decide +kernel
theorem dX3_need_30 : decode cX3_need 30 = .ok (.iload_n 2, 1) := by decide +kernel
theorem dX3_need_31 : decode cX3_need 31 = .ok (.invokevirtual 61, 3) := by decide +kernel
theorem dX3_need_34 : decode cX3_need 34 = .ok (.ireturn, 1) := by decide +kernel
theorem dX3_size_0 : decode cX3_size 0 = .ok (.iload_n 1, 1) := by decide +kernel
theorem dX3_size_1 : decode cX3_size 1 = .ok (.iconst 1, 1) := by decide +kernel
theorem dX3_size_2 : decode cX3_size 2 = .ok (.sipush 1000, 3) := by decide +kernel
theorem dX3_size_5 : decode cX3_size 5 = .ok (.invokestatic 46, 3) := by decide +kernel
theorem dX3_size_8 : decode cX3_size 8 = .ok (.iload_n 2, 1) := by decide +kernel
theorem dX3_size_9 : decode cX3_size 9 = .ok (.iconst 1, 1) := by decide +kernel
theorem dX3_size_10 : decode cX3_size 10 = .ok (.sipush 1000, 3) := by decide +kernel
theorem dX3_size_13 : decode cX3_size 13 = .ok (.invokestatic 46, 3) := by decide +kernel
theorem dX3_size_16 : decode cX3_size 16 = .ok (.aload_n 0, 1) := by decide +kernel
theorem dX3_size_17 : decode cX3_size 17 = .ok (.getfield 10, 3) := by decide +kernel
theorem dX3_size_20 : decode cX3_size 20 = .ok (.getfield 65, 3) := by decide +kernel
theorem dX3_size_23 : decode cX3_size 23 = .ok (.iconst 4, 1) := by decide +kernel
theorem dX3_size_24 : decode cX3_size 24 = .ok (.if_icmp .lt 13, 3) := by decide +kernel
theorem dX3_size_27 : decode cX3_size 27 = .ok (.new 50, 3) := by decide +kernel
theorem dX3_size_30 : decode cX3_size 30 = .ok (.dup, 1) := by decide +kernel
theorem dX3_size_31 : decode cX3_size 31 = .ok (.ldc 68, 2) := by decide +kernel
theorem dX3_size_33 : decode cX3_size 33 = .ok (.invokespecial 54, 3) := by decide +kernel
theorem dX3_size_36 : decode cX3_size 36 = .ok (.athrow, 1) := by decide +kernel
theorem dX3_size_37 : decode cX3_size 37 = .ok (.aload_n 0, 1) := by decide +kernel
theorem dX3_size_38 : decode cX3_size 38 = .ok (.iconst 1, 1) := by decide +kernel
theorem dX3_size_39 : decode cX3_size 39 = .ok (.putfield 39, 3) := by decide +kernel
theorem dX3_size_42 : decode cX3_size 42 = .ok (.aload_n 0, 1) := by decide +kernel
theorem dX3_size_43 : decode cX3_size 43 = .ok (.getfield 10, 3) := by decide +kernel
theorem dX3_size_46 : decode cX3_size 46 = .ok (.iload_n 1, 1) := by decide +kernel
theorem dX3_size_47 : decode cX3_size 47 = .ok (.iload_n 2, 1) := by decide +kernel
theorem dX3_size_48 : decode cX3_size 48 = .ok (.invokevirtual 70, 3) := by decide +kernel
theorem dX3_size_51 : decode cX3_size 51 = .ok (.ireturn, 1) := by decide +kernel
theorem dX3_changeSpeedLimit_0 : decode cX3_changeSpeedLimit 0 = .ok (.iload_n 1, 1) := by decide +kernel
theorem dX3_changeSpeedLimit_1 : decode cX3_changeSpeedLimit 1 = .ok (.iconst 1, 1) := by decide +kernel
theorem dX3_changeSpeedLimit_2 : decode cX3_changeSpeedLimit 2 = .ok (.ldc 136, 2) := by decide +kernel
theorem dX3_changeSpeedLimit_4 : decode cX3_changeSpeedLimit 4 = .ok (.invokestatic 46, 3) := by decide +kernel
theorem dX3_changeSpeedLimit_7 : decode cX3_changeSpeedLimit 7 = .ok (.aload_n 0, 1) := by decide +kernel
theorem dX3_changeSpeedLimit_8 : decode cX3_changeSpeedLimit 8 = .ok (.getfield 10, 3) := by decide +kernel
theorem dX3_changeSpeedLimit_11 : decode cX3_changeSpeedLimit 11 = .ok (.getfield 137, 3) := by decide +kernel
theorem dX3_changeSpeedLimit_14 : decode cX3_changeSpeedLimit 14 = .ok (.istore_n 2, 1) := by decide +kernel
theorem dX3_changeSpeedLimit_15 : decode cX3_changeSpeedLimit 15 = .ok (.aload_n 0, 1) := by decide +kernel
theorem dX3_changeSpeedLimit_16 : decode cX3_changeSpeedLimit 16 = .ok (.getfield 10, 3) := by decide +kernel
theorem dX3_changeSpeedLimit_19 : decode cX3_changeSpeedLimit 19 = .ok (.iload_n 1, 1) := by decide +kernel
theorem dX3_changeSpeedLimit_20 : decode cX3_changeSpeedLimit 20 = .ok (.putfield 137, 3) := by decide +kernel
theorem dX3_changeSpeedLimit_23 : decode cX3_changeSpeedLimit 23 = .ok (.aload_n 0, 1) := by decide +kernel
theorem dX3_changeSpeedLimit_24 : decode cX3_changeSpeedLimit 24 = .ok (.iconst 1, 1) := by decide +kernel
theorem dX3_changeSpeedLimit_25 : decode cX3_changeSpeedLimit 25 = .ok (.putfield 39, 3) := by decide +kernel
theorem dX3_changeSpeedLimit_28 : decode cX3_changeSpeedLimit 28 = .ok (.iload_n 2, 1) := by decide +kernel
theorem dX3_changeSpeedLimit_29 : decode cX3_changeSpeedLimit 29 = .ok (.ireturn, 1) := by decide +kernel
theorem dX3_changeEnergyPrice_0 : decode cX3_changeEnergyPrice 0 = .ok (.iload_n 1, 1) := by decide +kernel
theorem dX3_changeEnergyPrice_1 : decode cX3_changeEnergyPrice 1 = .ok (.iconst 0, 1) := by decide +kernel
theorem dX3_changeEnergyPrice_2 : decode cX3_changeEnergyPrice 2 = .ok (.sipush 1000, 3) := by decide +kernel
theorem dX3_changeEnergyPrice_5 : decode cX3_changeEnergyPrice 5 = .ok (.invokestatic 46, 3) := by decide +kernel
theorem dX3_changeEnergyPrice_8 : decode cX3_changeEnergyPrice 8 = .ok (.aload_n 0, 1) := by decide +kernel
theorem dX3_changeEnergyPrice_9 : decode cX3_changeEnergyPrice 9 = .ok (.getfield 35, 3) := by decide +kernel
theorem dX3_changeEnergyPrice_12 : decode cX3_changeEnergyPrice 12 = .ok (.istore_n 2, 1) := by decide +kernel
theorem dX3_changeEnergyPrice_13 : decode cX3_changeEnergyPrice 13 = .ok (.aload_n 0, 1) := by decide +kernel
theorem dX3_changeEnergyPrice_14 : decode cX3_changeEnergyPrice 14 = .ok (.iload_n 1, 1) := by decide +kernel
theorem dX3_changeEnergyPrice_15 : decode cX3_changeEnergyPrice 15 = .ok (.putfield 35, 3) := by decide +kernel
theorem dX3_changeEnergyPrice_18 : decode cX3_changeEnergyPrice 18 = .ok (.aload_n 0, 1) := by decide +kernel
theorem dX3_changeEnergyPrice_19 : decode cX3_changeEnergyPrice 19 = .ok (.iconst 1, 1) := by decide +kernel
theorem dX3_changeEnergyPrice_20 : decode cX3_changeEnergyPrice 20 = .ok (.putfield 39, 3) := by decide +kernel
theorem dX3_changeEnergyPrice_23 : decode cX3_changeEnergyPrice 23 = .ok (.iload_n 2, 1) := by decide +kernel
theorem dX3_changeEnergyPrice_24 : decode cX3_changeEnergyPrice 24 = .ok (.ireturn, 1) := by decide +kernel
theorem dX3_set_0 : decode cX3_set 0 = .ok (.iload_n 1, 1) := by decide +kernel
theorem dX3_set_1 : decode cX3_set 1 = .ok (.iconst 0, 1) := by decide +kernel
theorem dX3_set_2 : decode cX3_set 2 = .ok (.iconst 1, 1) := by decide +kernel
theorem dX3_set_3 : decode cX3_set 3 = .ok (.invokestatic 46, 3) := by decide +kernel
theorem dX3_set_6 : decode cX3_set 6 = .ok (.iload_n 1, 1) := by decide +kernel
theorem dX3_set_7 : decode cX3_set 7 = .ok (.ifCond .ne 11, 3) := by decide +kernel
theorem dX3_set_10 : decode cX3_set 10 = .ok (.aload_n 0, 1) := by decide +kernel
theorem dX3_set_11 : decode cX3_set 11 = .ok (.iload_n 2, 1) := by decide +kernel
theorem dX3_set_12 : decode cX3_set 12 = .ok (.invokevirtual 73, 3) := by decide +kernel
theorem dX3_set_15 : decode cX3_set 15 = .ok (.goto 8, 3) := by decide +kernel
theorem dX3_set_18 : decode cX3_set 18 = .ok (.aload_n 0, 1) := by decide +kernel
theorem dX3_set_19 : decode cX3_set 19 = .ok (.iload_n 2, 1) := by decide +kernel
theorem dX3_set_20 : decode cX3_set 20 = .ok (.invokevirtual 77, 3) := by decide +kernel
theorem dX3_set_23 : decode cX3_set 23 = .ok (.ireturn, 1) := by decide +kernel
theorem dX3_fan_0 : decode cX3_fan 0 = .ok (.iload_n 1, 1) := by decide +kernel
theorem dX3_fan_1 : decode cX3_fan 1 = .ok (.iconst 0, 1) := by decide +kernel
theorem dX3_fan_2 : decode cX3_fan 2 = .ok (.sipush 10000, 3) := by decide +kernel
theorem dX3_fan_5 : decode cX3_fan 5 = .ok (.invokestatic 46, 3) := by decide +kernel
theorem dX3_fan_8 : decode cX3_fan 8 = .ok (.iload_n 2, 1) := by decide +kernel
theorem dX3_fan_9 : decode cX3_fan 9 = .ok (.iconst 0, 1) := by decide +kernel
theorem dX3_fan_10 : decode cX3_fan 10 = .ok (.sipush 300, 3) := by decide +kernel
theorem dX3_fan_13 : decode cX3_fan 13 = .ok (.invokestatic 46, 3) := by decide +kernel
theorem dX3_fan_16 : decode cX3_fan 16 = .ok (.aload_n 0, 1) := by decide +kernel
theorem dX3_fan_17 : decode cX3_fan 17 = .ok (.getfield 19, 3) := by decide +kernel
theorem dX3_fan_20 : decode cX3_fan 20 = .ok (.iload_n 1, 1) := by decide +kernel
theorem dX3_fan_21 : decode cX3_fan 21 = .ok (.iload_n 2, 1) := by decide +kernel
theorem dX3_fan_22 : decode cX3_fan 22 = .ok (.invokevirtual 80, 3) := by decide +kernel
theorem dX3_fan_25 : decode cX3_fan 25 = .ok (.ifCond .ne 13, 3) := by decide +kernel
theorem dX3_fan_28 : decode cX3_fan 28 = .ok (.new 50, 3) := by decide +kernel
theorem dX3_fan_31 : decode cX3_fan 31 = .ok (.dup, 1) := by decide +kernel
theorem dX3_fan_32 : decode cX3_fan 32 = .ok (.ldc 84, 2) := by decide +kernel
theorem dX3_fan_34 : decode cX3_fan 34 = .ok (.invokespecial 54, 3) := by decide +kernel
theorem dX3_fan_37 : decode cX3_fan 37 = .ok (.athrow, 1) := by decide +kernel
theorem dX3_fan_38 : decode cX3_fan 38 = .ok (.aload_n 0, 1) := by decide +kernel
theorem dX3_fan_39 : decode cX3_fan 39 = .ok (.iconst 1, 1) := by decide +kernel
theorem dX3_fan_40 : decode cX3_fan 40 = .ok (.putfield 39, 3) := by decide +kernel
theorem dX3_fan_43 : decode cX3_fan 43 = .ok (.aload_n 0, 1) := by decide +kernel
theorem dX3_fan_44 : decode cX3_fan 44 = .ok (.getfield 19, 3) := by decide +kernel
theorem dX3_fan_47 : decode cX3_fan 47 = .ok (.iload_n 1, 1) := by decide +kernel
theorem dX3_fan_48 : decode cX3_fan 48 = .ok (.iload_n 2, 1) := by decide +kernel
theorem dX3_fan_49 : decode cX3_fan 49 = .ok (.invokevirtual 86, 3) := by decide +kernel
theorem dX3_fan_52 : decode cX3_fan 52 = .ok (.ireturn, 1) := by decide +kernel
theorem dX3_gives_0 : decode cX3_gives 0 = .ok (.aload_n 0, 1) := by decide +kernel
theorem dX3_gives_1 : decode cX3_gives 1 = .ok (.getfield 19, 3) := by decide +kernel
theorem dX3_gives_4 : decode cX3_gives 4 = .ok (.aload_n 0, 1) := by decide +kernel
theorem dX3_gives_5 : decode cX3_gives 5 = .ok (.getfield 10, 3) := by decide +kernel
theorem dX3_gives_8 : decode cX3_gives 8 = .ok (.getfield 89, 3) := by decide +kernel
theorem dX3_gives_11 : decode cX3_gives 11 = .ok (.iconst 0, 1) := by decide +kernel
theorem dX3_gives_12 : decode cX3_gives 12 = .ok (.iaload, 1) := by decide +kernel
theorem dX3_gives_13 : decode cX3_gives 13 = .ok (.invokevirtual 93, 3) := by decide +kernel
theorem dX3_gives_16 : decode cX3_gives 16 = .ok (.ireturn, 1) := by decide +kernel
theorem dX3_flow_0 : decode cX3_flow 0 = .ok (.iload_n 1, 1) := by decide +kernel
theorem dX3_flow_1 : decode cX3_flow 1 = .ok (.iconst 1, 1) := by decide +kernel
theorem dX3_flow_2 : decode cX3_flow 2 = .ok (.aload_n 0, 1) := by decide +kernel
theorem dX3_flow_3 : decode cX3_flow 3 = .ok (.getfield 10, 3) := by decide +kernel
theorem dX3_flow_6 : decode cX3_flow 6 = .ok (.getfield 43, 3) := by decide +kernel
theorem dX3_flow_9 : decode cX3_flow 9 = .ok (.invokestatic 46, 3) := by decide +kernel
theorem dX3_flow_12 : decode cX3_flow 12 = .ok (.aload_n 0, 1) := by decide +kernel
theorem dX3_flow_13 : decode cX3_flow 13 = .ok (.getfield 10, 3) := by decide +kernel
theorem dX3_flow_16 : decode cX3_flow 16 = .ok (.getfield 89, 3) := by decide +kernel
theorem dX3_flow_19 : decode cX3_flow 19 = .ok (.iload_n 1, 1) := by decide +kernel
theorem dX3_flow_20 : decode cX3_flow 20 = .ok (.iaload, 1) := by decide +kernel
theorem dX3_flow_21 : decode cX3_flow 21 = .ok (.ireturn, 1) := by decide +kernel
theorem dX3_told_0 : decode cX3_told 0 = .ok (.iload_n 1, 1) := by decide +kernel
theorem dX3_told_1 : decode cX3_told 1 = .ok (.iconst 1, 1) := by decide +kernel
theorem dX3_told_2 : decode cX3_told 2 = .ok (.aload_n 0, 1) := by decide +kernel
theorem dX3_told_3 : decode cX3_told 3 = .ok (.getfield 10, 3) := by decide +kernel
theorem dX3_told_6 : decode cX3_told 6 = .ok (.getfield 43, 3) := by decide +kernel
theorem dX3_told_9 : decode cX3_told 9 = .ok (.invokestatic 46, 3) := by decide +kernel
theorem dX3_told_12 : decode cX3_told 12 = .ok (.iload_n 2, 1) := by decide +kernel
theorem dX3_told_13 : decode cX3_told 13 = .ok (.iconst 0, 1) := by decide +kernel
theorem dX3_told_14 : decode cX3_told 14 = .ok (.aload_n 0, 1) := by decide +kernel
theorem dX3_told_15 : decode cX3_told 15 = .ok (.getfield 10, 3) := by decide +kernel
theorem dX3_told_18 : decode cX3_told 18 = .ok (.getfield 65, 3) := by decide +kernel
theorem dX3_told_21 : decode cX3_told 21 = .ok (.iconst 1, 1) := by decide +kernel
theorem dX3_told_22 : decode cX3_told 22 = .ok (.isub, 1) := by decide +kernel
theorem dX3_told_23 : decode cX3_told 23 = .ok (.invokestatic 46, 3) := by decide +kernel
theorem dX3_told_26 : decode cX3_told 26 = .ok (.iload_n 3, 1) := by decide +kernel
theorem dX3_told_27 : decode cX3_told 27 = .ok (.iconst 0, 1) := by decide +kernel
theorem dX3_told_28 : decode cX3_told 28 = .ok (.iconst 1, 1) := by decide +kernel
theorem dX3_told_29 : decode cX3_told 29 = .ok (.invokestatic 46, 3) := by decide +kernel
theorem dX3_told_32 : decode cX3_told 32 = .ok (.iload_n 3, 1) := by decide +kernel
theorem dX3_told_33 : decode cX3_told 33 = .ok (.ifCond .ne 15, 3) := by decide +kernel
theorem dX3_told_36 : decode cX3_told 36 = .ok (.aload_n 0, 1) := by decide +kernel
theorem dX3_told_37 : decode cX3_told 37 = .ok (.getfield 10, 3) := by decide +kernel
theorem dX3_told_40 : decode cX3_told 40 = .ok (.iload_n 1, 1) := by decide +kernel
theorem dX3_told_41 : decode cX3_told 41 = .ok (.iload_n 2, 1) := by decide +kernel
theorem dX3_told_42 : decode cX3_told 42 = .ok (.invokevirtual 96, 3) := by decide +kernel
theorem dX3_told_45 : decode cX3_told 45 = .ok (.goto 12, 3) := by decide +kernel
theorem dX3_told_48 : decode cX3_told 48 = .ok (.aload_n 0, 1) := by decide +kernel
theorem dX3_told_49 : decode cX3_told 49 = .ok (.getfield 10, 3) := by decide +kernel
theorem dX3_told_52 : decode cX3_told 52 = .ok (.iload_n 1, 1) := by decide +kernel
theorem dX3_told_53 : decode cX3_told 53 = .ok (.iload_n 2, 1) := by decide +kernel
theorem dX3_told_54 : decode cX3_told 54 = .ok (.invokevirtual 99, 3) := by decide +kernel
theorem dX3_told_57 : decode cX3_told 57 = .ok (.ireturn, 1) := by decide +kernel
theorem dX3_bestChoice_0 : decode cX3_bestChoice 0 = .ok (.aload_n 0, 1) := by decide +kernel
theorem dX3_bestChoice_1 : decode cX3_bestChoice 1 = .ok (.getfield 39, 3) := by decide +kernel
theorem dX3_bestChoice_4 : decode cX3_bestChoice 4 = .ok (.ifCond .eq 23, 3) := by decide +kernel
theorem dX3_bestChoice_7 : decode cX3_bestChoice 7 = .ok (.aload_n 0, 1) := by decide +kernel
theorem dX3_bestChoice_8 : decode cX3_bestChoice 8 = .ok (.getfield 28, 3) := by decide +kernel
theorem dX3_bestChoice_11 : decode cX3_bestChoice 11 = .ok (.aload_n 0, 1) := by decide +kernel
theorem dX3_bestChoice_12 : decode cX3_bestChoice 12 = .ok (.invokevirtual 140, 3) := by decide +kernel
theorem dX3_bestChoice_15 : decode cX3_bestChoice 15 = .ok (.aload_n 0, 1) := by decide +kernel
theorem dX3_bestChoice_16 : decode cX3_bestChoice 16 = .ok (.getfield 35, 3) := by decide +kernel
theorem dX3_bestChoice_19 : decode cX3_bestChoice 19 = .ok (.invokevirtual 123, 3) := by decide +kernel
theorem dX3_bestChoice_22 : decode cX3_bestChoice 22 = .ok (.aload_n 0, 1) := by decide +kernel
theorem dX3_bestChoice_23 : decode cX3_bestChoice 23 = .ok (.iconst 0, 1) := by decide +kernel
theorem dX3_bestChoice_24 : decode cX3_bestChoice 24 = .ok (.putfield 39, 3) := by decide +kernel
theorem dX3_bestChoice_27 : decode cX3_bestChoice 27 = .ok (.aload_n 0, 1) := by decide +kernel
theorem dX3_bestChoice_28 : decode cX3_bestChoice 28 = .ok (.getfield 28, 3) := by decide +kernel
theorem dX3_bestChoice_31 : decode cX3_bestChoice 31 = .ok (.areturn, 1) := by decide +kernel
theorem dX3_best_0 : decode cX3_best 0 = .ok (.iload_n 1, 1) := by decide +kernel
theorem dX3_best_1 : decode cX3_best 1 = .ok (.iconst 0, 1) := by decide +kernel
theorem dX3_best_2 : decode cX3_best 2 = .ok (.iconst 1, 1) := by decide +kernel
theorem dX3_best_3 : decode cX3_best 3 = .ok (.invokestatic 46, 3) := by decide +kernel
theorem dX3_best_6 : decode cX3_best 6 = .ok (.aload_n 0, 1) := by decide +kernel
theorem dX3_best_7 : decode cX3_best 7 = .ok (.invokevirtual 102, 3) := by decide +kernel
theorem dX3_best_10 : decode cX3_best 10 = .ok (.astore_n 2, 1) := by decide +kernel
theorem dX3_best_11 : decode cX3_best 11 = .ok (.aload_n 2, 1) := by decide +kernel
theorem dX3_best_12 : decode cX3_best 12 = .ok (.getfield 106, 3) := by decide +kernel
theorem dX3_best_15 : decode cX3_best 15 = .ok (.ifCond .ne 5, 3) := by decide +kernel
theorem dX3_best_18 : decode cX3_best 18 = .ok (.iconst (-1), 1) := by decide +kernel
theorem dX3_best_19 : decode cX3_best 19 = .ok (.ireturn, 1) := by decide +kernel
theorem dX3_best_20 : decode cX3_best 20 = .ok (.iload_n 1, 1) := by decide +kernel
theorem dX3_best_21 : decode cX3_best 21 = .ok (.ifCond .ne 10, 3) := by decide +kernel
theorem dX3_best_24 : decode cX3_best 24 = .ok (.aload_n 2, 1) := by decide +kernel
theorem dX3_best_25 : decode cX3_best 25 = .ok (.getfield 109, 3) := by decide +kernel
theorem dX3_best_28 : decode cX3_best 28 = .ok (.goto 7, 3) := by decide +kernel
theorem dX3_best_31 : decode cX3_best 31 = .ok (.aload_n 2, 1) := by decide +kernel
theorem dX3_best_32 : decode cX3_best 32 = .ok (.getfield 112, 3) := by decide +kernel
theorem dX3_best_35 : decode cX3_best 35 = .ok (.ireturn, 1) := by decide +kernel
theorem dX3_chosen_0 : decode cX3_chosen 0 = .ok (.iload_n 1, 1) := by decide +kernel
theorem dX3_chosen_1 : decode cX3_chosen 1 = .ok (.iconst 1, 1) := by decide +kernel
theorem dX3_chosen_2 : decode cX3_chosen 2 = .ok (.aload_n 0, 1) := by decide +kernel
theorem dX3_chosen_3 : decode cX3_chosen 3 = .ok (.getfield 10, 3) := by decide +kernel
theorem dX3_chosen_6 : decode cX3_chosen 6 = .ok (.getfield 43, 3) := by decide +kernel
theorem dX3_chosen_9 : decode cX3_chosen 9 = .ok (.invokestatic 46, 3) := by decide +kernel
theorem dX3_chosen_12 : decode cX3_chosen 12 = .ok (.aload_n 0, 1) := by decide +kernel
theorem dX3_chosen_13 : decode cX3_chosen 13 = .ok (.invokevirtual 102, 3) := by decide +kernel
theorem dX3_chosen_16 : decode cX3_chosen 16 = .ok (.astore_n 2, 1) := by decide +kernel
theorem dX3_chosen_17 : decode cX3_chosen 17 = .ok (.aload_n 2, 1) := by decide +kernel
theorem dX3_chosen_18 : decode cX3_chosen 18 = .ok (.getfield 106, 3) := by decide +kernel
theorem dX3_chosen_21 : decode cX3_chosen 21 = .ok (.ifCond .eq 12, 3) := by decide +kernel
theorem dX3_chosen_24 : decode cX3_chosen 24 = .ok (.aload_n 2, 1) := by decide +kernel
theorem dX3_chosen_25 : decode cX3_chosen 25 = .ok (.getfield 115, 3) := by decide +kernel
theorem dX3_chosen_28 : decode cX3_chosen 28 = .ok (.iload_n 1, 1) := by decide +kernel
theorem dX3_chosen_29 : decode cX3_chosen 29 = .ok (.iaload, 1) := by decide +kernel
theorem dX3_chosen_30 : decode cX3_chosen 30 = .ok (.goto 4, 3) := by decide +kernel
theorem dX3_chosen_33 : decode cX3_chosen 33 = .ok (.iconst (-1), 1) := by decide +kernel
theorem dX3_chosen_34 : decode cX3_chosen 34 = .ok (.ireturn, 1) := by decide +kernel
theorem dX3_pressure_0 : decode cX3_pressure 0 = .ok (.iload_n 1, 1) := by decide +kernel
theorem dX3_pressure_1 : decode cX3_pressure 1 = .ok (.iconst 0, 1) := by decide +kernel
theorem dX3_pressure_2 : decode cX3_pressure 2 = .ok (.aload_n 0, 1) := by decide +kernel
theorem dX3_pressure_3 : decode cX3_pressure 3 = .ok (.getfield 10, 3) := by decide +kernel
theorem dX3_pressure_6 : decode cX3_pressure 6 = .ok (.getfield 43, 3) := by decide +kernel
theorem dX3_pressure_9 : decode cX3_pressure 9 = .ok (.invokestatic 46, 3) := by decide +kernel
theorem dX3_pressure_12 : decode cX3_pressure 12 = .ok (.aload_n 0, 1) := by decide +kernel
theorem dX3_pressure_13 : decode cX3_pressure 13 = .ok (.invokevirtual 102, 3) := by decide +kernel
theorem dX3_pressure_16 : decode cX3_pressure 16 = .ok (.astore_n 2, 1) := by decide +kernel
theorem dX3_pressure_17 : decode cX3_pressure 17 = .ok (.aload_n 2, 1) := by decide +kernel
theorem dX3_pressure_18 : decode cX3_pressure 18 = .ok (.getfield 106, 3) := by decide +kernel
theorem dX3_pressure_21 : decode cX3_pressure 21 = .ok (.ifCond .eq 12, 3) := by decide +kernel
theorem dX3_pressure_24 : decode cX3_pressure 24 = .ok (.aload_n 2, 1) := by decide +kernel
theorem dX3_pressure_25 : decode cX3_pressure 25 = .ok (.getfield 118, 3) := by decide +kernel
theorem dX3_pressure_28 : decode cX3_pressure 28 = .ok (.iload_n 1, 1) := by decide +kernel
theorem dX3_pressure_29 : decode cX3_pressure 29 = .ok (.iaload, 1) := by decide +kernel
theorem dX3_pressure_30 : decode cX3_pressure 30 = .ok (.goto 4, 3) := by decide +kernel
theorem dX3_pressure_33 : decode cX3_pressure 33 = .ok (.iconst (-1), 1) := by decide +kernel
theorem dX3_pressure_34 : decode cX3_pressure 34 = .ok (.ireturn, 1) := by decide +kernel
theorem dX3_damper_0 : decode cX3_damper 0 = .ok (.iload_n 1, 1) := by decide +kernel
theorem dX3_damper_1 : decode cX3_damper 1 = .ok (.iconst 1, 1) := by decide +kernel
theorem dX3_damper_2 : decode cX3_damper 2 = .ok (.aload_n 0, 1) := by decide +kernel
theorem dX3_damper_3 : decode cX3_damper 3 = .ok (.getfield 10, 3) := by decide +kernel
theorem dX3_damper_6 : decode cX3_damper 6 = .ok (.getfield 43, 3) := by decide +kernel
theorem dX3_damper_9 : decode cX3_damper 9 = .ok (.invokestatic 46, 3) := by decide +kernel
theorem dX3_damper_12 : decode cX3_damper 12 = .ok (.aload_n 0, 1) := by decide +kernel
theorem dX3_damper_13 : decode cX3_damper 13 = .ok (.invokevirtual 102, 3) := by decide +kernel
theorem dX3_damper_16 : decode cX3_damper 16 = .ok (.astore_n 2, 1) := by decide +kernel
theorem dX3_damper_17 : decode cX3_damper 17 = .ok (.aload_n 2, 1) := by decide +kernel
theorem dX3_damper_18 : decode cX3_damper 18 = .ok (.getfield 106, 3) := by decide +kernel
theorem dX3_damper_21 : decode cX3_damper 21 = .ok (.ifCond .ne 5, 3) := by decide +kernel
theorem dX3_damper_24 : decode cX3_damper 24 = .ok (.iconst (-1), 1) := by decide +kernel
theorem dX3_damper_25 : decode cX3_damper 25 = .ok (.ireturn, 1) := by decide +kernel
theorem dX3_damper_26 : decode cX3_damper 26 = .ok (.aload_n 0, 1) := by decide +kernel
theorem dX3_damper_27 : decode cX3_damper 27 = .ok (.getfield 10, 3) := by decide +kernel
theorem dX3_damper_30 : decode cX3_damper 30 = .ok (.getfield 120, 3) := by decide +kernel
theorem dX3_damper_33 : decode cX3_damper 33 = .ok (.iload_n 1, 1) := by decide +kernel
theorem dX3_damper_34 : decode cX3_damper 34 = .ok (.iaload, 1) := by decide +kernel
theorem dX3_damper_35 : decode cX3_damper 35 = .ok (.ifCond .ne 7, 3) := by decide +kernel
theorem dX3_damper_38 : decode cX3_damper 38 = .ok (.iconst 0, 1) := by decide +kernel
theorem dX3_damper_39 : decode cX3_damper 39 = .ok (.goto 14, 3) := by decide +kernel
theorem dX3_damper_42 : decode cX3_damper 42 = .ok (.aload_n 2, 1) := by decide +kernel
theorem dX3_damper_43 : decode cX3_damper 43 = .ok (.getfield 112, 3) := by decide +kernel
theorem dX3_damper_46 : decode cX3_damper 46 = .ok (.aload_n 2, 1) := by decide +kernel
theorem dX3_damper_47 : decode cX3_damper 47 = .ok (.getfield 118, 3) := by decide +kernel
theorem dX3_damper_50 : decode cX3_damper 50 = .ok (.iload_n 1, 1) := by decide +kernel
theorem dX3_damper_51 : decode cX3_damper 51 = .ok (.iaload, 1) := by decide +kernel
theorem dX3_damper_52 : decode cX3_damper 52 = .ok (.isub, 1) := by decide +kernel
theorem dX3_damper_53 : decode cX3_damper 53 = .ok (.ireturn, 1) := by decide +kernel
theorem dX3_least_0 : decode cX3_least 0 = .ok (.iload_n 1, 1) := by decide +kernel
theorem dX3_least_1 : decode cX3_least 1 = .ok (.iconst 0, 1) := by decide +kernel
theorem dX3_least_2 : decode cX3_least 2 = .ok (.sipush 300, 3) := by decide +kernel
theorem dX3_least_5 : decode cX3_least 5 = .ok (.invokestatic 46, 3) := by decide +kernel
theorem dX3_least_8 : decode cX3_least 8 = .ok (.aload_n 0, 1) := by decide +kernel
theorem dX3_least_9 : decode cX3_least 9 = .ok (.getfield 32, 3) := by decide +kernel
theorem dX3_least_12 : decode cX3_least 12 = .ok (.iload_n 1, 1) := by decide +kernel
theorem dX3_least_13 : decode cX3_least 13 = .ok (.iconst 0, 1) := by decide +kernel
theorem dX3_least_14 : decode cX3_least 14 = .ok (.invokevirtual 123, 3) := by decide +kernel
theorem dX3_least_17 : decode cX3_least 17 = .ok (.aload_n 0, 1) := by decide +kernel
theorem dX3_least_18 : decode cX3_least 18 = .ok (.getfield 32, 3) := by decide +kernel
theorem dX3_least_21 : decode cX3_least 21 = .ok (.getfield 106, 3) := by decide +kernel
theorem dX3_least_24 : decode cX3_least 24 = .ok (.ifCond .eq 13, 3) := by decide +kernel
theorem dX3_least_27 : decode cX3_least 27 = .ok (.aload_n 0, 1) := by decide +kernel
theorem dX3_least_28 : decode cX3_least 28 = .ok (.getfield 32, 3) := by decide +kernel
theorem dX3_least_31 : decode cX3_least 31 = .ok (.getfield 109, 3) := by decide +kernel
theorem dX3_least_34 : decode cX3_least 34 = .ok (.goto 4, 3) := by decide +kernel
theorem dX3_least_37 : decode cX3_least 37 = .ok (.iconst (-1), 1) := by decide +kernel
theorem dX3_least_38 : decode cX3_least 38 = .ok (.ireturn, 1) := by decide +kernel
theorem dX3_worst_0 : decode cX3_worst 0 = .ok (.aload_n 0, 1) := by decide +kernel
theorem dX3_worst_1 : decode cX3_worst 1 = .ok (.invokevirtual 102, 3) := by decide +kernel
theorem dX3_worst_4 : decode cX3_worst 4 = .ok (.astore_n 1, 1) := by decide +kernel
theorem dX3_worst_5 : decode cX3_worst 5 = .ok (.aload_n 1, 1) := by decide +kernel
theorem dX3_worst_6 : decode cX3_worst 6 = .ok (.getfield 106, 3) := by decide +kernel
theorem dX3_worst_9 : decode cX3_worst 9 = .ok (.ifCond .eq 10, 3) := by decide +kernel
theorem dX3_worst_12 : decode cX3_worst 12 = .ok (.aload_n 1, 1) := by decide +kernel
theorem dX3_worst_13 : decode cX3_worst 13 = .ok (.invokevirtual 127, 3) := by decide +kernel
theorem dX3_worst_16 : decode cX3_worst 16 = .ok (.goto 4, 3) := by decide +kernel
theorem dX3_worst_19 : decode cX3_worst 19 = .ok (.iconst (-1), 1) := by decide +kernel
theorem dX3_worst_20 : decode cX3_worst 20 = .ok (.ireturn, 1) := by decide +kernel
theorem dX0_init_0 : decode cX0_init 0 = .ok (.aload_n 0, 1) := by decide +kernel
theorem dX0_init_1 : decode cX0_init 1 = .ok (.invokespecial 3, 3) := by decide +kernel
theorem dX0_init_4 : decode cX0_init 4 = .ok (.aload_n 0, 1) := by decide +kernel
theorem dX0_init_5 : decode cX0_init 5 = .ok (.iconst 5, 1) := by decide +kernel
theorem dX0_init_6 : decode cX0_init 6 = .ok (.newarray .int, 2) := by decide +kernel
theorem dX0_init_8 : decode cX0_init 8 = .ok (.putfield 9, 3) := by decide +kernel
theorem dX0_init_11 : decode cX0_init 11 = .ok (.aload_n 0, 1) := by decide +kernel
theorem dX0_init_12 : decode cX0_init 12 = .ok (.iconst 5, 1) := by decide +kernel
theorem dX0_init_13 : decode cX0_init 13 = .ok (.newarray .int, 2) := by decide +kernel
theorem dX0_init_15 : decode cX0_init 15 = .ok (.putfield 15, 3) := by decide +kernel
theorem dX0_init_18 : decode cX0_init 18 = .ok (.aload_n 0, 1) := by decide +kernel
theorem dX0_init_19 : decode cX0_init 19 = .ok (.iconst 0, 1) := by decide +kernel
theorem dX0_init_20 : decode cX0_init 20 = .ok (.putfield 18, 3) := by decide +kernel
theorem dX0_init_23 : decode cX0_init 23 = .ok (.return_, 1) := by decide +kernel
theorem dX1_init_0 : decode cX1_init 0 = .ok (.aload_n 0, 1) := by decide +kernel
theorem dX1_init_1 : decode cX1_init 1 = .ok (.invokespecial 3, 3) := by decide +kernel
theorem dX1_init_4 : decode cX1_init 4 = .ok (.aload_n 0, 1) := by decide +kernel
theorem dX1_init_5 : decode cX1_init 5 = .ok (.bipush 7, 2) := by decide +kernel
theorem dX1_init_7 : decode cX1_init 7 = .ok (.newarray .int, 2) := by decide +kernel
theorem dX1_init_9 : decode cX1_init 9 = .ok (.putfield 9, 3) := by decide +kernel
theorem dX1_init_12 : decode cX1_init 12 = .ok (.aload_n 0, 1) := by decide +kernel
theorem dX1_init_13 : decode cX1_init 13 = .ok (.bipush 7, 2) := by decide +kernel
theorem dX1_init_15 : decode cX1_init 15 = .ok (.newarray .int, 2) := by decide +kernel
theorem dX1_init_17 : decode cX1_init 17 = .ok (.putfield 15, 3) := by decide +kernel
theorem dX1_init_20 : decode cX1_init 20 = .ok (.aload_n 0, 1) := by decide +kernel
theorem dX1_init_21 : decode cX1_init 21 = .ok (.bipush 7, 2) := by decide +kernel
theorem dX1_init_23 : decode cX1_init 23 = .ok (.newarray .int, 2) := by decide +kernel
theorem dX1_init_25 : decode cX1_init 25 = .ok (.putfield 18, 3) := by decide +kernel
theorem dX1_init_28 : decode cX1_init 28 = .ok (.aload_n 0, 1) := by decide +kernel
theorem dX1_init_29 : decode cX1_init 29 = .ok (.bipush 7, 2) := by decide +kernel
theorem dX1_init_31 : decode cX1_init 31 = .ok (.newarray .int, 2) := by decide +kernel
theorem dX1_init_33 : decode cX1_init 33 = .ok (.putfield 21, 3) := by decide +kernel
theorem dX1_init_36 : decode cX1_init 36 = .ok (.aload_n 0, 1) := by decide +kernel
theorem dX1_init_37 : decode cX1_init 37 = .ok (.bipush 7, 2) := by decide +kernel
theorem dX1_init_39 : decode cX1_init 39 = .ok (.newarray .int, 2) := by decide +kernel
theorem dX1_init_41 : decode cX1_init 41 = .ok (.putfield 24, 3) := by decide +kernel
theorem dX1_init_44 : decode cX1_init 44 = .ok (.aload_n 0, 1) := by decide +kernel
theorem dX1_init_45 : decode cX1_init 45 = .ok (.iconst 0, 1) := by decide +kernel
theorem dX1_init_46 : decode cX1_init 46 = .ok (.putfield 27, 3) := by decide +kernel
theorem dX1_init_49 : decode cX1_init 49 = .ok (.aload_n 0, 1) := by decide +kernel
theorem dX1_init_50 : decode cX1_init 50 = .ok (.iconst 4, 1) := by decide +kernel
theorem dX1_init_51 : decode cX1_init 51 = .ok (.newarray .int, 2) := by decide +kernel
theorem dX1_init_53 : decode cX1_init 53 = .ok (.putfield 31, 3) := by decide +kernel
theorem dX1_init_56 : decode cX1_init 56 = .ok (.aload_n 0, 1) := by decide +kernel
theorem dX1_init_57 : decode cX1_init 57 = .ok (.iconst 4, 1) := by decide +kernel
theorem dX1_init_58 : decode cX1_init 58 = .ok (.newarray .int, 2) := by decide +kernel
theorem dX1_init_60 : decode cX1_init 60 = .ok (.putfield 34, 3) := by decide +kernel
theorem dX1_init_63 : decode cX1_init 63 = .ok (.aload_n 0, 1) := by decide +kernel
theorem dX1_init_64 : decode cX1_init 64 = .ok (.iconst 0, 1) := by decide +kernel
theorem dX1_init_65 : decode cX1_init 65 = .ok (.putfield 37, 3) := by decide +kernel
theorem dX1_init_68 : decode cX1_init 68 = .ok (.aload_n 0, 1) := by decide +kernel
theorem dX1_init_69 : decode cX1_init 69 = .ok (.ldc 40, 2) := by decide +kernel
theorem dX1_init_71 : decode cX1_init 71 = .ok (.putfield 41, 3) := by decide +kernel
theorem dX1_init_74 : decode cX1_init 74 = .ok (.return_, 1) := by decide +kernel
theorem dX2_init_0 : decode cX2_init 0 = .ok (.aload_n 0, 1) := by decide +kernel
theorem dX2_init_1 : decode cX2_init 1 = .ok (.invokespecial 3, 3) := by decide +kernel
theorem dX2_init_4 : decode cX2_init 4 = .ok (.aload_n 0, 1) := by decide +kernel
theorem dX2_init_5 : decode cX2_init 5 = .ok (.bipush 7, 2) := by decide +kernel
theorem dX2_init_7 : decode cX2_init 7 = .ok (.iconst 4, 1) := by decide +kernel
theorem dX2_init_8 : decode cX2_init 8 = .ok (.multianewarray 9 2, 4) := by decide +kernel
theorem dX2_init_12 : decode cX2_init 12 = .ok (.putfield 11, 3) := by decide +kernel
theorem dX2_init_15 : decode cX2_init 15 = .ok (.aload_n 0, 1) := by decide +kernel
theorem dX2_init_16 : decode cX2_init 16 = .ok (.bipush 7, 2) := by decide +kernel
theorem dX2_init_18 : decode cX2_init 18 = .ok (.newarray .int, 2) := by decide +kernel
theorem dX2_init_20 : decode cX2_init 20 = .ok (.putfield 16, 3) := by decide +kernel
theorem dX2_init_23 : decode cX2_init 23 = .ok (.aload_n 0, 1) := by decide +kernel
theorem dX2_init_24 : decode cX2_init 24 = .ok (.bipush 7, 2) := by decide +kernel
theorem dX2_init_26 : decode cX2_init 26 = .ok (.newarray .int, 2) := by decide +kernel
theorem dX2_init_28 : decode cX2_init 28 = .ok (.putfield 20, 3) := by decide +kernel
theorem dX2_init_31 : decode cX2_init 31 = .ok (.aload_n 0, 1) := by decide +kernel
theorem dX2_init_32 : decode cX2_init 32 = .ok (.iconst 0, 1) := by decide +kernel
theorem dX2_init_33 : decode cX2_init 33 = .ok (.putfield 23, 3) := by decide +kernel
theorem dX2_init_36 : decode cX2_init 36 = .ok (.aload_n 0, 1) := by decide +kernel
theorem dX2_init_37 : decode cX2_init 37 = .ok (.iconst 0, 1) := by decide +kernel
theorem dX2_init_38 : decode cX2_init 38 = .ok (.putfield 27, 3) := by decide +kernel
theorem dX2_init_41 : decode cX2_init 41 = .ok (.aload_n 0, 1) := by decide +kernel
theorem dX2_init_42 : decode cX2_init 42 = .ok (.bipush 7, 2) := by decide +kernel
theorem dX2_init_44 : decode cX2_init 44 = .ok (.newarray .int, 2) := by decide +kernel
theorem dX2_init_46 : decode cX2_init 46 = .ok (.putfield 30, 3) := by decide +kernel
theorem dX2_init_49 : decode cX2_init 49 = .ok (.aload_n 0, 1) := by decide +kernel
theorem dX2_init_50 : decode cX2_init 50 = .ok (.bipush 7, 2) := by decide +kernel
theorem dX2_init_52 : decode cX2_init 52 = .ok (.newarray .int, 2) := by decide +kernel
theorem dX2_init_54 : decode cX2_init 54 = .ok (.putfield 33, 3) := by decide +kernel
theorem dX2_init_57 : decode cX2_init 57 = .ok (.aload_n 0, 1) := by decide +kernel
theorem dX2_init_58 : decode cX2_init 58 = .ok (.iconst 0, 1) := by decide +kernel
theorem dX2_init_59 : decode cX2_init 59 = .ok (.putfield 36, 3) := by decide +kernel
theorem dX2_init_62 : decode cX2_init 62 = .ok (.aload_n 0, 1) := by decide +kernel
theorem dX2_init_63 : decode cX2_init 63 = .ok (.iconst 0, 1) := by decide +kernel
theorem dX2_init_64 : decode cX2_init 64 = .ok (.putfield 40, 3) := by decide +kernel
theorem dX2_init_67 : decode cX2_init 67 = .ok (.aload_n 0, 1) := by decide +kernel
theorem dX2_init_68 : decode cX2_init 68 = .ok (.iconst 0, 1) := by decide +kernel
theorem dX2_init_69 : decode cX2_init 69 = .ok (.putfield 43, 3) := by decide +kernel
theorem dX2_init_72 : decode cX2_init 72 = .ok (.aload_n 0, 1) := by decide +kernel
theorem dX2_init_73 : decode cX2_init 73 = .ok (.aload_n 1, 1) := by decide +kernel
theorem dX2_init_74 : decode cX2_init 74 = .ok (.putfield 46, 3) := by decide +kernel
theorem dX2_init_77 : decode cX2_init 77 = .ok (.return_, 1) := by decide +kernel
theorem dX3_init_0 : decode cX3_init 0 = .ok (.aload_n 0, 1) := by decide +kernel
theorem dX3_init_1 : decode cX3_init 1 = .ok (.invokespecial 1, 3) := by decide +kernel
theorem dX3_init_4 : decode cX3_init 4 = .ok (.aload_n 0, 1) := by decide +kernel
theorem dX3_init_5 : decode cX3_init 5 = .ok (.new 7, 3) := by decide +kernel
theorem dX3_init_8 : decode cX3_init 8 = .ok (.dup, 1) := by decide +kernel
theorem dX3_init_9 : decode cX3_init 9 = .ok (.invokespecial 9, 3) := by decide +kernel
theorem dX3_init_12 : decode cX3_init 12 = .ok (.putfield 10, 3) := by decide +kernel
theorem dX3_init_15 : decode cX3_init 15 = .ok (.aload_n 0, 1) := by decide +kernel
theorem dX3_init_16 : decode cX3_init 16 = .ok (.new 16, 3) := by decide +kernel
theorem dX3_init_19 : decode cX3_init 19 = .ok (.dup, 1) := by decide +kernel
theorem dX3_init_20 : decode cX3_init 20 = .ok (.invokespecial 18, 3) := by decide +kernel
theorem dX3_init_23 : decode cX3_init 23 = .ok (.putfield 19, 3) := by decide +kernel
theorem dX3_init_26 : decode cX3_init 26 = .ok (.aload_n 0, 1) := by decide +kernel
theorem dX3_init_27 : decode cX3_init 27 = .ok (.new 23, 3) := by decide +kernel
theorem dX3_init_30 : decode cX3_init 30 = .ok (.dup, 1) := by decide +kernel
theorem dX3_init_31 : decode cX3_init 31 = .ok (.aload_n 0, 1) := by decide +kernel
theorem dX3_init_32 : decode cX3_init 32 = .ok (.getfield 10, 3) := by decide +kernel
theorem dX3_init_35 : decode cX3_init 35 = .ok (.invokespecial 25, 3) := by decide +kernel
theorem dX3_init_38 : decode cX3_init 38 = .ok (.putfield 28, 3) := by decide +kernel
theorem dX3_init_41 : decode cX3_init 41 = .ok (.aload_n 0, 1) := by decide +kernel
theorem dX3_init_42 : decode cX3_init 42 = .ok (.new 23, 3) := by decide +kernel
theorem dX3_init_45 : decode cX3_init 45 = .ok (.dup, 1) := by decide +kernel
theorem dX3_init_46 : decode cX3_init 46 = .ok (.aload_n 0, 1) := by decide +kernel
theorem dX3_init_47 : decode cX3_init 47 = .ok (.getfield 10, 3) := by decide +kernel
theorem dX3_init_50 : decode cX3_init 50 = .ok (.invokespecial 25, 3) := by decide +kernel
theorem dX3_init_53 : decode cX3_init 53 = .ok (.putfield 32, 3) := by decide +kernel
theorem dX3_init_56 : decode cX3_init 56 = .ok (.aload_n 0, 1) := by decide +kernel
theorem dX3_init_57 : decode cX3_init 57 = .ok (.iconst 0, 1) := by decide +kernel
theorem dX3_init_58 : decode cX3_init 58 = .ok (.putfield 35, 3) := by decide +kernel
theorem dX3_init_61 : decode cX3_init 61 = .ok (.aload_n 0, 1) := by decide +kernel
theorem dX3_init_62 : decode cX3_init 62 = .ok (.iconst 1, 1) := by decide +kernel
theorem dX3_init_63 : decode cX3_init 63 = .ok (.putfield 39, 3) := by decide +kernel
theorem dX3_init_66 : decode cX3_init 66 = .ok (.return_, 1) := by decide +kernel
theorem dX3_demand_0 : decode cX3_demand 0 = .ok (.iload_n 0, 1) := by decide +kernel
theorem dX3_demand_1 : decode cX3_demand 1 = .ok (.iload_n 1, 1) := by decide +kernel
theorem dX3_demand_2 : decode cX3_demand 2 = .ok (.if_icmp .lt 8, 3) := by decide +kernel
theorem dX3_demand_5 : decode cX3_demand 5 = .ok (.iload_n 0, 1) := by decide +kernel
theorem dX3_demand_6 : decode cX3_demand 6 = .ok (.iload_n 2, 1) := by decide +kernel
theorem dX3_demand_7 : decode cX3_demand 7 = .ok (.if_icmp .le 13, 3) := by decide +kernel
theorem dX3_demand_10 : decode cX3_demand 10 = .ok (.new 131, 3) := by decide +kernel
theorem dX3_demand_13 : decode cX3_demand 13 = .ok (.dup, 1) := by decide +kernel
theorem dX3_demand_14 : decode cX3_demand 14 = .ok (.ldc 133, 2) := by decide +kernel
theorem dX3_demand_16 : decode cX3_demand 16 = .ok (.invokespecial 135, 3) := by decide +kernel
theorem dX3_demand_19 : decode cX3_demand 19 = .ok (.athrow, 1) := by decide +kernel
theorem dX3_demand_20 : decode cX3_demand 20 = .ok (.return_, 1) := by decide +kernel
end
section
/-! DECODE: every instruction at its place -/
theorem dL_duct_0 : decode cL_duct 0 = .ok (.aload 4, 2) := by decide +kernel
theorem dL_duct_2 : decode cL_duct 2 = .ok (.iconst 0, 1) := by decide +kernel
theorem dL_duct_3 : decode cL_duct 3 = .ok (.aload_n 0, 1) := by decide +kernel
theorem dL_duct_4 : decode cL_duct 4 = .ok (.iload_n 1, 1) := by decide +kernel
theorem dL_duct_5 : decode cL_duct 5 = .ok (.iload_n 2, 1) := by decide +kernel
theorem dL_duct_6 : decode cL_duct 6 = .ok (.iload_n 3, 1) := by decide +kernel
theorem dL_duct_7 : decode cL_duct 7 = .ok (.invokevirtual 7, 3) := by decide +kernel
theorem dL_duct_10 : decode cL_duct 10 = .ok (.i2l, 1) := by decide +kernel
theorem dL_duct_11 : decode cL_duct 11 = .ok (.lastore, 1) := by decide +kernel
theorem dL_duct_12 : decode cL_duct 12 = .ok (.goto 11, 3) := by decide +kernel
theorem dL_duct_15 : decode cL_duct 15 = .ok (.astore 5, 2) := by decide +kernel
theorem dL_duct_17 : decode cL_duct 17 = .ok (.iconst 1, 1) := by decide +kernel
theorem dL_duct_18 : decode cL_duct 18 = .ok (.ireturn, 1) := by decide +kernel
theorem dL_duct_19 : decode cL_duct 19 = .ok (.astore 5, 2) := by decide +kernel
theorem dL_duct_21 : decode cL_duct 21 = .ok (.iconst 2, 1) := by decide +kernel
theorem dL_duct_22 : decode cL_duct 22 = .ok (.ireturn, 1) := by decide +kernel
theorem dL_duct_23 : decode cL_duct 23 = .ok (.iconst 0, 1) := by decide +kernel
theorem dL_duct_24 : decode cL_duct 24 = .ok (.ireturn, 1) := by decide +kernel
theorem dL_need_0 : decode cL_need 0 = .ok (.aload_n 3, 1) := by decide +kernel
theorem dL_need_1 : decode cL_need 1 = .ok (.iconst 0, 1) := by decide +kernel
theorem dL_need_2 : decode cL_need 2 = .ok (.aload_n 0, 1) := by decide +kernel
theorem dL_need_3 : decode cL_need 3 = .ok (.iload_n 1, 1) := by decide +kernel
theorem dL_need_4 : decode cL_need 4 = .ok (.iload_n 2, 1) := by decide +kernel
theorem dL_need_5 : decode cL_need 5 = .ok (.invokevirtual 17, 3) := by decide +kernel
theorem dL_need_8 : decode cL_need 8 = .ok (.i2l, 1) := by decide +kernel
theorem dL_need_9 : decode cL_need 9 = .ok (.lastore, 1) := by decide +kernel
theorem dL_need_10 : decode cL_need 10 = .ok (.goto 7, 3) := by decide +kernel
theorem dL_need_13 : decode cL_need 13 = .ok (.astore 4, 2) := by decide +kernel
theorem dL_need_15 : decode cL_need 15 = .ok (.iconst 1, 1) := by decide +kernel
theorem dL_need_16 : decode cL_need 16 = .ok (.ireturn, 1) := by decide +kernel
theorem dL_need_17 : decode cL_need 17 = .ok (.iconst 0, 1) := by decide +kernel
theorem dL_need_18 : decode cL_need 18 = .ok (.ireturn, 1) := by decide +kernel
theorem dL_size_0 : decode cL_size 0 = .ok (.aload_n 3, 1) := by decide +kernel
theorem dL_size_1 : decode cL_size 1 = .ok (.iconst 0, 1) := by decide +kernel
theorem dL_size_2 : decode cL_size 2 = .ok (.aload_n 0, 1) := by decide +kernel
theorem dL_size_3 : decode cL_size 3 = .ok (.iload_n 1, 1) := by decide +kernel
theorem dL_size_4 : decode cL_size 4 = .ok (.iload_n 2, 1) := by decide +kernel
theorem dL_size_5 : decode cL_size 5 = .ok (.invokevirtual 21, 3) := by decide +kernel
theorem dL_size_8 : decode cL_size 8 = .ok (.i2l, 1) := by decide +kernel
theorem dL_size_9 : decode cL_size 9 = .ok (.lastore, 1) := by decide +kernel
theorem dL_size_10 : decode cL_size 10 = .ok (.goto 11, 3) := by decide +kernel
theorem dL_size_13 : decode cL_size 13 = .ok (.astore 4, 2) := by decide +kernel
theorem dL_size_15 : decode cL_size 15 = .ok (.iconst 1, 1) := by decide +kernel
theorem dL_size_16 : decode cL_size 16 = .ok (.ireturn, 1) := by decide +kernel
theorem dL_size_17 : decode cL_size 17 = .ok (.astore 4, 2) := by decide +kernel
theorem dL_size_19 : decode cL_size 19 = .ok (.iconst 2, 1) := by decide +kernel
theorem dL_size_20 : decode cL_size 20 = .ok (.ireturn, 1) := by decide +kernel
theorem dL_size_21 : decode cL_size 21 = .ok (.iconst 0, 1) := by decide +kernel
theorem dL_size_22 : decode cL_size 22 = .ok (.ireturn, 1) := by decide +kernel
theorem dL_set_0 : decode cL_set 0 = .ok (.aload_n 3, 1) := by decide +kernel
theorem dL_set_1 : decode cL_set 1 = .ok (.iconst 0, 1) := by decide +kernel
theorem dL_set_2 : decode cL_set 2 = .ok (.aload_n 0, 1) := by decide +kernel
theorem dL_set_3 : decode cL_set 3 = .ok (.iload_n 1, 1) := by decide +kernel
theorem dL_set_4 : decode cL_set 4 = .ok (.iload_n 2, 1) := by decide +kernel
theorem dL_set_5 : decode cL_set 5 = .ok (.invokevirtual 24, 3) := by decide +kernel
theorem dL_set_8 : decode cL_set 8 = .ok (.i2l, 1) := by decide +kernel
theorem dL_set_9 : decode cL_set 9 = .ok (.lastore, 1) := by decide +kernel
theorem dL_set_10 : decode cL_set 10 = .ok (.goto 7, 3) := by decide +kernel
theorem dL_set_13 : decode cL_set 13 = .ok (.astore 4, 2) := by decide +kernel
theorem dL_set_15 : decode cL_set 15 = .ok (.iconst 1, 1) := by decide +kernel
theorem dL_set_16 : decode cL_set 16 = .ok (.ireturn, 1) := by decide +kernel
theorem dL_set_17 : decode cL_set 17 = .ok (.iconst 0, 1) := by decide +kernel
theorem dL_set_18 : decode cL_set 18 = .ok (.ireturn, 1) := by decide +kernel
theorem dL_fan_0 : decode cL_fan 0 = .ok (.aload_n 3, 1) := by decide +kernel
theorem dL_fan_1 : decode cL_fan 1 = .ok (.iconst 0, 1) := by decide +kernel
theorem dL_fan_2 : decode cL_fan 2 = .ok (.aload_n 0, 1) := by decide +kernel
theorem dL_fan_3 : decode cL_fan 3 = .ok (.iload_n 1, 1) := by decide +kernel
theorem dL_fan_4 : decode cL_fan 4 = .ok (.iload_n 2, 1) := by decide +kernel
theorem dL_fan_5 : decode cL_fan 5 = .ok (.invokevirtual 27, 3) := by decide +kernel
theorem dL_fan_8 : decode cL_fan 8 = .ok (.i2l, 1) := by decide +kernel
theorem dL_fan_9 : decode cL_fan 9 = .ok (.lastore, 1) := by decide +kernel
theorem dL_fan_10 : decode cL_fan 10 = .ok (.goto 11, 3) := by decide +kernel
theorem dL_fan_13 : decode cL_fan 13 = .ok (.astore 4, 2) := by decide +kernel
theorem dL_fan_15 : decode cL_fan 15 = .ok (.iconst 1, 1) := by decide +kernel
theorem dL_fan_16 : decode cL_fan 16 = .ok (.ireturn, 1) := by decide +kernel
theorem dL_fan_17 : decode cL_fan 17 = .ok (.astore 4, 2) := by decide +kernel
theorem dL_fan_19 : decode cL_fan 19 = .ok (.iconst 2, 1) := by decide +kernel
theorem dL_fan_20 : decode cL_fan 20 = .ok (.ireturn, 1) := by decide +kernel
theorem dL_fan_21 : decode cL_fan 21 = .ok (.iconst 0, 1) := by decide +kernel
theorem dL_fan_22 : decode cL_fan 22 = .ok (.ireturn, 1) := by decide +kernel
theorem dL_flow_0 : decode cL_flow 0 = .ok (.aload_n 2, 1) := by decide +kernel
theorem dL_flow_1 : decode cL_flow 1 = .ok (.iconst 0, 1) := by decide +kernel
theorem dL_flow_2 : decode cL_flow 2 = .ok (.aload_n 0, 1) := by decide +kernel
theorem dL_flow_3 : decode cL_flow 3 = .ok (.iload_n 1, 1) := by decide +kernel
theorem dL_flow_4 : decode cL_flow 4 = .ok (.invokevirtual 30, 3) := by decide +kernel
theorem dL_flow_7 : decode cL_flow 7 = .ok (.i2l, 1) := by decide +kernel
theorem dL_flow_8 : decode cL_flow 8 = .ok (.lastore, 1) := by decide +kernel
theorem dL_flow_9 : decode cL_flow 9 = .ok (.goto 6, 3) := by decide +kernel
theorem dL_flow_12 : decode cL_flow 12 = .ok (.astore_n 3, 1) := by decide +kernel
theorem dL_flow_13 : decode cL_flow 13 = .ok (.iconst 1, 1) := by decide +kernel
theorem dL_flow_14 : decode cL_flow 14 = .ok (.ireturn, 1) := by decide +kernel
theorem dL_flow_15 : decode cL_flow 15 = .ok (.iconst 0, 1) := by decide +kernel
theorem dL_flow_16 : decode cL_flow 16 = .ok (.ireturn, 1) := by decide +kernel
theorem dL_told_0 : decode cL_told 0 = .ok (.aload 4, 2) := by decide +kernel
theorem dL_told_2 : decode cL_told 2 = .ok (.iconst 0, 1) := by decide +kernel
theorem dL_told_3 : decode cL_told 3 = .ok (.aload_n 0, 1) := by decide +kernel
theorem dL_told_4 : decode cL_told 4 = .ok (.iload_n 1, 1) := by decide +kernel
theorem dL_told_5 : decode cL_told 5 = .ok (.iload_n 2, 1) := by decide +kernel
theorem dL_told_6 : decode cL_told 6 = .ok (.iload_n 3, 1) := by decide +kernel
theorem dL_told_7 : decode cL_told 7 = .ok (.invokevirtual 34, 3) := by decide +kernel
theorem dL_told_10 : decode cL_told 10 = .ok (.i2l, 1) := by decide +kernel
theorem dL_told_11 : decode cL_told 11 = .ok (.lastore, 1) := by decide +kernel
theorem dL_told_12 : decode cL_told 12 = .ok (.goto 7, 3) := by decide +kernel
theorem dL_told_15 : decode cL_told 15 = .ok (.astore 5, 2) := by decide +kernel
theorem dL_told_17 : decode cL_told 17 = .ok (.iconst 1, 1) := by decide +kernel
theorem dL_told_18 : decode cL_told 18 = .ok (.ireturn, 1) := by decide +kernel
theorem dL_told_19 : decode cL_told 19 = .ok (.iconst 0, 1) := by decide +kernel
theorem dL_told_20 : decode cL_told 20 = .ok (.ireturn, 1) := by decide +kernel
theorem dL_best_0 : decode cL_best 0 = .ok (.aload_n 2, 1) := by decide +kernel
theorem dL_best_1 : decode cL_best 1 = .ok (.iconst 0, 1) := by decide +kernel
theorem dL_best_2 : decode cL_best 2 = .ok (.aload_n 0, 1) := by decide +kernel
theorem dL_best_3 : decode cL_best 3 = .ok (.iload_n 1, 1) := by decide +kernel
theorem dL_best_4 : decode cL_best 4 = .ok (.invokevirtual 37, 3) := by decide +kernel
theorem dL_best_7 : decode cL_best 7 = .ok (.i2l, 1) := by decide +kernel
theorem dL_best_8 : decode cL_best 8 = .ok (.lastore, 1) := by decide +kernel
theorem dL_best_9 : decode cL_best 9 = .ok (.goto 6, 3) := by decide +kernel
theorem dL_best_12 : decode cL_best 12 = .ok (.astore_n 3, 1) := by decide +kernel
theorem dL_best_13 : decode cL_best 13 = .ok (.iconst 1, 1) := by decide +kernel
theorem dL_best_14 : decode cL_best 14 = .ok (.ireturn, 1) := by decide +kernel
theorem dL_best_15 : decode cL_best 15 = .ok (.iconst 0, 1) := by decide +kernel
theorem dL_best_16 : decode cL_best 16 = .ok (.ireturn, 1) := by decide +kernel
theorem dL_chosen_0 : decode cL_chosen 0 = .ok (.aload_n 2, 1) := by decide +kernel
theorem dL_chosen_1 : decode cL_chosen 1 = .ok (.iconst 0, 1) := by decide +kernel
theorem dL_chosen_2 : decode cL_chosen 2 = .ok (.aload_n 0, 1) := by decide +kernel
theorem dL_chosen_3 : decode cL_chosen 3 = .ok (.iload_n 1, 1) := by decide +kernel
theorem dL_chosen_4 : decode cL_chosen 4 = .ok (.invokevirtual 40, 3) := by decide +kernel
theorem dL_chosen_7 : decode cL_chosen 7 = .ok (.i2l, 1) := by decide +kernel
theorem dL_chosen_8 : decode cL_chosen 8 = .ok (.lastore, 1) := by decide +kernel
theorem dL_chosen_9 : decode cL_chosen 9 = .ok (.goto 6, 3) := by decide +kernel
theorem dL_chosen_12 : decode cL_chosen 12 = .ok (.astore_n 3, 1) := by decide +kernel
theorem dL_chosen_13 : decode cL_chosen 13 = .ok (.iconst 1, 1) := by decide +kernel
theorem dL_chosen_14 : decode cL_chosen 14 = .ok (.ireturn, 1) := by decide +kernel
theorem dL_chosen_15 : decode cL_chosen 15 = .ok (.iconst 0, 1) := by decide +kernel
theorem dL_chosen_16 : decode cL_chosen 16 = .ok (.ireturn, 1) := by decide +kernel
theorem dL_pressure_0 : decode cL_pressure 0 = .ok (.aload_n 2, 1) := by decide +kernel
theorem dL_pressure_1 : decode cL_pressure 1 = .ok (.iconst 0, 1) := by decide +kernel
theorem dL_pressure_2 : decode cL_pressure 2 = .ok (.aload_n 0, 1) := by decide +kernel
theorem dL_pressure_3 : decode cL_pressure 3 = .ok (.iload_n 1, 1) := by decide +kernel
theorem dL_pressure_4 : decode cL_pressure 4 = .ok (.invokevirtual 43, 3) := by decide +kernel
theorem dL_pressure_7 : decode cL_pressure 7 = .ok (.i2l, 1) := by decide +kernel
theorem dL_pressure_8 : decode cL_pressure 8 = .ok (.lastore, 1) := by decide +kernel
theorem dL_pressure_9 : decode cL_pressure 9 = .ok (.goto 6, 3) := by decide +kernel
theorem dL_pressure_12 : decode cL_pressure 12 = .ok (.astore_n 3, 1) := by decide +kernel
theorem dL_pressure_13 : decode cL_pressure 13 = .ok (.iconst 1, 1) := by decide +kernel
theorem dL_pressure_14 : decode cL_pressure 14 = .ok (.ireturn, 1) := by decide +kernel
theorem dL_pressure_15 : decode cL_pressure 15 = .ok (.iconst 0, 1) := by decide +kernel
theorem dL_pressure_16 : decode cL_pressure 16 = .ok (.ireturn, 1) := by decide +kernel
theorem dL_damper_0 : decode cL_damper 0 = .ok (.aload_n 2, 1) := by decide +kernel
theorem dL_damper_1 : decode cL_damper 1 = .ok (.iconst 0, 1) := by decide +kernel
theorem dL_damper_2 : decode cL_damper 2 = .ok (.aload_n 0, 1) := by decide +kernel
theorem dL_damper_3 : decode cL_damper 3 = .ok (.iload_n 1, 1) := by decide +kernel
theorem dL_damper_4 : decode cL_damper 4 = .ok (.invokevirtual 46, 3) := by decide +kernel
theorem dL_damper_7 : decode cL_damper 7 = .ok (.i2l, 1) := by decide +kernel
theorem dL_damper_8 : decode cL_damper 8 = .ok (.lastore, 1) := by decide +kernel
theorem dL_damper_9 : decode cL_damper 9 = .ok (.goto 6, 3) := by decide +kernel
theorem dL_damper_12 : decode cL_damper 12 = .ok (.astore_n 3, 1) := by decide +kernel
theorem dL_damper_13 : decode cL_damper 13 = .ok (.iconst 1, 1) := by decide +kernel
theorem dL_damper_14 : decode cL_damper 14 = .ok (.ireturn, 1) := by decide +kernel
theorem dL_damper_15 : decode cL_damper 15 = .ok (.iconst 0, 1) := by decide +kernel
theorem dL_damper_16 : decode cL_damper 16 = .ok (.ireturn, 1) := by decide +kernel
theorem dL_least_0 : decode cL_least 0 = .ok (.aload_n 2, 1) := by decide +kernel
theorem dL_least_1 : decode cL_least 1 = .ok (.iconst 0, 1) := by decide +kernel
theorem dL_least_2 : decode cL_least 2 = .ok (.aload_n 0, 1) := by decide +kernel
theorem dL_least_3 : decode cL_least 3 = .ok (.iload_n 1, 1) := by decide +kernel
theorem dL_least_4 : decode cL_least 4 = .ok (.invokevirtual 49, 3) := by decide +kernel
theorem dL_least_7 : decode cL_least 7 = .ok (.i2l, 1) := by decide +kernel
theorem dL_least_8 : decode cL_least 8 = .ok (.lastore, 1) := by decide +kernel
theorem dL_least_9 : decode cL_least 9 = .ok (.goto 6, 3) := by decide +kernel
theorem dL_least_12 : decode cL_least 12 = .ok (.astore_n 3, 1) := by decide +kernel
theorem dL_least_13 : decode cL_least 13 = .ok (.iconst 1, 1) := by decide +kernel
theorem dL_least_14 : decode cL_least 14 = .ok (.ireturn, 1) := by decide +kernel
theorem dL_least_15 : decode cL_least 15 = .ok (.iconst 0, 1) := by decide +kernel
theorem dL_least_16 : decode cL_least 16 = .ok (.ireturn, 1) := by decide +kernel
end
section
/-! FRAME: my own rows over the kit's: contracts of three forms, a method's start, its end, a call: one row each. -/
section DkFrame
/-- a contract's start: the cells w, the array classes tys, the heap's size sz -/
def dk_Pre (D : va_G) (tys : List (ClassId × FieldType)) (w : va_W) (sz : Nat) (U : State) : Prop := U.heap.size = sz ∧ va_P D vwCl w U.heap ∧ va_K D vwCl tys U ∧ va_D (fun _ => True) w
/-- a contract's end: the cells w -/
def dk_B (D : va_G) (tys : List (ClassId × FieldType)) (A : Nat → Prop) (w : va_W) (t : State) : Prop := va_P D vwCl w t.heap ∧ va_K D vwCl tys t ∧ va_D A w
/-- a reader's start: the cells w, no more -/
def dk_Rd (D : va_G) (tys : List (ClassId × FieldType)) (w : va_W) (U : State) : Prop := va_P D vwCl w U.heap ∧ va_K D vwCl tys U
/-- the array classes that the worlds hold: of int, and of int[] -/
abbrev dk_T (cI cII : ClassId) : List (ClassId × FieldType) := [(cI, .int), (cII, .array .int)]
/-- CONTRACTS: answers an int and changes its cells; void and changes its cells; answers an int and changes nothing -/
abbrev dk_Mi {S : Type} (l : Launch) (y : MethodName) (ws : List Cond) (rm : Room) (D : va_G) (tys : List (ClassId × FieldType)) (av : List Value) (w : va_W) (sz : Nat) (post : Int32 → S → Prop) (w1 : S → va_W) (mc ms : Nat) : Prop :=
  Met l y ws rm (va_Pc av (dk_Pre D tys w sz)) (va_Qi post (fun u t => dk_B D tys (va_A w sz) (w1 u) t) (va_A w sz)) mc ms (va_A w sz)
abbrev dk_Mv {S : Type} (l : Launch) (y : MethodName) (ws : List Cond) (rm : Room) (D : va_G) (tys : List (ClassId × FieldType)) (av : List Value) (w : va_W) (sz : Nat) (post : S → Prop) (w1 : S → va_W) (mc ms : Nat) : Prop :=
  Met l y ws rm (va_Pc av (dk_Pre D tys w sz)) (va_Qv post (fun u t => dk_B D tys (va_A w sz) (w1 u) t) (va_A w sz)) mc ms (va_A w sz)
abbrev dk_Ri (l : Launch) (y : MethodName) (ws : List Cond) (rm : Room) (D : va_G) (tys : List (ClassId × FieldType)) (av : List Value) (w : va_W) (post : Int32 → Prop) : Prop :=
  Met l y ws rm (va_Pc av (dk_Rd D tys w)) (vp_Si post) 0 0 (fun _ => False)
theorem dk_blind {D : va_G} {tys : List (ClassId × FieldType)} {w : va_W} {sz : Nat} {av : List Value} : FrameBlind (va_Pc av (dk_Pre D tys w sz)) := by
  intro a U g mk q
  obtain ⟨q0, q1, qP, qK, qD⟩ := q
  exact ⟨q0, q1, qP, va_K.moved (u := U) (U := U.calling g mk a) (Vm.Alike.refl U.vm) qK, qD⟩
theorem dk_blindR {D : va_G} {tys : List (ClassId × FieldType)} {w : va_W} {av : List Value} : FrameBlind (va_Pc av (dk_Rd D tys w)) := by
  intro a U g mk q
  obtain ⟨q0, qP, qK⟩ := q
  exact ⟨q0, qP, va_K.moved (u := U) (U := U.calling g mk a) (Vm.Alike.refl U.vm) qK⟩
section R
variable {s : State} {H : Heap} {D : va_G} {tys : List (ClassId × FieldType)} {ws wc : va_W} {A : Nat → Prop}
theorem dk_fm {α : Type} {L : List Nat} {f : Nat → Option α} {r : List α} (h : L.map f = r.map some) : L.filterMap f = r := by
  have h1 : (L.map f).filterMap id = (r.map some).filterMap id := by rw [h]
  simpa [List.filterMap_map] using h1
theorem dk_preS (hK : va_K D vwCl tys s) (hP : va_P D vwCl ws H) (hD : va_D A ws) (isC : List Nat) (h2 : isC.map (fun i => ws[i]?) = wc.map some) (hn : va_nd isC = true) {av : List Value} :
    PreS s H (va_Pc av (dk_Pre D tys wc H.size)) av :=
  ⟨dk_blind, fun U hU hW => ⟨rfl, by rw [hU], by rw [hU]; exact hP.sub isC (dk_fm h2), va_K.moved hW.alike hK, (hD.sub isC hn h2).weaken (fun _ _ _ _ => trivial)⟩⟩
theorem dk_preV {b q0 ci : Nat} {q : vw_C} {fs : List Value} (hK : va_K D vwCl tys s) (hP : va_P D vwCl ws H) (hD : va_D A ws) (isC : List Nat) (h2 : isC.map (fun i => ws[i]?) = wc.map some) (hn : va_nd isC = true)
    (hc : vwCl[ci]? = some q) (he : ws[q0]? = some (b, .inr (ci, fs))) {As : List Value} : PreV s H q.1 b (va_Pc (.ref b :: As) (dk_Pre D tys wc H.size)) As :=
  ⟨dk_blind, va_recv hK hP hc he, fun U hU hW => ⟨rfl, by rw [hU], by rw [hU]; exact hP.sub isC (dk_fm h2), va_K.moved hW.alike hK, (hD.sub isC hn h2).weaken (fun _ _ _ _ => trivial)⟩⟩
theorem dk_preRS (hK : va_K D vwCl tys s) (hP : va_P D vwCl ws H) (isC : List Nat) (h2 : isC.map (fun i => ws[i]?) = wc.map some) {av : List Value} :
    PreS s H (va_Pc av (dk_Rd D tys wc)) av :=
  ⟨dk_blindR, fun U hU hW => ⟨rfl, by rw [hU]; exact hP.sub isC (dk_fm h2), va_K.moved hW.alike hK⟩⟩
theorem dk_preRV {b q0 ci : Nat} {q : vw_C} {fs : List Value} (hK : va_K D vwCl tys s) (hP : va_P D vwCl ws H) (isC : List Nat) (h2 : isC.map (fun i => ws[i]?) = wc.map some)
    (hc : vwCl[ci]? = some q) (he : ws[q0]? = some (b, .inr (ci, fs))) {As : List Value} : PreV s H q.1 b (va_Pc (.ref b :: As) (dk_Rd D tys wc)) As :=
  ⟨dk_blindR, va_recv hK hP hc he, fun U hU hW => ⟨rfl, by rw [hU]; exact hP.sub isC (dk_fm h2), va_K.moved hW.alike hK⟩⟩
end R
section Starts
variable {l : Launch} {y : MethodName} {ws ws' : List Cond} {rm : Room} {D : va_G} {tys : List (ClassId × FieldType)} {w : va_W} {sz mc ms : Nat} {av : List Value} {cc : ByteArray} {maxL : Nat} {ret : Option FieldType}
/-- what a body is given -/
abbrev dk_At (p : Program) (s : State) (m : MethodId) (args : Array Value) (meth : Method) (c : Code) (y : MethodName) (ws : List Cond) (cc : ByteArray) (maxL : Nat) : Prop :=
  p.tables.exec = Jvm.exec ∧ c.code = cc ∧ c.maxLocals = maxL ∧ (∀ w ∈ ws, w.before args s = true) ∧ s.vm.findClass y.cls = some m.cls ∧ meth.name = y.name
theorem dk_ofMi {S : Type} {post : Int32 → S → Prop} {w1 : S → va_W} (hy : plainName y.cls = true) (hw : ws = Cond.code y cc maxL (some .int) :: ws') (hlen : (lg_sl av).length ≤ maxL)
    (body : ∀ (p : Program) (e : Env) (s : State) (m : MethodId) (args : Array Value) (below : List Frame) (meth : Method) (c : Code) (A : Nat → Prop) (ls : Array Slot) (Q : State → Prop), dk_At p s m args meth c y ws cc maxL → s.heap.size = sz →
      va_K D vwCl tys s → va_P D vwCl w s.heap → va_D A w → (∀ q : Nat, s.heap.size ≤ q → A q) → va_S A s.heap s.heap [] → lv_has ls maxL (lv_args 0 av) →
      (∀ (v : Int32) (u : S) (H : Heap) (locs : List Loc) (pc : Nat) (ls : Array Slot), post v u → va_P D vwCl (w1 u) H → va_D A (w1 u) → va_S A s.heap H locs → decode cc pc = .ok (.ireturn, 1) → W p l e rm s m args below meth c H locs mc ms Q (F0 m pc ls [.int v])) →
      W p l e rm s m args below meth c s.heap [] 0 0 Q (F0 m 0 ls [])) :
    dk_Mi l y ws rm D tys av w sz post w1 mc ms := by
  refine Met.ofW (cc := cc) (maxL := maxL) (ret := some .int) hy hw ?_
  intro p e s m args below meth c s₁ B hml hv
  obtain ⟨rfl, hsz, hP, hK, hD0⟩ := hv
  have hl := lv_entry av (n := maxL) hlen
  rw [lg_entry_eq]
  refine body p e s m _ below meth c (va_A w sz) _ _ ⟨B.exec, B.bytes, hml, atoms_spec (ws := ws) B.pre, findClass_of_methodNamed B.named, (name_of_methodNamed B.named B.method).1⟩ hsz hK hP hD0.self (fun q h => Or.inr (by rw [← hsz]; exact h)) va_S.rf hl ?_
  intro v u H locs pc ls hp hP hD hS hdg
  exact W.iret B.exec B.bytes B.returns (fun t ht hW => ⟨⟨v, u, rfl, hp, by rw [ht]; exact hP, va_K.moved hW.alike hK, hD⟩, hS.F ht⟩) hS.2.2 hdg B.notSynchronized
theorem dk_ofMv {S : Type} {post : S → Prop} {w1 : S → va_W} (hy : plainName y.cls = true) (hw : ws = Cond.code y cc maxL none :: ws') (hlen : (lg_sl av).length ≤ maxL)
    (body : ∀ (p : Program) (e : Env) (s : State) (m : MethodId) (args : Array Value) (below : List Frame) (meth : Method) (c : Code) (A : Nat → Prop) (ls : Array Slot) (Q : State → Prop), dk_At p s m args meth c y ws cc maxL → s.heap.size = sz →
      va_K D vwCl tys s → va_P D vwCl w s.heap → va_D A w → (∀ q : Nat, s.heap.size ≤ q → A q) → va_S A s.heap s.heap [] → lv_has ls maxL (lv_args 0 av) →
      (∀ (u : S) (H : Heap) (locs : List Loc) (pc : Nat) (ls : Array Slot), post u → va_P D vwCl (w1 u) H → va_D A (w1 u) → va_S A s.heap H locs → decode cc pc = .ok (.return_, 1) → W p l e rm s m args below meth c H locs mc ms Q (F0 m pc ls [])) →
      W p l e rm s m args below meth c s.heap [] 0 0 Q (F0 m 0 ls [])) :
    dk_Mv l y ws rm D tys av w sz post w1 mc ms := by
  refine Met.ofW (cc := cc) (maxL := maxL) (ret := none) hy hw ?_
  intro p e s m args below meth c s₁ B hml hv
  obtain ⟨rfl, hsz, hP, hK, hD0⟩ := hv
  have hl := lv_entry av (n := maxL) hlen
  rw [lg_entry_eq]
  refine body p e s m _ below meth c (va_A w sz) _ _ ⟨B.exec, B.bytes, hml, atoms_spec (ws := ws) B.pre, findClass_of_methodNamed B.named, (name_of_methodNamed B.named B.method).1⟩ hsz hK hP hD0.self (fun q h => Or.inr (by rw [← hsz]; exact h)) va_S.rf hl ?_
  intro u H locs pc ls hp hP hD hS hdg
  exact W.vret B.exec B.bytes B.returns (fun t ht hW => ⟨⟨u, rfl, hp, by rw [ht]; exact hP, va_K.moved hW.alike hK, hD⟩, hS.F ht⟩) hS.2.2 hdg B.notSynchronized
theorem dk_ofRi {post : Int32 → Prop} (hy : plainName y.cls = true) (hw : ws = Cond.code y cc maxL (some .int) :: ws') (hlen : (lg_sl av).length ≤ maxL)
    (body : ∀ (p : Program) (e : Env) (s : State) (m : MethodId) (args : Array Value) (below : List Frame) (meth : Method) (c : Code) (ls : Array Slot) (Q : State → Prop) (H : Heap), dk_At p s m args meth c y ws cc maxL →
      va_K D vwCl tys s → va_P D vwCl w H → lv_has ls maxL (lv_args 0 av) →
      (∀ (v : Int32) (pc : Nat) (ls : Array Slot), post v → decode cc pc = .ok (.ireturn, 1) → W p l e rm s m args below meth c H [] 0 0 Q (F0 m pc ls [.int v])) →
      W p l e rm s m args below meth c H [] 0 0 Q (F0 m 0 ls [])) :
    dk_Ri l y ws rm D tys av w post := by
  refine Met.ofW (cc := cc) (maxL := maxL) (ret := some .int) hy hw ?_
  intro p e s m args below meth c s₁ B hml hv
  obtain ⟨rfl, hP, hK⟩ := hv
  have hl := lv_entry av (n := maxL) hlen
  rw [lg_entry_eq]
  refine body p e s m _ below meth c _ _ s.heap ⟨B.exec, B.bytes, hml, atoms_spec (ws := ws) B.pre, findClass_of_methodNamed B.named, (name_of_methodNamed B.named B.method).1⟩ hK hP hl ?_
  intro v pc ls hp hdg
  exact W.iret B.exec B.bytes B.returns (fun t ht hW => ⟨v, rfl, hp, ht⟩) (fun _ h => by cases h) hdg B.notSynchronized
/-- a reader that answers a boolean -/
theorem dk_ofRz {post : Int32 → Prop} (hy : plainName y.cls = true) (hw : ws = Cond.code y cc maxL (some .boolean) :: ws') (hlen : (lg_sl av).length ≤ maxL)
    (body : ∀ (p : Program) (e : Env) (s : State) (m : MethodId) (args : Array Value) (below : List Frame) (meth : Method) (c : Code) (ls : Array Slot) (Q : State → Prop) (H : Heap), dk_At p s m args meth c y ws cc maxL →
      va_K D vwCl tys s → va_P D vwCl w H → lv_has ls maxL (lv_args 0 av) →
      (∀ (v : Int32) (pc : Nat) (ls : Array Slot), narrow .boolean (.int v) = .int v → post v → decode cc pc = .ok (.ireturn, 1) → W p l e rm s m args below meth c H [] 0 0 Q (F0 m pc ls [.int v])) →
      W p l e rm s m args below meth c H [] 0 0 Q (F0 m 0 ls [])) :
    dk_Ri l y ws rm D tys av w post := by
  refine Met.ofW (cc := cc) (maxL := maxL) (ret := some .boolean) hy hw ?_
  intro p e s m args below meth c s₁ B hml hv
  obtain ⟨rfl, hP, hK⟩ := hv
  have hl := lv_entry av (n := maxL) hlen
  rw [lg_entry_eq]
  refine body p e s m _ below meth c _ _ s.heap ⟨B.exec, B.bytes, hml, atoms_spec (ws := ws) B.pre, findClass_of_methodNamed B.named, (name_of_methodNamed B.named B.method).1⟩ hK hP hl ?_
  intro v pc ls hn hp hdg
  exact W.zret B.exec B.bytes B.returns hn (fun t ht hW => ⟨v, rfl, hp, ht⟩) (fun _ h => by cases h) hdg B.notSynchronized
end Starts
section Rows
variable {p : Program} {l : Launch} {e : Env} {R : Room} {s : State} {m : MethodId} {args : Array Value} {below : List Frame} {meth : Method} {c : Code} {H H0 : Heap} {locs : List Loc} {cells slots : Nat} {Q : State → Prop}
variable {D : va_G} {tys : List (ClassId × FieldType)} {ws wc wr : va_W} {A A0 : Nat → Prop} {mc ms pc : Nat} {ls : Array Slot} {st0 rest : List Value} {a : Array Value} {S : Type} {w1 : S → va_W} {cc : ByteArray}
theorem dk_calli {post : Int32 → S → Prop} (hr : va_Run p l e R s m args below meth c H locs cells slots mc ms (F0 m pc ls st0) rest (va_Qi post (fun u t => dk_B D tys (va_A wc H.size) (w1 u) t) (va_A wc H.size) a) (va_A wc H.size))
    (hP : va_P D vwCl ws H) (hD : va_D A0 ws) (hS : va_S A0 H0 H locs) (hA : ∀ q, H0.size ≤ q → A0 q) (isC isR : List Nat) (hC : isC.map (fun i => ws[i]?) = wc.map some) (hR : isR.map (fun i => ws[i]?) = wr.map some) (hn : va_nd isR = true) (hdis : ∀ i ∈ isR, i ∉ isC)
    (kk : ∀ (r : Int32) (u : S) (H1 : Heap) (locs1 : List Loc), post r u → va_P D vwCl (wr ++ w1 u) H1 → va_D A0 (wr ++ w1 u) → va_S A0 H0 H1 locs1 → W p l e R s m args below meth c H1 locs1 (cells + mc) (slots + ms) Q (F0 m (pc + 3) ls (.int r :: rest))) :
    W p l e R s m args below meth c H locs cells slots Q (F0 m pc ls st0) := by
  have hF := va_free hD hS hA isC hC
  refine va_calli hr hS (fun q _ h => hF q h) hF (fun r u t H1 locs1 ht hvm hw hB hz hk hS1 => ?_)
  obtain ⟨hP1, hK1, hD1⟩ := hB
  rw [ht] at hP1
  obtain ⟨hP2, hD2⟩ := va_join hP hD isC isR hC hR hn hdis hk hF hP1 hD1
  exact kk r u H1 locs1 hw hP2 hD2 hS1
theorem dk_callv {post : S → Prop} (hr : va_Run p l e R s m args below meth c H locs cells slots mc ms (F0 m pc ls st0) rest (va_Qv post (fun u t => dk_B D tys (va_A wc H.size) (w1 u) t) (va_A wc H.size) a) (va_A wc H.size))
    (hP : va_P D vwCl ws H) (hD : va_D A0 ws) (hS : va_S A0 H0 H locs) (hA : ∀ q, H0.size ≤ q → A0 q) (isC isR : List Nat) (hC : isC.map (fun i => ws[i]?) = wc.map some) (hR : isR.map (fun i => ws[i]?) = wr.map some) (hn : va_nd isR = true) (hdis : ∀ i ∈ isR, i ∉ isC)
    (kk : ∀ (u : S) (H1 : Heap) (locs1 : List Loc), post u → va_P D vwCl (wr ++ w1 u) H1 → va_D A0 (wr ++ w1 u) → va_S A0 H0 H1 locs1 → W p l e R s m args below meth c H1 locs1 (cells + mc) (slots + ms) Q (F0 m (pc + 3) ls rest)) :
    W p l e R s m args below meth c H locs cells slots Q (F0 m pc ls st0) := by
  have hF := va_free hD hS hA isC hC
  refine va_callv hr hS (fun q _ h => hF q h) hF (fun u t H1 locs1 ht hvm hw hB hz hk hS1 => ?_)
  obtain ⟨hP1, hK1, hD1⟩ := hB
  rw [ht] at hP1
  obtain ⟨hP2, hD2⟩ := va_join hP hD isC isR hC hR hn hdis hk hF hP1 hD1
  exact kk u H1 locs1 hw hP2 hD2 hS1
/-- a call that changes nothing and answers an int -/
theorem dk_csi {post : Int32 → Prop} (hr : va_Run p l e R s m args below meth c H locs cells slots 0 0 (F0 m pc ls st0) rest (vp_Si post a) (fun _ => False))
    (kk : ∀ r : Int32, post r → W p l e R s m args below meth c H locs cells slots Q (F0 m (pc + 3) ls (.int r :: rest))) :
    W p l e R s m args below meth c H locs cells slots Q (F0 m pc ls st0) := by
  intro T hT X
  obtain ⟨v, st₀, t, T', L, h0, X', hL, e1, e2, ⟨r, hv, hp, hh⟩, st⟩ := hr T hT X
  cases hv
  have hL0 : L = [] := by
    cases L with
    | nil => rfl
    | cons q L => exact absurd (hL q List.mem_cons_self) id
  subst hL0
  rw [List.append_nil] at X'
  obtain ⟨t2, a1, b1⟩ := kk r hp T' (by rw [e1, hh, h0]) X'
  exact ⟨t2, st t2 a1, b1⟩
theorem dk_iald {q0 t0 n i : Nat} {b : Nat} {cA : ClassId} {f : Nat → Int32} {x : Int32} (hx : p.tables.exec = Jvm.exec) (hb : c.code = cc) (hK : va_K D vwCl tys s) (hP : va_P D vwCl ws H) (ha : ws[q0]? = some (b, .inl (cA, n, .inl f))) (ht : tys[t0]? = some (cA, .int)) (hxi : x = nI i) (hi : i < n) (hn : n < 2 ^ 31) (hdg : decode cc pc = .ok (.iaload, 1))
    (kk : W p l e R s m args below meth c H locs cells slots Q (F0 m (pc + 1) ls (.int (f i) :: rest))) : W p l e R s m args below meth c H locs cells slots Q (F0 m pc ls (.int x :: .ref b :: rest)) := by
  subst hxi
  refine va_iald hx hb hK hP q0 t0 ha ht (vp_in_nI hi hn) hdg ?_
  rw [nI_clamp (by omega)]
  exact kk
theorem dk_iast {q0 t0 n i : Nat} {b : Nat} {cA : ClassId} {f : Nat → Int32} {x v : Int32} (hx : p.tables.exec = Jvm.exec) (hb : c.code = cc) (hK : va_K D vwCl tys s) (hP : va_P D vwCl ws H) (hD : va_D A ws) (hS : va_S A H0 H locs) (ha : ws[q0]? = some (b, .inl (cA, n, .inl f))) (ht : tys[t0]? = some (cA, .int)) (hxi : x = nI i) (hi : i < n) (hn : n < 2 ^ 31) (hdg : decode cc pc = .ok (.iastore, 1))
    (kk : ∀ (H1 : Heap) (locs1 : List Loc), va_P D vwCl (ws.set q0 (b, .inl (cA, n, .inl (upd f i v)))) H1 → va_D A (ws.set q0 (b, .inl (cA, n, .inl (upd f i v)))) → va_S A H0 H1 locs1 → W p l e R s m args below meth c H1 locs1 cells slots Q (F0 m (pc + 1) ls rest)) :
    W p l e R s m args below meth c H locs cells slots Q (F0 m pc ls (.int v :: .int x :: .ref b :: rest)) := by
  subst hxi
  refine va_iast hx hb hK hP hD hS q0 t0 ha ht (vp_in_nI hi hn) hdg ?_
  rw [nI_clamp (by omega)]
  exact kk
theorem dk_aald {q0 t0 n i r : Nat} {b : Nat} {cA : ClassId} {f : Nat → Option Nat} {x : Int32} (hx : p.tables.exec = Jvm.exec) (hb : c.code = cc) (hK : va_K D vwCl tys s) (hP : va_P D vwCl ws H) (ha : ws[q0]? = some (b, .inl (cA, n, .inr (.inr (.inr (.inr f)))))) (ht : tys[t0]? = some (cA, .array .int)) (hxi : x = nI i) (hi : i < n) (hn : n < 2 ^ 31) (hr : f i = some r) (hdg : decode cc pc = .ok (.aaload, 1))
    (kk : W p l e R s m args below meth c H locs cells slots Q (F0 m (pc + 1) ls (.ref r :: rest))) : W p l e R s m args below meth c H locs cells slots Q (F0 m pc ls (.int x :: .ref b :: rest)) := by
  subst hxi
  have hc : (nI i).toNatClampNeg = i := nI_clamp (by omega)
  have hin := vp_in_nI hi hn
  refine W.aald (v := va_rf (f i)) (ty := .array .int) hx hb (hP q0 _ ha) ((hK.2 t0 _ ht).1 n (fun j => va_rf (f j))) rfl (fun q => by cases q) (by show ¬ (nI i < 0 ∨ (arrV _ _ _).slots.size ≤ _); rw [arrV_size]; exact hin) (by show (arrV _ _ _).slots[_]? = _; rw [hc, arrV_read _ _ hi]) rfl rfl hdg ?_
  rw [hr]
  exact kk
theorem dk_m1 {k : Nat} (h : 0 < k) : nI k - 1 = nI (k - 1) := by
  cases k with
  | zero => omega
  | succ k => exact nI_pred k
end Rows
end DkFrame
end
section
/-! MIRROR: what the class's methods compute, in Int32, word for word as the code does; places are Nats -/
section DkMirror
-- Network
def dk_speed (fl ar : Nat → Int32) (i j : Nat) : Int32 := 100 * fl i / ar j
def dk_per (fl ar : Nat → Int32) (i j : Nat) : Int64 := 1000 * (fl i).toInt64 * (fl i).toInt64 / ((ar j).toInt64 * (ar j).toInt64)
def dk_fall (le fi fl ar : Nat → Int32) (i j : Nat) : Int32 :=
  (if 1000000 < (le i).toInt64 * dk_per fl ar i j / 100 then 1000000 else (le i).toInt64 * dk_per fl ar i j / 100).toInt32 + fi i
def dk_allows (fl ar : Nat → Int32) (sp : Int32) (i j : Nat) : Int32 := if sp < dk_speed fl ar i j then 0 else 1
def dk_price (le pr : Nat → Int32) (i j : Nat) : Int32 := le i * pr j
/-- n places from i on are taken from src -/
def dk_cpL (src : Nat → Int32) : Nat → Nat → (Nat → Int32) → (Nat → Int32)
  | 0, _, f => f
  | n + 1, i, f => dk_cpL src n (i + 1) (upd f i (src i))
/-- its second loop: from node n down to 1 -/
def dk_up (fr : Nat → Int32) : Nat → (Nat → Int32) → (Nat → Int32)
  | 0, f => f
  | n + 1, f => dk_up fr n (upd f (fr (n + 1)).toNatClampNeg (f (fr (n + 1)).toNatClampNeg + f (n + 1)))
-- Curve
def dk_takes (cf cp : Nat → Int32) (k : Nat) (f p : Int32) : Int32 :=
  if nI k < 5 then (if nI k = 0 then 1 else if f ≤ cf (k - 1) then 0 else if cp (k - 1) < p then 0 else 1) else 0
def dk_pb (cf cp : Nat → Int32) (i : Nat) (f : Int32) : Int32 :=
  cp (i - 1) - ((cp (i - 1) - cp i) * (f - cf (i - 1)) + (cf i - cf (i - 1)) - 1) / (cf i - cf (i - 1))
/-- the loop of pressureAt: k points are left, the next is i -/
def dk_at (cf cp : Nat → Int32) (f : Int32) : Nat → Nat → Int32
  | 0, _ => 0
  | k + 1, i => if cf i < f then dk_at cf cp f k (i + 1) else dk_pb cf cp i f
def dk_gives (cf cp : Nat → Int32) (k : Nat) (f : Int32) : Int32 := if nI k = 0 then 300 else if cf 0 < f then dk_at cf cp f (k - 1) 1 else cp 0
-- Search
/-- trial sizes, trial pressures, sizes, pressures, found, cost, pressure -/
abbrev dk_SS : Type := (Nat → Int32) × (Nat → Int32) × (Nat → Int32) × (Nat → Int32) × Int32 × Int32 × Int32
def dk_better (en fd co ps p g : Int32) : Int32 := if fd = 0 then 1 else if p + en * g < co then 1 else if p + en * g = co then (if ps ≤ g then 0 else 1) else 0
def dk_keep (d : Nat) (en p g : Int32) (st : dk_SS) : dk_SS := (st.1, st.2.1, dk_cpL st.1 d 1 st.2.2.1, dk_cpL st.2.1 d 1 st.2.2.2.1, 1, p + en * g, g)
/-- n rounds of f from place i on -/
def dk_loop {α : Type} (f : Nat → α → α) : Nat → Nat → α → α
  | 0, _, x => x
  | n + 1, i, x => dk_loop f n (i + 1) (f i x)
def dk_fallAt (le fi fl ar : Nat → Int32) (sp : Int32) (i j : Nat) : Int32 := if dk_allows fl ar sp i j = 0 then (-1) else dk_fall le fi fl ar i j
def dk_updF (F : Nat → Nat → Int32) (i j : Nat) (v : Int32) : Nat → Nat → Int32 := fun a => if a = i then upd (F i) j v else F a
/-- noteFalls, its inner loop: n places from j on of row i; its outer loop: n rows from i on -/
def dk_nc (le fi fl ar : Nat → Int32) (sp : Int32) (i : Nat) : Nat → Nat → (Nat → Nat → Int32) → (Nat → Nat → Int32)
  | 0, _, F => F
  | n + 1, j, F => dk_nc le fi fl ar sp i n (j + 1) (dk_updF F i j (dk_fallAt le fi fl ar sp i j))
def dk_nr (le fi fl ar : Nat → Int32) (sp : Int32) (z : Nat) : Nat → Nat → (Nat → Nat → Int32) → (Nat → Nat → Int32)
  | 0, _, F => F
  | n + 1, i, F => dk_nr le fi fl ar sp z n (i + 1) (dk_nc le fi fl ar sp i z 0 F)
/-- placeSize on duct i with what goes on behind it -/
def dk_step (fr le pr : Nat → Int32) (F : Nat → Nat → Int32) (li en : Int32) (go : Int32 → Int32 → dk_SS → dk_SS) (i : Nat) (p g : Int32) (j : Nat) (st : dk_SS) : dk_SS :=
  if li < (if g < st.2.1 (fr i).toNatClampNeg + F i j then st.2.1 (fr i).toNatClampNeg + F i j else g) then st
  else if dk_better en st.2.2.2.2.1 st.2.2.2.2.2.1 st.2.2.2.2.2.2 (p + dk_price le pr i j) (if g < st.2.1 (fr i).toNatClampNeg + F i j then st.2.1 (fr i).toNatClampNeg + F i j else g) = 0 then st
  else go (p + dk_price le pr i j) (if g < st.2.1 (fr i).toNatClampNeg + F i j then st.2.1 (fr i).toNatClampNeg + F i j else g) (upd st.1 i (nI j), upd st.2.1 i (st.2.1 (fr i).toNatClampNeg + F i j), st.2.2)
/-- what a round of placeFrom does with size j in duct i -/
def dk_try (fr le pr : Nat → Int32) (F : Nat → Nat → Int32) (li en : Int32) (go : Int32 → Int32 → dk_SS → dk_SS) (i : Nat) (p g : Int32) (j : Nat) (st : dk_SS) : dk_SS := if F i j = -1 then st else dk_step fr le pr F li en go i p g j st
/-- placeFrom with k ducts left, duct i the next -/
def dk_place (d z : Nat) (fr le pr : Nat → Int32) (F : Nat → Nat → Int32) (li en : Int32) : Nat → Nat → Int32 → Int32 → dk_SS → dk_SS
  | 0, _, p, g, st => dk_keep d en p g st
  | k + 1, i, p, g, st => dk_loop (dk_try fr le pr F li en (dk_place d z fr le pr F li en k (i + 1)) i p g) z 0 st
/-- firstNodeOfGreatestPressure: k nodes are left, the next is i, the first of the greatest so far is b -/
def dk_first (pa : Nat → Int32) : Nat → Nat → Nat → Nat
  | 0, _, b => b
  | k + 1, i, b => dk_first pa k (i + 1) (if pa i ≤ pa b then b else i)
end DkMirror
def dk_N (cI cII : ClassId) (a : Nat → Nat) (fr : Nat → Int32) (le : Nat → Int32) (fi : Nat → Int32) (ne : Nat → Int32) (fl : Nat → Int32) (du : Int32) (ar : Nat → Int32) (pr : Nat → Int32) (sz : Int32) (sp : Int32) : va_W :=
  [(a 0, .inr (1, [.ref (a 1), .ref (a 2), .ref (a 3), .ref (a 4), .ref (a 5), .int du, .ref (a 6), .ref (a 7), .int sz, .int sp])),
   (a 1, .inl (cI, 7, .inl fr)),
   (a 2, .inl (cI, 7, .inl le)),
   (a 3, .inl (cI, 7, .inl fi)),
   (a 4, .inl (cI, 7, .inl ne)),
   (a 5, .inl (cI, 7, .inl fl)),
   (a 6, .inl (cI, 4, .inl ar)),
   (a 7, .inl (cI, 4, .inl pr))]
def dk_S (cI cII : ClassId) (a : Nat → Nat) (nw : Nat) (F : Nat → Nat → Int32) (ts : Nat → Int32) (tp : Nat → Int32) (li : Int32) (en : Int32) (so : Nat → Int32) (pa : Nat → Int32) (fd : Int32) (co : Int32) (ps : Int32) : va_W :=
  [(a 0, .inr (2, [.ref nw, .ref (a 1), .ref (a 2), .ref (a 3), .int li, .int en, .ref (a 4), .ref (a 5), .int fd, .int co, .int ps])),
   (a 1, .inl (cII, 7, .inr (.inr (.inr (.inr (fun i => if i < 7 then some (a (i + 6)) else none)))))),
   (a 2, .inl (cI, 7, .inl ts)),
   (a 3, .inl (cI, 7, .inl tp)),
   (a 4, .inl (cI, 7, .inl so)),
   (a 5, .inl (cI, 7, .inl pa)),
   (a 6, .inl (cI, 4, .inl (F 0))),
   (a 7, .inl (cI, 4, .inl (F 1))),
   (a 8, .inl (cI, 4, .inl (F 2))),
   (a 9, .inl (cI, 4, .inl (F 3))),
   (a 10, .inl (cI, 4, .inl (F 4))),
   (a 11, .inl (cI, 4, .inl (F 5))),
   (a 12, .inl (cI, 4, .inl (F 6)))]
def dk_X (cI cII : ClassId) (a : Nat → Nat) (nw : Nat) (cv : Nat) (bs : Nat) (ch : Nat) (ep : Int32) (ol : Int32) : va_W :=
  [(a 0, .inr (3, [.ref nw, .ref cv, .ref bs, .ref ch, .int ep, .int ol]))]
def dk_C (cI cII : ClassId) (a : Nat → Nat) (cf : Nat → Int32) (cp : Nat → Int32) (pt : Int32) : va_W :=
  [(a 0, .inr (0, [.ref (a 1), .ref (a 2), .int pt])),
   (a 1, .inl (cI, 5, .inl cf)),
   (a 2, .inl (cI, 5, .inl cp))]
theorem dk_row {cI cII : ClassId} {a : Nat → Nat} {nw : Nat} {F : Nat → Nat → Int32} {ts tp so pa : Nat → Int32} {li en fd co ps : Int32} {i : Nat} (h : i < 7) :
    (dk_S cI cII a nw F ts tp li en so pa fd co ps)[6 + i]? = some (a (i + 6), .inl (cI, 4, .inl (F i))) := by
  match i, h with
  | 0, _ => rfl
  | 1, _ => rfl
  | 2, _ => rfl
  | 3, _ => rfl
  | 4, _ => rfl
  | 5, _ => rfl
  | 6, _ => rfl
theorem dk_rowA {cI cII : ClassId} {a : Nat → Nat} {nw : Nat} {F : Nat → Nat → Int32} {ts tp so pa : Nat → Int32} {li en fd co ps : Int32} {w : va_W} {i : Nat} (h : i < 7) :
    (dk_S cI cII a nw F ts tp li en so pa fd co ps ++ w)[6 + i]? = some (a (i + 6), .inl (cI, 4, .inl (F i))) := by
  rw [List.getElem?_append_left (by show 6 + i < 13; omega)]
  exact dk_row h
theorem dk_rowSet {cI cII : ClassId} {a : Nat → Nat} {nw : Nat} {F : Nat → Nat → Int32} {ts tp so pa : Nat → Int32} {li en fd co ps : Int32} {i j : Nat} {v : Int32} (h : i < 7) :
    (dk_S cI cII a nw F ts tp li en so pa fd co ps).set (6 + i) (a (i + 6), .inl (cI, 4, .inl (upd (F i) j v))) = dk_S cI cII a nw (dk_updF F i j v) ts tp li en so pa fd co ps := by
  match i, h with
  | 0, _ => rfl
  | 1, _ => rfl
  | 2, _ => rfl
  | 3, _ => rfl
  | 4, _ => rfl
  | 5, _ => rfl
  | 6, _ => rfl
theorem dk_rowSetA {cI cII : ClassId} {a : Nat → Nat} {nw : Nat} {F : Nat → Nat → Int32} {ts tp so pa : Nat → Int32} {li en fd co ps : Int32} {w : va_W} {i j : Nat} {v : Int32} (h : i < 7) :
    (dk_S cI cII a nw F ts tp li en so pa fd co ps ++ w).set (6 + i) (a (i + 6), .inl (cI, 4, .inl (upd (F i) j v))) = dk_S cI cII a nw (dk_updF F i j v) ts tp li en so pa fd co ps ++ w := by
  rw [List.set_append_left _ _ (by show 6 + i < 13; omega), dk_rowSet h]
/-- a search's cells, its seven changing values as one -/
abbrev dk_SW (cI cII : ClassId) (a : Nat → Nat) (nw : Nat) (F : Nat → Nat → Int32) (li en : Int32) (st : dk_SS) : va_W := dk_S cI cII a nw F st.1 st.2.1 li en st.2.2.1 st.2.2.2.1 st.2.2.2.2.1 st.2.2.2.2.2.1 st.2.2.2.2.2.2
/-- the addresses of a search's cells: its own, its arrays', its rows' -/
def dk_adr (h0 q1 q2 q3 q4 q5 : Nat) (r : Nat → Nat) : Nat → Nat
  | 0 => h0
  | 1 => q1
  | 2 => q2
  | 3 => q3
  | 4 => q4
  | 5 => q5
  | k + 6 => r k
end
section
/-! FACE: what the public methods answer: 0 and a value, 1 an illegal argument, 2 an illegal state -/
section DkFace
def dk_px (K : Int32) (E : String) : Prop := (E = "java/lang/IllegalArgumentException" ∧ K = 1) ∨ (E = "java/lang/IllegalStateException" ∧ K = 2)
def dk_kDuct (d : Nat) (a b c : Int32) : Int32 := if a < 0 ∨ nI d < a then 1 else if b < 1 ∨ 100 < b then 1 else if c < 0 ∨ 50 < c then 1 else if nI d < 6 then 0 else 2
def dk_kNeed (d : Nat) (a b : Int32) : Int32 := if a < 1 ∨ nI d < a then 1 else if b < 0 ∨ 1000 < b then 1 else 0
def dk_kSize (z : Nat) (a b : Int32) : Int32 := if a < 1 ∨ 1000 < a then 1 else if b < 1 ∨ 1000 < b then 1 else if nI z < 4 then 0 else 2
def dk_kSpeed (a : Int32) : Int32 := if a < 1 ∨ 100000 < a then 1 else 0
def dk_kEnergy (a : Int32) : Int32 := if a < 0 ∨ 1000 < a then 1 else 0
def dk_kSet (a b : Int32) : Int32 := if a < 0 ∨ 1 < a then 1 else if a = 0 then dk_kSpeed b else dk_kEnergy b
def dk_kFan (cf cp : Nat → Int32) (k : Nat) (a b : Int32) : Int32 := if a < 0 ∨ 10000 < a then 1 else if b < 0 ∨ 300 < b then 1 else if dk_takes cf cp k a b = 0 then 2 else 0
def dk_kIn (lo : Int32) (d : Nat) (a : Int32) : Int32 := if a < lo ∨ nI d < a then 1 else 0
def dk_kTold (d z : Nat) (a b c : Int32) : Int32 := if a < 1 ∨ nI d < a then 1 else if b < 0 ∨ nI z - 1 < b then 1 else if c < 0 ∨ 1 < c then 1 else 0
def dk_kBest (a : Int32) : Int32 := if a < 0 ∨ 1 < a then 1 else 0
def dk_kLeast (a : Int32) : Int32 := if a < 0 ∨ 300 < a then 1 else 0
/-- the best choice's search behind bestChoice: its falls, its limit, its price of energy, its seven values -/
def dk_bF (ol : Int32) (d z : Nat) (le fi fl ar : Nat → Int32) (sp : Int32) (F : Nat → Nat → Int32) : Nat → Nat → Int32 := if ol = 0 then F else dk_nr le fi fl ar sp z d 1 F
def dk_bL (ol : Int32) (cf cp : Nat → Int32) (k : Nat) (fl : Nat → Int32) (li : Int32) : Int32 := if ol = 0 then li else dk_gives cf cp k (fl 0)
def dk_bE (ol ep en : Int32) : Int32 := if ol = 0 then en else ep
def dk_bS (ol : Int32) (d z : Nat) (fr le fi fl ar pr : Nat → Int32) (sp : Int32) (cf cp : Nat → Int32) (k : Nat) (ep : Int32) (F : Nat → Nat → Int32) (st : dk_SS) : dk_SS :=
  if ol = 0 then st else dk_place d z fr le pr (dk_nr le fi fl ar sp z d 1 F) (dk_gives cf cp k (fl 0)) ep d 1 0 0 (st.1, st.2.1, st.2.2.1, st.2.2.2.1, 0, st.2.2.2.2.2.1, st.2.2.2.2.2.2)
theorem dk_of1 {x : Int32} {z : Nat} (h : ¬ (x < 0 ∨ nI z - 1 < x)) (hz : z < 2 ^ 31) : ∃ j, j < z ∧ x = nI j := by
  have h1 : ¬ x < 0 := fun q => h (Or.inl q)
  cases z with
  | zero =>
    refine absurd ?_ (fun q => h (Or.inr q))
    have h3 : (0 : Int32) ≤ x := Int32.not_lt.mp h1
    exact Int32.lt_of_lt_of_le (by decide) h3
  | succ z =>
    obtain ⟨j, hj, rfl⟩ := nI_of h1
    refine ⟨j, ?_, rfl⟩
    rcases Nat.lt_or_ge z j with q | q
    · exact absurd (Or.inr (by rw [nI_pred]; exact nI_lt q hj)) h
    · omega
end DkFace
theorem dk_takesLt {cf cp : Nat → Int32} {k : Nat} {a b : Int32} (hk : k ≤ 5) (h : ¬ dk_takes cf cp k a b = 0) : k < 5 := by
  rcases Nat.lt_or_ge k 5 with q | q
  · exact q
  · have e : k = 5 := by omega
    subst e
    refine absurd ?_ h
    unfold dk_takes
    rw [if_neg (by decide)]
end
section
/-! NEW: constructors' contracts, arrays that are made -/
section DkNew
/-- a constructor: void, makes and changes cells; Ex: what else the tables must say -/
abbrev dk_Iv {S : Type} (l : Launch) (y : MethodName) (ws : List Cond) (rm : Room) (D : va_G) (tys : List (ClassId × FieldType)) (av : List Value) (w : va_W) (sz : Nat) (Ex : State → Prop) (post : S → Prop) (w1 : S → va_W) (mc ms : Nat) : Prop :=
  Met l y ws rm (va_Pc av (fun U => dk_Pre D tys w sz U ∧ Ex U)) (va_Qv post (fun u t => dk_B D tys (va_A w sz) (w1 u) t) (va_A w sz)) mc ms (va_A w sz)
theorem dk_ofIv {l : Launch} {y : MethodName} {ws ws' : List Cond} {rm : Room} {D : va_G} {tys : List (ClassId × FieldType)} {w : va_W} {sz mc ms : Nat} {av : List Value} {cc : ByteArray} {maxL : Nat} {Ex : State → Prop} {S : Type} {post : S → Prop} {w1 : S → va_W} (hy : plainName y.cls = true) (hw : ws = Cond.code y cc maxL none :: ws') (hlen : (lg_sl av).length ≤ maxL)
    (body : ∀ (p : Program) (e : Env) (s : State) (m : MethodId) (args : Array Value) (below : List Frame) (meth : Method) (c : Code) (A : Nat → Prop) (ls : Array Slot) (Q : State → Prop), dk_At p s m args meth c y ws cc maxL → s.heap.size = sz →
      va_K D vwCl tys s → va_P D vwCl w s.heap → va_D A w → (∀ q : Nat, s.heap.size ≤ q → A q) → va_S A s.heap s.heap [] → lv_has ls maxL (lv_args 0 av) → Ex s →
      (∀ (u : S) (H : Heap) (locs : List Loc) (pc : Nat) (ls : Array Slot), post u → va_P D vwCl (w1 u) H → va_D A (w1 u) → va_S A s.heap H locs → decode cc pc = .ok (.return_, 1) → W p l e rm s m args below meth c H locs mc ms Q (F0 m pc ls [])) →
      W p l e rm s m args below meth c s.heap [] 0 0 Q (F0 m 0 ls [])) :
    dk_Iv l y ws rm D tys av w sz Ex post w1 mc ms := by
  refine Met.ofW (cc := cc) (maxL := maxL) (ret := none) hy hw ?_
  intro p e s m args below meth c s₁ B hml hv
  obtain ⟨rfl, ⟨hsz, hP, hK, hD0⟩, hE⟩ := hv
  have hl := lv_entry av (n := maxL) hlen
  rw [lg_entry_eq]
  refine body p e s m _ below meth c (va_A w sz) _ _ ⟨B.exec, B.bytes, hml, atoms_spec (ws := ws) B.pre, findClass_of_methodNamed B.named, (name_of_methodNamed B.named B.method).1⟩ hsz hK hP hD0.self (fun q h => Or.inr (by rw [← hsz]; exact h)) va_S.rf hl hE ?_
  intro u H locs pc ls hp hP hD hS hdg
  exact W.vret B.exec B.bytes B.returns (fun t ht hW => ⟨⟨u, rfl, hp, by rw [ht]; exact hP, va_K.moved hW.alike hK, hD⟩, hS.F ht⟩) hS.2.2 hdg B.notSynchronized
theorem dk_preI {s : State} {H : Heap} {D : va_G} {tys : List (ClassId × FieldType)} {ws wc : va_W} {A : Nat → Prop} {Ex : State → Prop} (hK : va_K D vwCl tys s) (hP : va_P D vwCl ws H) (hD : va_D A ws) (isC : List Nat) (h2 : isC.map (fun i => ws[i]?) = wc.map some) (hn : va_nd isC = true) (hE : ∀ U : State, s.WarmedH U.vm → Ex U) (hB : ∀ (U : State) (g : JFrame) (mk : MethodId) (a : Array Value), Ex U → Ex (U.calling g mk a)) {av : List Value} :
    PreS s H (va_Pc av (fun U => dk_Pre D tys wc H.size U ∧ Ex U)) av := by
  refine ⟨?_, fun U hU hW => ⟨rfl, ⟨by rw [hU], by rw [hU]; exact hP.sub isC (dk_fm h2), va_K.moved hW.alike hK, (hD.sub isC hn h2).weaken (fun _ _ _ _ => trivial)⟩, hE U hW⟩⟩
  intro a U g mk q
  obtain ⟨q0, ⟨q1, qP, qK, qD⟩, qE⟩ := q
  exact ⟨q0, ⟨q1, qP, va_K.moved (u := U) (U := U.calling g mk a) (Vm.Alike.refl U.vm) qK, qD⟩, hB U g mk a qE⟩
/-- the class of int[][] stays where the tables only warm -/
theorem dk_aoaMoved {t : FieldType} {u U : State} (hvm : u.vm.Alike U.vm) (h : va_AOA t u) : va_AOA t U := by
  obtain ⟨comp, c, k, h1, h2, h3, h4, h5⟩ := arrayOverA_spec h
  obtain ⟨k', hk', he⟩ := hvm.2.2 _ _ h3
  have hi : (U.vm.classes.findIdx? fun (x : Class) => match x.kind with | .array component _ => component == comp | _ => false) = some c := by
    refine (va_idx_bare U.vm comp).symm.trans ?_
    first | rw [hvm.bare_eq] | rw [← hvm.bare_eq]
    exact (va_idx_bare u.vm comp).trans h2
  have hkind : k'.kind = .array comp (.array t) := by rw [he]; exact h4
  have f1 : U.vm.findClass (FieldType.array t).toString = some comp := by rw [hvm.findClass]; exact h1
  have f2 : U.vm.findClass ("[" ++ (FieldType.array t).toString) = some c := by rw [hvm.findClass]; exact h5
  unfold va_AOA Cond.before Cond.holds
  simp only [Cond.value]
  rw [f1, Option.bind_some]
  refine (congrArg (fun o : Option Nat => (o.bind (fun c => (U.vm.classes[c]?).map fun (k : Class) => match k.kind with | .array _ ty => decide (ty = FieldType.array t) && decide (U.vm.findClass ("[" ++ (FieldType.array t).toString) = some c) | _ => false) == some true)) hi).trans ?_
  simp [hk', hkind, f2]
section Rows
variable {p : Program} {l : Launch} {e : Env} {R : Room} {s : State} {m : MethodId} {args : Array Value} {below : List Frame} {meth : Method} {c : Code} {H H0 : Heap} {locs : List Loc} {cells slots : Nat} {Q : State → Prop}
variable {D : va_G} {cI cII : ClassId} {ws : va_W} {A : Nat → Prop} {pc : Nat} {ls : Array Slot} {rest : List Value} {cc : ByteArray}
/-- new int[n] -/
theorem dk_newa {n : Int32} {N : Nat} (hx : p.tables.exec = Jvm.exec) (hb : c.code = cc) (harr : (Cond.arrayClass .int).before args s = true) (hK : va_K D vwCl (dk_T cI cII) s) (hP : va_P D vwCl ws H) (hD : va_D A ws) (hS : va_S A H0 H locs) (hA : ∀ q, H0.size ≤ q → A q) (hn : ¬ n < 0) (hN : n.toNatClampNeg = N) (hbytes : N * 4 ≤ 536870912) (hcells : cells + 1 ≤ R.cells) (hslots : slots + N ≤ R.slots) (hdg : decode cc pc = .ok (.newarray .int, 2))
    (kk : ∀ (q : Nat) (H1 : Heap), va_P D vwCl (ws ++ [(q, .inl (cI, N, .inl (fun _ => 0)))]) H1 → va_D A (ws ++ [(q, .inl (cI, N, .inl (fun _ => 0)))]) → va_S A H0 H1 locs → W p l e R s m args below meth c H1 locs (cells + 1) (slots + N) Q (F0 m (pc + 2) ls (.ref q :: rest))) :
    W p l e R s m args below meth c H locs cells slots Q (F0 m pc ls (.int n :: rest)) := by
  refine va_newa (atype := .int) (ty := .int) (a0 := (N, .inl (fun _ => 0))) hx hb harr rfl hK hP hD hS hA (fun cA => rfl) hn hN hbytes hcells hslots hdg ?_
  intro q cA H1 hK1 hP1 hD1 hS1
  have h1 : s.vm.findClass ("[" ++ FieldType.int.toString) = some cI := (hK.2 0 _ rfl).2
  have h2 : s.vm.findClass ("[" ++ FieldType.int.toString) = some cA := (hK1.2 2 _ rfl).2
  cases Option.some.inj (h1.symm.trans h2)
  exact kk q H1 hP1 hD1 hS1
/-- new int[n][k] -/
theorem dk_mna {n k : Int32} {own : String} {index : Nat} (hx : p.tables.exec = Jvm.exec) (hb : c.code = cc) (hown : s.vm.findClass own = some m.cls) (hclink : (Cond.classLink own index "[[I").before args s = true) (hover : va_AOA .int s) (harr : (Cond.arrayClass .int).before args s = true) (hK : va_K D vwCl (dk_T cI cII) s) (hP : va_P D vwCl ws H) (hD : va_D A ws) (hS : va_S A H0 H locs) (hA : ∀ q, H0.size ≤ q → A q) (hn : n = 7) (hk : k = 4)
    (hcells : cells + 8 ≤ R.cells) (hslots : slots + 35 ≤ R.slots) (hdg : decode cc pc = .ok (.multianewarray index 2, 4))
    (kk : ∀ (q : Nat) (r : Nat → Nat) (H1 : Heap), va_P D vwCl ((ws ++ [(q, .inl (cII, 7, .inr (.inr (.inr (.inr (fun i => if i < 7 then some (r i) else none))))))]) ++ [(r 0, .inl (cI, 4, .inl (fun _ => 0))), (r 1, .inl (cI, 4, .inl (fun _ => 0))), (r 2, .inl (cI, 4, .inl (fun _ => 0))), (r 3, .inl (cI, 4, .inl (fun _ => 0))), (r 4, .inl (cI, 4, .inl (fun _ => 0))), (r 5, .inl (cI, 4, .inl (fun _ => 0))), (r 6, .inl (cI, 4, .inl (fun _ => 0)))]) H1 →
      va_D A ((ws ++ [(q, .inl (cII, 7, .inr (.inr (.inr (.inr (fun i => if i < 7 then some (r i) else none))))))]) ++ [(r 0, .inl (cI, 4, .inl (fun _ => 0))), (r 1, .inl (cI, 4, .inl (fun _ => 0))), (r 2, .inl (cI, 4, .inl (fun _ => 0))), (r 3, .inl (cI, 4, .inl (fun _ => 0))), (r 4, .inl (cI, 4, .inl (fun _ => 0))), (r 5, .inl (cI, 4, .inl (fun _ => 0))), (r 6, .inl (cI, 4, .inl (fun _ => 0)))]) →
      va_S A H0 H1 locs → W p l e R s m args below meth c H1 locs (cells + 8) (slots + 35) Q (F0 m (pc + 4) ls (.ref q :: rest))) :
    W p l e R s m args below meth c H locs cells slots Q (F0 m pc ls (.int k :: .int n :: rest)) := by
  subst hn
  subst hk
  have e0 : ws = ws ++ va_pl [] (fun _ => (.inl (cI, 4, .inl (fun _ => 0)) : va_E)) := (List.append_nil ws).symm
  rw [e0] at hP hD
  refine va_mna (N' := 7) (K' := 4) (ty := .int) (cy := cI) (z := (4, .inl (fun _ => 0))) hx hb hown hclink hover harr (hK.2 0 _ rfl).2 hK hP hD hS hA (by decide) (by decide) (by decide) (by decide) (by decide) (by decide) (by decide) (by decide) (by decide) hcells hslots ?_ hdg ?_
  · intro c0
    rfl
  · intro q r cA H1 hinj hni hK1 hP1 hD1 hS1
    have h1 : s.vm.findClass ("[" ++ (FieldType.array .int).toString) = some cII := (hK.2 1 _ rfl).2
    have h2 : s.vm.findClass ("[" ++ (FieldType.array .int).toString) = some cA := (hK1.2 2 _ rfl).2
    cases Option.some.inj (h1.symm.trans h2)
    have e1 : ∀ f : Nat → va_E, va_pl ([] ++ (List.range 7).map r) (vr_up f ((List.range 7).map r) (.inl (cI, 4, .inl (fun _ => 0)))) = [(r 0, .inl (cI, 4, .inl (fun _ => 0))), (r 1, .inl (cI, 4, .inl (fun _ => 0))), (r 2, .inl (cI, 4, .inl (fun _ => 0))), (r 3, .inl (cI, 4, .inl (fun _ => 0))), (r 4, .inl (cI, 4, .inl (fun _ => 0))), (r 5, .inl (cI, 4, .inl (fun _ => 0))), (r 6, .inl (cI, 4, .inl (fun _ => 0)))] := by
      intro f
      have e2 : va_pl ([] ++ (List.range 7).map r) (vr_up f ((List.range 7).map r) (.inl (cI, 4, .inl (fun _ => 0)))) = (List.range 7).map (fun i => (r i, (.inl (cI, 4, .inl (fun _ => 0)) : va_E))) := by
        unfold va_pl
        rw [List.nil_append, List.map_map]
        apply List.map_congr_left
        intro i hi
        show (r i, vr_up f ((List.range 7).map r) _ (r i)) = _
        rw [vr_up_in (List.mem_map_of_mem hi)]
      rw [e2]
      rfl
    rw [e1] at hP1 hD1
    exact kk q r H1 hP1 hD1 hS1
end Rows
end DkNew
end
section
/-- the texts of the exceptions, by their places -/
def dk_strs : List (Nat × String) := [(133, "a number is out of its bounds"), (52, "there are all the ducts that there can be"), (68, "there are all the sizes that there can be"), (84, "the fan can not have this point behind its others")]
/-! EXC: methods that throw; a reference that is answered -/
section DkExc
abbrev dk_IAE : String := "java/lang/IllegalArgumentException"
abbrev dk_ISE : String := "java/lang/IllegalStateException"
abbrev dk_ups : List String := ["java/lang/RuntimeException", "java/lang/Exception"]
/-- the words of a throw that aren't good for every state by themselves -/
def dk_badA : List Cond := [.castable dk_IAE dk_IAE, .declares ⟨"java/lang/RuntimeException", "<init>", "(Ljava/lang/String;)V"⟩, .declares ⟨"java/lang/Exception", "<init>", "(Ljava/lang/String;)V"⟩, .declares ⟨"java/lang/Throwable", "<init>", "(Ljava/lang/String;)V"⟩]
def dk_badS : List Cond := [.castable dk_ISE dk_ISE, .declares ⟨"java/lang/RuntimeException", "<init>", "(Ljava/lang/String;)V"⟩, .declares ⟨"java/lang/Exception", "<init>", "(Ljava/lang/String;)V"⟩, .declares ⟨"java/lang/Throwable", "<init>", "(Ljava/lang/String;)V"⟩]
/-- what a throw needs of the start: two statics of Throwable's, the texts, the words above -/
def dk_E (A : Nat → Prop) (U : State) : Prop := vx_Zq Bundle.tN "UNASSIGNED_STACK" Bundle.steD A U U.heap ∧ vx_Zq Bundle.tN "SUPPRESSED_SENTINEL" Bundle.listD A U U.heap ∧ (∀ q ∈ dk_strs, ∃ a, vk_R RX3 q.1 q.2 a U) ∧ ∀ w ∈ dk_badA ++ dk_badS, va_Nw w U
theorem dk_E.call {A B : Nat → Prop} {s : State} {H : Heap} {locs : List Loc} (h : dk_E A s) (hS : va_S A s.heap H locs) (hAB : ∀ q, B q → A q) (U : State) (hU : U.heap = H) (hW : s.WarmedH U.vm) : dk_E B U := by
  obtain ⟨h1, h2, h3, h4⟩ := h
  refine ⟨?_, ?_, fun q hq => ?_, fun w hw => ?_⟩
  · rw [hU]
    exact ((h1.kept hS.2.1).moved hW.alike).narrow hAB
  · rw [hU]
    exact ((h2.kept hS.2.1).moved hW.alike).narrow hAB
  · obtain ⟨a, ha⟩ := h3 q hq
    exact ⟨a, vk_R.warm hW ha⟩
  · have h9 := h4 w hw
    simp only [dk_badA, dk_badS, List.cons_append, List.nil_append, List.mem_cons, List.not_mem_nil, or_false] at hw
    rcases hw with rfl | rfl | rfl | rfl | rfl | rfl | rfl | rfl
    · exact va_Nw.warmC hW h9
    · exact va_Nw.warmD hW h9
    · exact va_Nw.warmD hW h9
    · exact va_Nw.warmD hW h9
    · exact va_Nw.warmC hW h9
    · exact va_Nw.warmD hW h9
    · exact va_Nw.warmD hW h9
    · exact va_Nw.warmD hW h9
theorem dk_E.blind {A : Nat → Prop} {U : State} {g : JFrame} {mk : MethodId} {a : Array Value} (h : dk_E A U) : dk_E A (U.calling g mk a) := by
  obtain ⟨h1, h2, h3, h4⟩ := h
  refine ⟨h1.moved (Vm.Alike.refl U.vm), h2.moved (Vm.Alike.refl U.vm), fun q hq => ?_, fun w hw => ?_⟩
  · obtain ⟨b, hb⟩ := h3 q hq
    exact ⟨b, vk_R.same (u := U) rfl hb⟩
  · have h9 := h4 w hw
    have ho : w.onTables = true := by
      simp only [dk_badA, dk_badS, List.cons_append, List.nil_append, List.mem_cons, List.not_mem_nil, or_false] at hw
      rcases hw with rfl | rfl | rfl | rfl | rfl | rfl | rfl | rfl <;> rfl
    exact va_tabs ho (rfl : U.vm = (U.calling g mk a).vm) h9
/-- demand: either the number lies in its bounds and nothing happens, or it throws and no cell that was there changes -/
def dk_Qd (n lo hi : Int32) : Array Value → State → Outcome → State → Prop := fun _ st o t => o = .returned none ∧ ¬ (n < lo ∨ hi < n) ∧ t.heap = st.heap
def dk_Xd (n lo hi : Int32) : String → State → State → Prop := fun E st t => E = dk_IAE ∧ (n < lo ∨ hi < n) ∧ st.heap.size ≤ t.heap.size ∧ ∀ q : Nat, q < st.heap.size → t.heap[q]? = st.heap[q]?
abbrev dk_Dem (l : Launch) (y : MethodName) (ws : List Cond) (rm : Room) (n lo hi : Int32) : Prop :=
  vx_Met l y ws rm (va_Pc [.int n, .int lo, .int hi] (fun U => dk_E (fun q => U.heap.size ≤ q) U)) (dk_Qd n lo hi) (dk_Xd n lo hi) 1 6 (fun _ => False)
/-- CONTRACT of a method that answers an int or throws; thrown: nothing has changed -/
abbrev dk_Xi {S : Type} (l : Launch) (y : MethodName) (ws : List Cond) (rm : Room) (D : va_G) (tys : List (ClassId × FieldType)) (av : List Value) (w : va_W) (sz : Nat) (post : Int32 → S → Prop) (w1 : S → va_W) (px : String → Prop) (mc ms : Nat) : Prop :=
  vx_Met l y ws rm (va_Pc av (fun U => dk_Pre D tys w sz U ∧ dk_E (va_A w sz) U)) (va_Qi post (fun u t => dk_B D tys (va_A w sz) (w1 u) t) (va_A w sz)) (vx_X px (fun E u t => E = u ∧ dk_B D tys (va_A w sz) w t) (va_A w sz)) mc ms (va_A w sz)
section Starts
variable {l : Launch} {y : MethodName} {ws ws' : List Cond} {rm : Room} {D : va_G} {tys : List (ClassId × FieldType)} {w : va_W} {sz mc ms : Nat} {av : List Value} {cc : ByteArray} {maxL : Nat}
theorem dk_ofXi {S : Type} {post : Int32 → S → Prop} {w1 : S → va_W} {px : String → Prop} (hy : plainName y.cls = true) (hw : ws = Cond.code y cc maxL (some .int) :: ws') (hlen : (lg_sl av).length ≤ maxL)
    (body : ∀ (p : Program) (e : Env) (s : State) (m : MethodId) (args : Array Value) (below : List Frame) (meth : Method) (c : Code) (A : Nat → Prop) (ls : Array Slot) (Q : State → Prop), dk_At p s m args meth c y ws cc maxL → meth.locks = false → (∀ x ∈ c.exceptionTable.toList, False) → s.heap.size = sz →
      va_K D vwCl tys s → va_P D vwCl w s.heap → va_D A w → (∀ q : Nat, s.heap.size ≤ q → A q) → va_S A s.heap s.heap [] → lv_has ls maxL (lv_args 0 av) → dk_E A s →
      Q = vx_MQ below (va_Qi post (fun u t => dk_B D tys A (w1 u) t) A) (vx_X px (fun E u t => E = u ∧ dk_B D tys A w t) A) args s mc ms A →
      (∀ (v : Int32) (u : S) (H : Heap) (locs : List Loc) (pc : Nat) (ls : Array Slot), post v u → va_P D vwCl (w1 u) H → va_D A (w1 u) → va_S A s.heap H locs → decode cc pc = .ok (.ireturn, 1) → W p l e rm s m args below meth c H locs mc ms Q (F0 m pc ls [.int v])) →
      (∀ (E : String) (ce : Cell) (q : Addr) (H : Heap) (locs : List Loc) (cells slots pc : Nat) (ls : Array Slot) (rest : List Value), px E → va_P D vwCl w H → va_D A w → va_S A s.heap H locs → H[q]? = some ce → ce.vm = .none → s.vm.findClass E = some ce.cls → cells ≤ mc → slots ≤ ms → vx_W p l e rm s m args below meth c H locs cells slots Q (F0 m pc ls rest) q) →
      W p l e rm s m args below meth c s.heap [] 0 0 Q (F0 m 0 ls [])) :
    dk_Xi l y ws rm D tys av w sz post w1 px mc ms := by
  refine vx_ofW (cc := cc) (maxL := maxL) (ret := some .int) hy hw ?_
  intro p e s m args below meth c s₁ B hml hno hv
  obtain ⟨rfl, ⟨hsz, hP, hK, hD0⟩, hE⟩ := hv
  have hl := lv_entry av (n := maxL) hlen
  rw [lg_entry_eq]
  refine body p e s m _ below meth c (va_A w sz) _ _ ⟨B.exec, B.bytes, hml, atoms_spec (ws := ws) B.pre, findClass_of_methodNamed B.named, (name_of_methodNamed B.named B.method).1⟩ B.notSynchronized hno hsz hK hP hD0.self (fun q h => Or.inr (by rw [← hsz]; exact h)) va_S.rf hl hE rfl ?_ ?_
  · intro v u H locs pc ls hp hP hD hS hdg
    exact vx_ret (W.iret B.exec B.bytes B.returns (fun t ht hW => ⟨⟨v, u, rfl, hp, by rw [ht]; exact hP, va_K.moved hW.alike hK, hD⟩, hS.F ht⟩) hS.2.2 hdg B.notSynchronized)
  · intro E ce q H locs cells slots pc ls rest hp hP hD hS h1 h2 h3 hc hs
    exact vx_out (fun x hx => (hno x hx).elim) B.notSynchronized h1 h2 h3 (fun t ht ha => ⟨E, hp, ⟨rfl, by rw [ht]; exact hP, va_K.moved ha hK, hD⟩, hS.F ht⟩) hS.2.2 hc hs
theorem dk_ofD {n lo hi : Int32} (hy : plainName y.cls = true) (hw : ws = Cond.code y cc 3 none :: ws')
    (body : ∀ (p : Program) (e : Env) (s : State) (m : MethodId) (args : Array Value) (below : List Frame) (meth : Method) (c : Code) (ls : Array Slot) (Q : State → Prop), dk_At p s m args meth c y ws cc 3 → meth.locks = false → (∀ x ∈ c.exceptionTable.toList, False) → lv_has ls 3 (lv_args 0 [.int n, .int lo, .int hi]) → dk_E (fun q => s.heap.size ≤ q) s →
      Q = vx_MQ below (dk_Qd n lo hi) (dk_Xd n lo hi) args s 1 6 (fun _ => False) →
      (∀ (pc : Nat) (ls : Array Slot), ¬ (n < lo ∨ hi < n) → decode cc pc = .ok (.return_, 1) → W p l e rm s m args below meth c s.heap [] 1 6 Q (F0 m pc ls [])) →
      W p l e rm s m args below meth c s.heap [] 0 0 Q (F0 m 0 ls [])) :
    dk_Dem l y ws rm n lo hi := by
  refine vx_ofW (cc := cc) (maxL := 3) (ret := none) hy hw ?_
  intro p e s m args below meth c s₁ B hml hno hv
  obtain ⟨rfl, hE⟩ := hv
  have hl := lv_entry [.int n, .int lo, .int hi] (n := 3) (Nat.le_of_ble_eq_true rfl)
  rw [lg_entry_eq]
  refine body p e s m _ below meth c _ _ ⟨B.exec, B.bytes, hml, atoms_spec (ws := ws) B.pre, findClass_of_methodNamed B.named, (name_of_methodNamed B.named B.method).1⟩ B.notSynchronized hno hl hE rfl ?_
  intro pc ls hp hdg
  exact vx_ret (W.vret B.exec B.bytes B.returns (fun t ht hW => ⟨rfl, hp, ht⟩) (fun _ h => by cases h) hdg B.notSynchronized)
end Starts
section Rows
variable {p : Program} {l : Launch} {e : Env} {R : Room} {s : State} {m : MethodId} {args : Array Value} {below : List Frame} {meth : Method} {c : Code} {H : Heap} {locs : List Loc} {cells slots : Nat} {Q : State → Prop}
variable {A : Nat → Prop} {pc : Nat} {ls : Array Slot} {st0 rest : List Value} {a : Array Value}
theorem dk_preD {n lo hi : Int32} (hE : dk_E A s) (hS : va_S A s.heap H locs) (hA : ∀ q, s.heap.size ≤ q → A q) : PreS s H (va_Pc [.int n, .int lo, .int hi] (fun U => dk_E (fun q => U.heap.size ≤ q) U)) [.int n, .int lo, .int hi] := by
  refine ⟨?_, fun U hU hW => ⟨rfl, hE.call hS (fun q hq => hA q (Nat.le_trans hS.1 (by rw [hU] at hq; exact hq))) U hU hW⟩⟩
  intro a U g mk q
  exact ⟨q.1, q.2.blind⟩
theorem dk_xdem {n lo hi : Int32} (hr : vx_Run p l e R s m args below meth c H locs cells slots 1 6 (F0 m pc ls st0) rest (dk_Qd n lo hi a) (dk_Xd n lo hi) (fun _ => False))
    (kx : ∀ (ce : Cell) (q9 : Addr) (H1 : Heap), (n < lo ∨ hi < n) → H.size ≤ H1.size → (∀ q : Nat, q < H.size → H1[q]? = H[q]?) → H1[q9]? = some ce → ce.vm = .none → s.vm.findClass dk_IAE = some ce.cls → vx_W p l e R s m args below meth c H1 locs (cells + 1) (slots + 6) Q (F0 m pc ls rest) q9)
    (kk : ¬ (n < lo ∨ hi < n) → W p l e R s m args below meth c H locs (cells + 1) (slots + 6) Q (F0 m (pc + 3) ls rest)) :
    W p l e R s m args below meth c H locs cells slots Q (F0 m pc ls st0) := by
  intro T hT X
  have hnil : ∀ L : List Loc, (∀ q ∈ L, False) → L = [] := fun L hL => by
    cases L with
    | nil => rfl
    | cons q L => exact (hL q List.mem_cons_self).elim
  rcases hr T hT X with ⟨v, st₀, t, T', L, h0, X', hL, e1, e2, ⟨hv, hp, hh⟩, st⟩ | ⟨q, st₀, t, T', L, E, ce, h0, X', hL, e1, e2, ⟨rfl, hp, hz, hk⟩, hce, hcv, hcl, st⟩
  · cases hv
    cases hnil L hL
    rw [List.append_nil] at X'
    obtain ⟨t2, a1, b1⟩ := kk hp T' (by rw [e1, hh, h0]) X'
    exact ⟨t2, st t2 a1, b1⟩
  · cases hnil L hL
    rw [List.append_nil] at X'
    rw [h0, ← e1] at hz hk
    obtain ⟨t2, a1, b1⟩ := kx ce q T'.heap hp hz hk (by rw [e1]; exact hce) hcv hcl T' rfl X'
    exact ⟨t2, st.trans a1, b1⟩
/-- an index out of its bounds' answer: a Nat -/
theorem dk_of {x lo' : Int32} {lo d : Nat} (h : ¬ (x < lo' ∨ nI d < x)) (e : lo' = nI lo) (hd : d < 2 ^ 31) (hlo : lo < 2 ^ 31) : ∃ j, lo ≤ j ∧ j ≤ d ∧ x = nI j := by
  subst e
  have h1 : ¬ x < nI lo := fun q => h (Or.inl q)
  have h2 : ¬ nI d < x := fun q => h (Or.inr q)
  have h0 : ¬ x < 0 := fun q => h1 (Int32.lt_of_lt_of_le q (nI_pos' hlo))
  obtain ⟨j, hj, rfl⟩ := nI_of h0
  refine ⟨j, ?_, ?_, rfl⟩
  · exact Nat.not_lt.mp (fun q => h1 (nI_lt q hlo))
  · exact Nat.not_lt.mp (fun q => h2 (nI_lt q hj))
end Rows
end DkExc
section DkRef
/-- CONTRACT of a method that answers a known reference and changes its cells -/
abbrev dk_Mr (l : Launch) (y : MethodName) (ws : List Cond) (rm : Room) (D : va_G) (tys : List (ClassId × FieldType)) (av : List Value) (w : va_W) (sz : Nat) (ra : Nat) (w1 : va_W) : Prop :=
  Met l y ws rm (va_Pc av (dk_Pre D tys w sz)) (va_Qr (fun (_ : Unit) => True) (fun _ b t => b = ra ∧ dk_B D tys (va_A w sz) w1 t) (va_A w sz)) 0 0 (va_A w sz)
theorem dk_ofMr {l : Launch} {y : MethodName} {ws ws' : List Cond} {rm : Room} {D : va_G} {tys : List (ClassId × FieldType)} {w : va_W} {sz : Nat} {av : List Value} {cc : ByteArray} {maxL : Nat} {cn : String} {ra : Nat} {w1 : va_W} (hy : plainName y.cls = true) (hw : ws = Cond.code y cc maxL (some (.object cn)) :: ws') (hlen : (lg_sl av).length ≤ maxL)
    (body : ∀ (p : Program) (e : Env) (s : State) (m : MethodId) (args : Array Value) (below : List Frame) (meth : Method) (c : Code) (A : Nat → Prop) (ls : Array Slot) (Q : State → Prop), dk_At p s m args meth c y ws cc maxL → s.heap.size = sz →
      va_K D vwCl tys s → va_P D vwCl w s.heap → va_D A w → (∀ q : Nat, s.heap.size ≤ q → A q) → va_S A s.heap s.heap [] → lv_has ls maxL (lv_args 0 av) →
      (∀ (H : Heap) (locs : List Loc) (pc : Nat) (ls : Array Slot), va_P D vwCl w1 H → va_D A w1 → va_S A s.heap H locs → decode cc pc = .ok (.areturn, 1) → W p l e rm s m args below meth c H locs 0 0 Q (F0 m pc ls [.ref ra])) →
      W p l e rm s m args below meth c s.heap [] 0 0 Q (F0 m 0 ls [])) :
    dk_Mr l y ws rm D tys av w sz ra w1 := by
  refine Met.ofW (cc := cc) (maxL := maxL) (ret := some (.object cn)) hy hw ?_
  intro p e s m args below meth c s₁ B hml hv
  obtain ⟨rfl, hsz, hP, hK, hD0⟩ := hv
  have hl := lv_entry av (n := maxL) hlen
  rw [lg_entry_eq]
  refine body p e s m _ below meth c (va_A w sz) _ _ ⟨B.exec, B.bytes, hml, atoms_spec (ws := ws) B.pre, findClass_of_methodNamed B.named, (name_of_methodNamed B.named B.method).1⟩ hsz hK hP hD0.self (fun q h => Or.inr (by rw [← hsz]; exact h)) va_S.rf hl ?_
  intro H locs pc ls hP hD hS hdg
  exact W.aret B.exec B.bytes B.returns (Or.inl ⟨cn, rfl⟩) (Or.inr ⟨ra, rfl⟩) (fun t ht hW => ⟨⟨(), ra, rfl, trivial, rfl, by rw [ht]; exact hP, va_K.moved hW.alike hK, hD⟩, hS.F ht⟩) hS.2.2 hdg B.notSynchronized
theorem dk_callr {p : Program} {l : Launch} {e : Env} {R : Room} {s : State} {m : MethodId} {args : Array Value} {below : List Frame} {meth : Method} {c : Code} {H H0 : Heap} {locs : List Loc} {cells slots : Nat} {Q : State → Prop} {D : va_G} {tys : List (ClassId × FieldType)} {ws wc wr w1 : va_W} {A0 : Nat → Prop} {pc ra : Nat} {ls : Array Slot} {st0 rest : List Value} {a : Array Value}
    (hr : va_Run p l e R s m args below meth c H locs cells slots 0 0 (F0 m pc ls st0) rest (va_Qr (fun (_ : Unit) => True) (fun _ b t => b = ra ∧ dk_B D tys (va_A wc H.size) w1 t) (va_A wc H.size) a) (va_A wc H.size))
    (hP : va_P D vwCl ws H) (hD : va_D A0 ws) (hS : va_S A0 H0 H locs) (hA : ∀ q, H0.size ≤ q → A0 q) (isC isR : List Nat) (hC : isC.map (fun i => ws[i]?) = wc.map some) (hR : isR.map (fun i => ws[i]?) = wr.map some) (hn : va_nd isR = true) (hdis : ∀ i ∈ isR, i ∉ isC)
    (kk : ∀ (H1 : Heap) (locs1 : List Loc), va_P D vwCl (wr ++ w1) H1 → va_D A0 (wr ++ w1) → va_S A0 H0 H1 locs1 → W p l e R s m args below meth c H1 locs1 cells slots Q (F0 m (pc + 3) ls (.ref ra :: rest))) :
    W p l e R s m args below meth c H locs cells slots Q (F0 m pc ls st0) := by
  have hF := va_free hD hS hA isC hC
  refine va_callr hr hS (fun q _ h => hF q h) hF (fun u b t H1 locs1 ht hvm hw hB hz hk hS1 => ?_)
  obtain ⟨rfl, hP1, hK1, hD1⟩ := hB
  rw [ht] at hP1
  obtain ⟨hP2, hD2⟩ := va_join hP hD isC isR hC hR hn hdis hk hF hP1 hD1
  exact kk H1 locs1 hP2 hD2 hS1
end DkRef
section DkXcall
variable {p : Program} {l : Launch} {e : Env} {R : Room} {s : State} {m : MethodId} {args : Array Value} {below : List Frame} {meth : Method} {c : Code} {H H0 : Heap} {locs : List Loc} {cells slots : Nat} {Q : State → Prop}
variable {D : va_G} {tys : List (ClassId × FieldType)} {ws wc wr : va_W} {A0 : Nat → Prop} {mc ms pc : Nat} {ls : Array Slot} {st0 rest : List Value} {a : Array Value} {S : Type} {w1 : S → va_W}
theorem dk_preXV {b q0 ci : Nat} {q : vw_C} {fs : List Value} (hK : va_K D vwCl tys s) (hP : va_P D vwCl ws H) (hD : va_D A0 ws) (hE : dk_E A0 s) (hS : va_S A0 s.heap H locs) (hA : ∀ q, s.heap.size ≤ q → A0 q) (isC : List Nat) (h2 : isC.map (fun i => ws[i]?) = wc.map some) (hn : va_nd isC = true)
    (hc : vwCl[ci]? = some q) (he : ws[q0]? = some (b, .inr (ci, fs))) {As : List Value} : PreV s H q.1 b (va_Pc (.ref b :: As) (fun U => dk_Pre D tys wc H.size U ∧ dk_E (va_A wc H.size) U)) As := by
  refine ⟨?_, va_recv hK hP hc he, fun U hU hW => ⟨rfl, ⟨by rw [hU], by rw [hU]; exact hP.sub isC (dk_fm h2), va_K.moved hW.alike hK, (hD.sub isC hn h2).weaken (fun _ _ _ _ => trivial)⟩, hE.call hS (va_free hD hS hA isC h2) U hU hW⟩⟩
  intro a U g mk q
  obtain ⟨q0, ⟨q1, qP, qK, qD⟩, qE⟩ := q
  exact ⟨q0, ⟨q1, qP, va_K.moved (u := U) (U := U.calling g mk a) (Vm.Alike.refl U.vm) qK, qD⟩, qE.blind⟩
/-- a call of a method that answers an int or throws -/
theorem dk_xcalli {post : Int32 → S → Prop} {px : String → Prop} (hr : vx_Run p l e R s m args below meth c H locs cells slots mc ms (F0 m pc ls st0) rest (va_Qi post (fun u t => dk_B D tys (va_A wc H.size) (w1 u) t) (va_A wc H.size) a) (vx_X px (fun E u t => E = u ∧ dk_B D tys (va_A wc H.size) wc t) (va_A wc H.size)) (va_A wc H.size))
    (hP : va_P D vwCl ws H) (hD : va_D A0 ws) (hS : va_S A0 H0 H locs) (hA : ∀ q, H0.size ≤ q → A0 q) (isC isR : List Nat) (hC : isC.map (fun i => ws[i]?) = wc.map some) (hR : isR.map (fun i => ws[i]?) = wr.map some) (hn : va_nd isR = true) (hdis : ∀ i ∈ isR, i ∉ isC)
    (kx : ∀ (E : String) (ce : Cell) (q9 : Addr) (H1 : Heap) (locs1 : List Loc), px E → va_P D vwCl (wr ++ wc) H1 → va_D A0 (wr ++ wc) → va_S A0 H0 H1 locs1 → H1[q9]? = some ce → ce.vm = .none → s.vm.findClass E = some ce.cls → vx_W p l e R s m args below meth c H1 locs1 (cells + mc) (slots + ms) Q (F0 m pc ls rest) q9)
    (kk : ∀ (r : Int32) (u : S) (H1 : Heap) (locs1 : List Loc), post r u → va_P D vwCl (wr ++ w1 u) H1 → va_D A0 (wr ++ w1 u) → va_S A0 H0 H1 locs1 → W p l e R s m args below meth c H1 locs1 (cells + mc) (slots + ms) Q (F0 m (pc + 3) ls (.int r :: rest))) :
    W p l e R s m args below meth c H locs cells slots Q (F0 m pc ls st0) := by
  have hF := va_free hD hS hA isC hC
  refine vx_calli hr hS (fun q _ h => hF q h) hF (fun q _ h => hF q h) (fun E ce q9 u t H1 locs1 ht hvm hw hB hz hk hS1 h1 h2 h3 => ?_) (fun r u t H1 locs1 ht hvm hw hB hz hk hS1 => ?_)
  · obtain ⟨rfl, hP1, hK1, hD1⟩ := hB
    rw [ht] at hP1
    obtain ⟨hP2, hD2⟩ := va_join hP hD isC isR hC hR hn hdis hk hF hP1 hD1
    exact kx E ce q9 H1 locs1 hw hP2 hD2 hS1 h1 h2 h3
  · obtain ⟨hP1, hK1, hD1⟩ := hB
    rw [ht] at hP1
    obtain ⟨hP2, hD2⟩ := va_join hP hD isC isR hC hR hn hdis hk hF hP1 hD1
    exact kk r u H1 locs1 hw hP2 hD2 hS1
end DkXcall
end
section
/-! LAW, its helpers: a call of the class under a try -/
section DkLaw
abbrev dk_TL (cI cII cL : ClassId) : List (ClassId × FieldType) := [(cI, .int), (cII, .array .int), (cL, .long)]
/-- the law's long[1] -/
def dk_O (cL : ClassId) (a : Nat → Nat) (f : Nat → Int64) : va_W := [(a 0, .inl (cL, 1, .inr (.inl f)))]
/-- CONTRACT of a helper: it catches what the class throws -/
abbrev dk_Li (l : Launch) (y : MethodName) (ws : List Cond) (rm : Room) (D : va_G) (tys : List (ClassId × FieldType)) (av : List Value) (w : va_W) (sz : Nat) (r : Int32) (w1 : va_W) (mc ms : Nat) : Prop :=
  Met l y ws rm (va_Pc av (fun U => dk_Pre D tys w sz U ∧ dk_E (va_A w sz) U ∧ va_Nc dk_ISE dk_IAE U)) (va_Qi (fun (v : Int32) (_ : Unit) => v = r) (fun _ t => dk_B D tys (va_A w sz) w1 t) (va_A w sz)) mc ms (va_A w sz)
theorem dk_ofLi {l : Launch} {y : MethodName} {ws ws' : List Cond} {rm : Room} {D : va_G} {tys : List (ClassId × FieldType)} {w w1 : va_W} {sz mc ms : Nat} {av : List Value} {cc : ByteArray} {maxL : Nat} {hh : List (Nat × Nat × Nat × Nat)} {r : Int32} (hy : plainName y.cls = true) (hw : ws = Cond.codeWith y cc maxL (some .int) hh :: ws') (hlen : (lg_sl av).length ≤ maxL)
    (body : ∀ (p : Program) (e : Env) (s : State) (m : MethodId) (args : Array Value) (below : List Frame) (meth : Method) (c : Code) (A : Nat → Prop) (ls : Array Slot) (Q : State → Prop), dk_At p s m args meth c y ws cc maxL → meth.locks = false → c.exceptionTable.toList = tableOf hh → s.heap.size = sz →
      va_K D vwCl tys s → va_P D vwCl w s.heap → va_D A w → (∀ q : Nat, s.heap.size ≤ q → A q) → va_S A s.heap s.heap [] → lv_has ls maxL (lv_args 0 av) → dk_E A s → va_Nc dk_ISE dk_IAE s →
      (∀ (v : Int32) (H : Heap) (locs : List Loc) (pc : Nat) (ls : Array Slot), v = r → va_P D vwCl w1 H → va_D A w1 → va_S A s.heap H locs → decode cc pc = .ok (.ireturn, 1) → W p l e rm s m args below meth c H locs mc ms Q (F0 m pc ls [.int v])) →
      W p l e rm s m args below meth c s.heap [] 0 0 Q (F0 m 0 ls [])) :
    dk_Li l y ws rm D tys av w sz r w1 mc ms := by
  refine va_MetW (cc := cc) (maxL := maxL) (ret := some .int) (hh := hh) hy hw ?_
  intro p e s m args below meth c s₁ B hml hv
  obtain ⟨rfl, ⟨hsz, hP, hK, hD0⟩, hE, hN⟩ := hv
  have hl := lv_entry av (n := maxL) hlen
  rw [lg_entry_eq]
  have hts := atoms_spec (ws := ws) B.pre
  refine body p e s m _ below meth c (va_A w sz) _ _ ⟨B.exec, B.bytes, hml, hts, findClass_of_methodNamed B.named, (name_of_methodNamed B.named B.method).1⟩ B.notSynchronized (vx_table (x := y) B (hts _ (by rw [hw]; exact List.mem_cons_self))) hsz hK hP hD0.self (fun q h => Or.inr (by rw [← hsz]; exact h)) va_S.rf hl hE hN ?_
  intro v H locs pc ls hp hP hD hS hdg
  exact W.iret B.exec B.bytes B.returns (fun t ht hW => ⟨⟨v, (), rfl, hp, by rw [ht]; exact hP, va_K.moved hW.alike hK, hD⟩, hS.F ht⟩) hS.2.2 hdg B.notSynchronized
theorem dk_ne2Need {d : Nat} {a b : Int32} : dk_kNeed d a b ≠ 2 := by
  unfold dk_kNeed
  split
  · decide
  · split <;> decide
theorem dk_ne2Speed {a : Int32} : dk_kSpeed a ≠ 2 := by unfold dk_kSpeed; split <;> decide
theorem dk_ne2Energy {a : Int32} : dk_kEnergy a ≠ 2 := by unfold dk_kEnergy; split <;> decide
theorem dk_ne2Set {a b : Int32} : dk_kSet a b ≠ 2 := by
  unfold dk_kSet
  split
  · decide
  · split
    · exact dk_ne2Speed
    · exact dk_ne2Energy
theorem dk_ne2In {lo a : Int32} {d : Nat} : dk_kIn lo d a ≠ 2 := by unfold dk_kIn; split <;> decide
theorem dk_ne2Told {d z : Nat} {a b c : Int32} : dk_kTold d z a b c ≠ 2 := by
  unfold dk_kTold
  split
  · decide
  · split
    · decide
    · split <;> decide
theorem dk_ne2Best {a : Int32} : dk_kBest a ≠ 2 := by unfold dk_kBest; split <;> decide
theorem dk_ne2Least {a : Int32} : dk_kLeast a ≠ 2 := by unfold dk_kLeast; split <;> decide
end DkLaw
end
section
set_option maxHeartbeats 4000000 in
set_option maxRecDepth 100000 in
/-- DuctSizes$Network.speedOf -/
theorem c_X1_speedOf (l : Launch) (dC : Nat → ClassId) (dI : Nat → Nat → Nat) (cI cII : ClassId) (aN : Nat → Nat) (fr : Nat → Int32) (le : Nat → Int32) (fi : Nat → Int32) (ne : Nat → Int32) (fl : Nat → Int32) (du : Int32) (ar : Nat → Int32) (pr : Nat → Int32) (sz : Int32) (sp : Int32) (i : Nat) (j : Nat) (h1 : i < 7) (h2 : j < 4) (h3 : ¬ ar j = 0) : dk_Ri l yX1_speedOf wsX1_speedOf ({ frames := 0, cells := 0, slots := 0, locals := 0 }) (dC, dI) (dk_T cI cII) [.ref (aN 0), .int (nI i), .int (nI j)] (dk_N cI cII aN fr le fi ne fl du ar pr sz sp) (fun r => r = dk_speed fl ar i j) := by
  refine dk_ofRi (cc := cX1_speedOf) (maxL := 3) (by decide) rfl (Nat.le_of_ble_eq_true rfl) ?_
  intro p e s m args below meth c ls Q H ⟨hx, hb, hml, hts, hown, hnm⟩ hK hP hl hret
  have hT : ∀ w ∈ dk_tbl, w.before args s = true := fun w h => hts w (List.mem_cons_of_mem _ h)
  have hown : s.vm.findClass RX1 = some m.cls := hown
  have hl : lv_has ls 3 [(0, .ref (aN 0)), (1, .int (nI i)), (2, .int (nI j))] := hl
  refine lv_bipush (v := 100) hx hb dX1_speedOf_0 (by decide) ?_
  refine lv_aload_n hx hb dX1_speedOf_2 rfl (lv_at hl 0 rfl) ?_
  refine va_get (D := (dC, dI)) (ci := 1) (v := .ref (aN 5)) (C := RX1) (T := TX1) (N := 10) hx hb hT in_X1 hown hK hP 0 rfl rfl 4 (by decide) (hT _ mw_55) (fun _ h9 => h9) rfl dX1_speedOf_3 ?_
  refine lv_iload_n hx hb dX1_speedOf_6 rfl (lv_at hl 1 rfl) ?_
  refine dk_iald (q0 := 5) (t0 := 0) (i := i) hx hb hK hP rfl rfl rfl h1 (by decide) dX1_speedOf_7 ?_
  refine lv_imul hx hb dX1_speedOf_8 ?_
  refine lv_aload_n hx hb dX1_speedOf_9 rfl (lv_at hl 0 rfl) ?_
  refine va_get (D := (dC, dI)) (ci := 1) (v := .ref (aN 6)) (C := RX1) (T := TX1) (N := 10) hx hb hT in_X1 hown hK hP 0 rfl rfl 6 (by decide) (hT _ mw_60) (fun _ h9 => h9) rfl dX1_speedOf_10 ?_
  refine lv_iload_n hx hb dX1_speedOf_13 rfl (lv_at hl 2 rfl) ?_
  refine dk_iald (q0 := 6) (t0 := 0) (i := j) hx hb hK hP rfl rfl rfl h2 (by decide) dX1_speedOf_14 ?_
  refine lv_idiv hx hb dX1_speedOf_15 h3 ?_
  exact hret _ _ _ rfl dX1_speedOf_16
set_option maxHeartbeats 4000000 in
set_option maxRecDepth 100000 in
/-- DuctSizes$Network.fallOf -/
theorem c_X1_fallOf (l : Launch) (dC : Nat → ClassId) (dI : Nat → Nat → Nat) (cI cII : ClassId) (aN : Nat → Nat) (fr : Nat → Int32) (le : Nat → Int32) (fi : Nat → Int32) (ne : Nat → Int32) (fl : Nat → Int32) (du : Int32) (ar : Nat → Int32) (pr : Nat → Int32) (sz : Int32) (sp : Int32) (i : Nat) (j : Nat) (h1 : i < 7) (h2 : j < 4) (h3 : ¬ (ar j).toInt64 * (ar j).toInt64 = 0) : dk_Ri l yX1_fallOf wsX1_fallOf ({ frames := 1, cells := 0, slots := 0, locals := 15 }) (dC, dI) (dk_T cI cII) [.ref (aN 0), .int (nI i), .int (nI j)] (dk_N cI cII aN fr le fi ne fl du ar pr sz sp) (fun r => r = dk_fall le fi fl ar i j) := by
  refine dk_ofRi (cc := cX1_fallOf) (maxL := 11) (by decide) rfl (Nat.le_of_ble_eq_true rfl) ?_
  intro p e s m args below meth c ls Q H ⟨hx, hb, hml, hts, hown, hnm⟩ hK hP hl hret
  have hT : ∀ w ∈ dk_tbl, w.before args s = true := fun w h => hts w (List.mem_cons_of_mem _ h)
  have hown : s.vm.findClass RX1 = some m.cls := hown
  have hl : lv_has ls 11 [(0, .ref (aN 0)), (1, .int (nI i)), (2, .int (nI j))] := hl
  refine lv_aload_n hx hb dX1_fallOf_0 rfl (lv_at hl 0 rfl) ?_
  refine va_get (D := (dC, dI)) (ci := 1) (v := .ref (aN 5)) (C := RX1) (T := TX1) (N := 10) hx hb hT in_X1 hown hK hP 0 rfl rfl 4 (by decide) (hT _ mw_55) (fun _ h9 => h9) rfl dX1_fallOf_1 ?_
  refine lv_iload_n hx hb dX1_fallOf_4 rfl (lv_at hl 1 rfl) ?_
  refine dk_iald (q0 := 5) (t0 := 0) (i := i) hx hb hK hP rfl rfl rfl h1 (by decide) dX1_fallOf_5 ?_
  refine lv_i2l (v := ((fl i)).toInt64) hx hb dX1_fallOf_6 rfl ?_
  refine lv_lstore_n (lv' := [(3, .long (((fl i)).toInt64)), (0, .ref (aN 0)), (1, .int (nI i)), (2, .int (nI j))]) hx hb dX1_fallOf_7 rfl hl (by decide) rfl (fun ls hl => ?_)
  refine lv_aload_n hx hb dX1_fallOf_8 rfl (lv_at hl 1 rfl) ?_
  refine va_get (D := (dC, dI)) (ci := 1) (v := .ref (aN 6)) (C := RX1) (T := TX1) (N := 10) hx hb hT in_X1 hown hK hP 0 rfl rfl 6 (by decide) (hT _ mw_60) (fun _ h9 => h9) rfl dX1_fallOf_9 ?_
  refine lv_iload_n hx hb dX1_fallOf_12 rfl (lv_at hl 3 rfl) ?_
  refine dk_iald (q0 := 6) (t0 := 0) (i := j) hx hb hK hP rfl rfl rfl h2 (by decide) dX1_fallOf_13 ?_
  refine lv_i2l (v := ((ar j)).toInt64) hx hb dX1_fallOf_14 rfl ?_
  refine lv_lstore (lv' := [(5, .long (((ar j)).toInt64)), (3, .long (((fl i)).toInt64)), (0, .ref (aN 0)), (1, .int (nI i)), (2, .int (nI j))]) hx hb dX1_fallOf_15 hl (by decide) rfl (fun ls hl => ?_)
  refine lv_ldc2 (v := 1000) hx hb hown (hT _ mw_212) dX1_fallOf_17 ?_
  refine lv_lload_n hx hb dX1_fallOf_20 rfl (lv_at hl 1 rfl) ?_
  refine lv_lmul hx hb dX1_fallOf_21 ?_
  refine lv_lload_n hx hb dX1_fallOf_22 rfl (lv_at hl 1 rfl) ?_
  refine lv_lmul hx hb dX1_fallOf_23 ?_
  refine lv_lload hx hb dX1_fallOf_24 (lv_at hl 0 rfl) ?_
  refine lv_lload hx hb dX1_fallOf_26 (lv_at hl 0 rfl) ?_
  refine lv_lmul hx hb dX1_fallOf_28 ?_
  refine lv_ldiv hx hb dX1_fallOf_29 h3 ?_
  refine lv_lstore (lv' := [(7, .long (((1000 * ((fl i)).toInt64) * ((fl i)).toInt64) / (((ar j)).toInt64 * ((ar j)).toInt64))), (5, .long (((ar j)).toInt64)), (3, .long (((fl i)).toInt64)), (0, .ref (aN 0)), (1, .int (nI i)), (2, .int (nI j))]) hx hb dX1_fallOf_30 hl (by decide) rfl (fun ls hl => ?_)
  refine lv_aload_n hx hb dX1_fallOf_32 rfl (lv_at hl 3 rfl) ?_
  refine va_get (D := (dC, dI)) (ci := 1) (v := .ref (aN 2)) (C := RX1) (T := TX1) (N := 10) hx hb hT in_X1 hown hK hP 0 rfl rfl 1 (by decide) (hT _ mw_51) (fun _ h9 => h9) rfl dX1_fallOf_33 ?_
  refine lv_iload_n hx hb dX1_fallOf_36 rfl (lv_at hl 4 rfl) ?_
  refine dk_iald (q0 := 2) (t0 := 0) (i := i) hx hb hK hP rfl rfl rfl h1 (by decide) dX1_fallOf_37 ?_
  refine lv_i2l (v := ((le i)).toInt64) hx hb dX1_fallOf_38 rfl ?_
  refine lv_lload hx hb dX1_fallOf_39 (lv_at hl 0 rfl) ?_
  refine lv_lmul hx hb dX1_fallOf_41 ?_
  refine lv_ldc2 (v := 100) hx hb hown (hT _ mw_213) dX1_fallOf_42 ?_
  refine lv_ldiv hx hb dX1_fallOf_45 (by decide) ?_
  refine lv_ldc2 (v := 1000000) hx hb hown (hT _ mw_214) dX1_fallOf_46 ?_
  refine va_mmin_long hx hb (by rw [hml]; exact hl.1.symm) hown (hT _ mw_215) (hT _ mw_216) (hT _ mw_33) (hT _ mw_217) (Nat.le_of_ble_eq_true rfl) (Nat.le_of_ble_eq_true rfl) (Nat.le_of_ble_eq_true rfl) (Nat.le_of_ble_eq_true rfl) dX1_fallOf_49 ?_
  refine lv_lstore (lv' := [(9, .long (if 1000000 < ((((le i)).toInt64 * (((1000 * ((fl i)).toInt64) * ((fl i)).toInt64) / (((ar j)).toInt64 * ((ar j)).toInt64))) / 100) then 1000000 else ((((le i)).toInt64 * (((1000 * ((fl i)).toInt64) * ((fl i)).toInt64) / (((ar j)).toInt64 * ((ar j)).toInt64))) / 100))), (7, .long (((1000 * ((fl i)).toInt64) * ((fl i)).toInt64) / (((ar j)).toInt64 * ((ar j)).toInt64))), (5, .long (((ar j)).toInt64)), (3, .long (((fl i)).toInt64)), (0, .ref (aN 0)), (1, .int (nI i)), (2, .int (nI j))]) hx hb dX1_fallOf_52 hl (by decide) rfl (fun ls hl => ?_)
  refine lv_lload hx hb dX1_fallOf_54 (lv_at hl 0 rfl) ?_
  refine lv_l2i (v := ((if 1000000 < ((((le i)).toInt64 * (((1000 * ((fl i)).toInt64) * ((fl i)).toInt64) / (((ar j)).toInt64 * ((ar j)).toInt64))) / 100) then 1000000 else ((((le i)).toInt64 * (((1000 * ((fl i)).toInt64) * ((fl i)).toInt64) / (((ar j)).toInt64 * ((ar j)).toInt64))) / 100))).toInt32) hx hb dX1_fallOf_56 rfl ?_
  refine lv_aload_n hx hb dX1_fallOf_57 rfl (lv_at hl 4 rfl) ?_
  refine va_get (D := (dC, dI)) (ci := 1) (v := .ref (aN 3)) (C := RX1) (T := TX1) (N := 10) hx hb hT in_X1 hown hK hP 0 rfl rfl 2 (by decide) (hT _ mw_52) (fun _ h9 => h9) rfl dX1_fallOf_58 ?_
  refine lv_iload_n hx hb dX1_fallOf_61 rfl (lv_at hl 5 rfl) ?_
  refine dk_iald (q0 := 3) (t0 := 0) (i := i) hx hb hK hP rfl rfl rfl h1 (by decide) dX1_fallOf_62 ?_
  refine lv_iadd hx hb dX1_fallOf_63 ?_
  exact hret _ _ _ rfl dX1_fallOf_64
set_option maxHeartbeats 4000000 in
set_option maxRecDepth 100000 in
/-- DuctSizes$Network.allows -/
theorem c_X1_allows (l : Launch) (dC : Nat → ClassId) (dI : Nat → Nat → Nat) (cI cII : ClassId) (aN : Nat → Nat) (fr : Nat → Int32) (le : Nat → Int32) (fi : Nat → Int32) (ne : Nat → Int32) (fl : Nat → Int32) (du : Int32) (ar : Nat → Int32) (pr : Nat → Int32) (sz : Int32) (sp : Int32) (i : Nat) (j : Nat) (h1 : i < 7) (h2 : j < 4) (h3 : ¬ ar j = 0) : dk_Ri l yX1_allows wsX1_allows ({ frames := 1, cells := 0, slots := 0, locals := 22 }) (dC, dI) (dk_T cI cII) [.ref (aN 0), .int (nI i), .int (nI j)] (dk_N cI cII aN fr le fi ne fl du ar pr sz sp) (fun r => r = dk_allows fl ar sp i j) := by
  refine dk_ofRz (cc := cX1_allows) (maxL := 3) (by decide) rfl (Nat.le_of_ble_eq_true rfl) ?_
  intro p e s m args below meth c ls Q H ⟨hx, hb, hml, hts, hown, hnm⟩ hK hP hl hret
  have hT : ∀ w ∈ dk_tbl, w.before args s = true := fun w h => hts w (List.mem_cons_of_mem _ h)
  have hown : s.vm.findClass RX1 = some m.cls := hown
  have hl : lv_has ls 3 [(0, .ref (aN 0)), (1, .int (nI i)), (2, .int (nI j))] := hl
  refine lv_aload_n hx hb dX1_allows_0 rfl (lv_at hl 0 rfl) ?_
  refine lv_iload_n hx hb dX1_allows_1 rfl (lv_at hl 1 rfl) ?_
  refine lv_iload_n hx hb dX1_allows_2 rfl (lv_at hl 2 rfl) ?_
  refine dk_csi (va_runV (As := [.int (nI i), .int (nI j)]) (rest := []) ⟨hx, hb, hml, hown, hT⟩ (c_X1_speedOf l dC dI cI cII aN fr le fi ne fl du ar pr sz sp i j h1 h2 h3) (cwV 2 hT (dk_gV mw_204 mw_205 mw_206 mw_24 mw_207) rfl rfl rfl (by decide +kernel) ⟨(Nat.le_of_ble_eq_true rfl), (Nat.le_of_ble_eq_true rfl)⟩) (dk_preRV hK hP [0, 1, 2, 3, 4, 5, 6, 7] rfl (q0 := 0) (ci := 1) rfl rfl) rfl rfl hl.1 rfl (lv_room (Nat.le_of_ble_eq_true rfl)) dX1_allows_3 ⟨Nat.le_of_ble_eq_true rfl, Nat.le_of_ble_eq_true rfl⟩) (fun r9 h9 => ?_)
  subst h9
  refine lv_aload_n hx hb dX1_allows_6 rfl (lv_at hl 0 rfl) ?_
  refine va_get (D := (dC, dI)) (ci := 1) (v := .int sp) (C := RX1) (T := TX1) (N := 10) hx hb hT in_X1 hown hK hP 0 rfl rfl 9 (by decide) (hT _ mw_65) (fun _ h9 => h9) rfl dX1_allows_7 ?_
  refine lv_icmp_gt (tgt := 17) hx hb dX1_allows_10 (by decide) (fun c_10 => ?_) (fun c_10 => ?_)
  · refine lv_iconst (v := 0) hx hb dX1_allows_17 (by decide) ?_
    exact hret _ _ _ rfl (by unfold dk_allows; rw [if_pos c_10]) dX1_allows_18
  · refine lv_iconst (v := 1) hx hb dX1_allows_13 (by decide) ?_
    refine lv_goto (tgt := 18) hx hb dX1_allows_14 (by decide) ?_
    exact hret _ _ _ rfl (by unfold dk_allows; rw [if_neg c_10]) dX1_allows_18
set_option maxHeartbeats 4000000 in
set_option maxRecDepth 100000 in
/-- DuctSizes$Network.priceOf -/
theorem c_X1_priceOf (l : Launch) (dC : Nat → ClassId) (dI : Nat → Nat → Nat) (cI cII : ClassId) (aN : Nat → Nat) (fr : Nat → Int32) (le : Nat → Int32) (fi : Nat → Int32) (ne : Nat → Int32) (fl : Nat → Int32) (du : Int32) (ar : Nat → Int32) (pr : Nat → Int32) (sz : Int32) (sp : Int32) (i : Nat) (j : Nat) (h1 : i < 7) (h2 : j < 4) : dk_Ri l yX1_priceOf wsX1_priceOf ({ frames := 0, cells := 0, slots := 0, locals := 0 }) (dC, dI) (dk_T cI cII) [.ref (aN 0), .int (nI i), .int (nI j)] (dk_N cI cII aN fr le fi ne fl du ar pr sz sp) (fun r => r = dk_price le pr i j) := by
  refine dk_ofRi (cc := cX1_priceOf) (maxL := 3) (by decide) rfl (Nat.le_of_ble_eq_true rfl) ?_
  intro p e s m args below meth c ls Q H ⟨hx, hb, hml, hts, hown, hnm⟩ hK hP hl hret
  have hT : ∀ w ∈ dk_tbl, w.before args s = true := fun w h => hts w (List.mem_cons_of_mem _ h)
  have hown : s.vm.findClass RX1 = some m.cls := hown
  have hl : lv_has ls 3 [(0, .ref (aN 0)), (1, .int (nI i)), (2, .int (nI j))] := hl
  refine lv_aload_n hx hb dX1_priceOf_0 rfl (lv_at hl 0 rfl) ?_
  refine va_get (D := (dC, dI)) (ci := 1) (v := .ref (aN 2)) (C := RX1) (T := TX1) (N := 10) hx hb hT in_X1 hown hK hP 0 rfl rfl 1 (by decide) (hT _ mw_51) (fun _ h9 => h9) rfl dX1_priceOf_1 ?_
  refine lv_iload_n hx hb dX1_priceOf_4 rfl (lv_at hl 1 rfl) ?_
  refine dk_iald (q0 := 2) (t0 := 0) (i := i) hx hb hK hP rfl rfl rfl h1 (by decide) dX1_priceOf_5 ?_
  refine lv_aload_n hx hb dX1_priceOf_6 rfl (lv_at hl 0 rfl) ?_
  refine va_get (D := (dC, dI)) (ci := 1) (v := .ref (aN 7)) (C := RX1) (T := TX1) (N := 10) hx hb hT in_X1 hown hK hP 0 rfl rfl 7 (by decide) (hT _ mw_61) (fun _ h9 => h9) rfl dX1_priceOf_7 ?_
  refine lv_iload_n hx hb dX1_priceOf_10 rfl (lv_at hl 2 rfl) ?_
  refine dk_iald (q0 := 7) (t0 := 0) (i := j) hx hb hK hP rfl rfl rfl h2 (by decide) dX1_priceOf_11 ?_
  refine lv_imul hx hb dX1_priceOf_12 ?_
  exact hret _ _ _ rfl dX1_priceOf_13
set_option maxHeartbeats 4000000 in
set_option maxRecDepth 100000 in
/-- DuctSizes$Network.addDuct -/
theorem c_X1_addDuct (l : Launch) (dC : Nat → ClassId) (dI : Nat → Nat → Nat) (cI cII : ClassId) (aN : Nat → Nat) (fr : Nat → Int32) (le : Nat → Int32) (fi : Nat → Int32) (ne : Nat → Int32) (fl : Nat → Int32) (ar : Nat → Int32) (pr : Nat → Int32) (sz : Int32) (sp : Int32) (d : Nat) (x0 : Int32) (x1 : Int32) (x2 : Int32) (hz : Nat) (h1 : d < 6) : dk_Mi l yX1_addDuct wsX1_addDuct ({ frames := 0, cells := 0, slots := 0, locals := 0 }) (dC, dI) (dk_T cI cII) [.ref (aN 0), .int x0, .int x1, .int x2] (dk_N cI cII aN fr le fi ne fl (nI d) ar pr sz sp) hz (fun (r : Int32) (_ : Unit) => r = nI (d + 1)) (fun _ => dk_N cI cII aN (upd fr (d + 1) x0) (upd le (d + 1) x1) (upd fi (d + 1) x2) ne fl (nI (d + 1)) ar pr sz sp) 0 0 := by
  refine dk_ofMi (cc := cX1_addDuct) (maxL := 4) (by decide) rfl (Nat.le_of_ble_eq_true rfl) ?_
  intro p e s m args below meth c A ls Q ⟨hx, hb, hml, hts, hown, hnm⟩ hsz hK hP hD hA hS hl hret
  have hT : ∀ w ∈ dk_tbl, w.before args s = true := fun w h => hts w (List.mem_cons_of_mem _ h)
  have hown : s.vm.findClass RX1 = some m.cls := hown
  have hl : lv_has ls 4 [(0, .ref (aN 0)), (1, .int x0), (2, .int x1), (3, .int x2)] := hl
  refine lv_aload_n hx hb dX1_addDuct_0 rfl (lv_at hl 0 rfl) ?_
  refine lv_dup hx hb dX1_addDuct_1 rfl ?_
  refine va_get (D := (dC, dI)) (ci := 1) (v := .int (nI d)) (C := RX1) (T := TX1) (N := 10) hx hb hT in_X1 hown hK hP 0 rfl rfl 5 (by decide) (hT _ mw_57) (fun _ h9 => h9) rfl dX1_addDuct_2 ?_
  refine lv_iconst (v := 1) hx hb dX1_addDuct_5 (by decide) ?_
  refine lv_iadd hx hb dX1_addDuct_6 ?_
  refine lv_topi (fun y9 e9 => ?_)
  obtain rfl : y9 = nI (d + 1) := by rw [e9]; exact nI_1 d
  refine va_put (D := (dC, dI)) (ci := 1) (v := .int (nI (d + 1))) (ty := .int) (C := RX1) (T := TX1) (N := 10) hx hb hT in_X1 tyX1 tyX1_ok nmX1 hown hK hP hD hS 0 rfl rfl 5 (by decide) (hT _ mw_57) (fun _ h9 => h9) rfl (by decide +kernel) rfl rfl (Nat.le_of_ble_eq_true rfl) dX1_addDuct_7 (fun H locs hP hD hS => ?_)
  have hP : va_P (dC, dI) vwCl (dk_N cI cII aN fr le fi ne fl (nI (d + 1)) ar pr sz sp) H := hP
  have hD : va_D A (dk_N cI cII aN fr le fi ne fl (nI (d + 1)) ar pr sz sp) := hD
  refine lv_aload_n hx hb dX1_addDuct_10 rfl (lv_at hl 0 rfl) ?_
  refine va_get (D := (dC, dI)) (ci := 1) (v := .ref (aN 1)) (C := RX1) (T := TX1) (N := 10) hx hb hT in_X1 hown hK hP 0 rfl rfl 0 (by decide) (hT _ mw_49) (fun _ h9 => h9) rfl dX1_addDuct_11 ?_
  refine lv_aload_n hx hb dX1_addDuct_14 rfl (lv_at hl 0 rfl) ?_
  refine va_get (D := (dC, dI)) (ci := 1) (v := .int (nI (d + 1))) (C := RX1) (T := TX1) (N := 10) hx hb hT in_X1 hown hK hP 0 rfl rfl 5 (by decide) (hT _ mw_57) (fun _ h9 => h9) rfl dX1_addDuct_15 ?_
  refine lv_iload_n hx hb dX1_addDuct_18 rfl (lv_at hl 1 rfl) ?_
  refine dk_iast (q0 := 1) (t0 := 0) (i := d + 1) hx hb hK hP hD hS rfl rfl rfl (by omega) (by decide) dX1_addDuct_19 (fun H locs hP hD hS => ?_)
  have hP : va_P (dC, dI) vwCl (dk_N cI cII aN (upd fr (d + 1) x0) le fi ne fl (nI (d + 1)) ar pr sz sp) H := hP
  have hD : va_D A (dk_N cI cII aN (upd fr (d + 1) x0) le fi ne fl (nI (d + 1)) ar pr sz sp) := hD
  refine lv_aload_n hx hb dX1_addDuct_20 rfl (lv_at hl 0 rfl) ?_
  refine va_get (D := (dC, dI)) (ci := 1) (v := .ref (aN 2)) (C := RX1) (T := TX1) (N := 10) hx hb hT in_X1 hown hK hP 0 rfl rfl 1 (by decide) (hT _ mw_51) (fun _ h9 => h9) rfl dX1_addDuct_21 ?_
  refine lv_aload_n hx hb dX1_addDuct_24 rfl (lv_at hl 0 rfl) ?_
  refine va_get (D := (dC, dI)) (ci := 1) (v := .int (nI (d + 1))) (C := RX1) (T := TX1) (N := 10) hx hb hT in_X1 hown hK hP 0 rfl rfl 5 (by decide) (hT _ mw_57) (fun _ h9 => h9) rfl dX1_addDuct_25 ?_
  refine lv_iload_n hx hb dX1_addDuct_28 rfl (lv_at hl 2 rfl) ?_
  refine dk_iast (q0 := 2) (t0 := 0) (i := d + 1) hx hb hK hP hD hS rfl rfl rfl (by omega) (by decide) dX1_addDuct_29 (fun H locs hP hD hS => ?_)
  have hP : va_P (dC, dI) vwCl (dk_N cI cII aN (upd fr (d + 1) x0) (upd le (d + 1) x1) fi ne fl (nI (d + 1)) ar pr sz sp) H := hP
  have hD : va_D A (dk_N cI cII aN (upd fr (d + 1) x0) (upd le (d + 1) x1) fi ne fl (nI (d + 1)) ar pr sz sp) := hD
  refine lv_aload_n hx hb dX1_addDuct_30 rfl (lv_at hl 0 rfl) ?_
  refine va_get (D := (dC, dI)) (ci := 1) (v := .ref (aN 3)) (C := RX1) (T := TX1) (N := 10) hx hb hT in_X1 hown hK hP 0 rfl rfl 2 (by decide) (hT _ mw_52) (fun _ h9 => h9) rfl dX1_addDuct_31 ?_
  refine lv_aload_n hx hb dX1_addDuct_34 rfl (lv_at hl 0 rfl) ?_
  refine va_get (D := (dC, dI)) (ci := 1) (v := .int (nI (d + 1))) (C := RX1) (T := TX1) (N := 10) hx hb hT in_X1 hown hK hP 0 rfl rfl 5 (by decide) (hT _ mw_57) (fun _ h9 => h9) rfl dX1_addDuct_35 ?_
  refine lv_iload_n hx hb dX1_addDuct_38 rfl (lv_at hl 3 rfl) ?_
  refine dk_iast (q0 := 3) (t0 := 0) (i := d + 1) hx hb hK hP hD hS rfl rfl rfl (by omega) (by decide) dX1_addDuct_39 (fun H locs hP hD hS => ?_)
  have hP : va_P (dC, dI) vwCl (dk_N cI cII aN (upd fr (d + 1) x0) (upd le (d + 1) x1) (upd fi (d + 1) x2) ne fl (nI (d + 1)) ar pr sz sp) H := hP
  have hD : va_D A (dk_N cI cII aN (upd fr (d + 1) x0) (upd le (d + 1) x1) (upd fi (d + 1) x2) ne fl (nI (d + 1)) ar pr sz sp) := hD
  refine lv_aload_n hx hb dX1_addDuct_40 rfl (lv_at hl 0 rfl) ?_
  refine va_get (D := (dC, dI)) (ci := 1) (v := .int (nI (d + 1))) (C := RX1) (T := TX1) (N := 10) hx hb hT in_X1 hown hK hP 0 rfl rfl 5 (by decide) (hT _ mw_57) (fun _ h9 => h9) rfl dX1_addDuct_41 ?_
  exact hret _ () _ _ _ _ rfl hP hD hS dX1_addDuct_44
set_option maxHeartbeats 4000000 in
set_option maxRecDepth 100000 in
/-- DuctSizes$Network.addSize -/
theorem c_X1_addSize (l : Launch) (dC : Nat → ClassId) (dI : Nat → Nat → Nat) (cI cII : ClassId) (aN : Nat → Nat) (fr : Nat → Int32) (le : Nat → Int32) (fi : Nat → Int32) (ne : Nat → Int32) (fl : Nat → Int32) (du : Int32) (ar : Nat → Int32) (pr : Nat → Int32) (sp : Int32) (z : Nat) (x0 : Int32) (x1 : Int32) (hz : Nat) (h1 : z < 4) : dk_Mi l yX1_addSize wsX1_addSize ({ frames := 0, cells := 0, slots := 0, locals := 0 }) (dC, dI) (dk_T cI cII) [.ref (aN 0), .int x0, .int x1] (dk_N cI cII aN fr le fi ne fl du ar pr (nI z) sp) hz (fun (r : Int32) (_ : Unit) => r = nI z) (fun _ => dk_N cI cII aN fr le fi ne fl du (upd ar z x0) (upd pr z x1) (nI (z + 1)) sp) 0 0 := by
  refine dk_ofMi (cc := cX1_addSize) (maxL := 3) (by decide) rfl (Nat.le_of_ble_eq_true rfl) ?_
  intro p e s m args below meth c A ls Q ⟨hx, hb, hml, hts, hown, hnm⟩ hsz hK hP hD hA hS hl hret
  have hT : ∀ w ∈ dk_tbl, w.before args s = true := fun w h => hts w (List.mem_cons_of_mem _ h)
  have hown : s.vm.findClass RX1 = some m.cls := hown
  have hl : lv_has ls 3 [(0, .ref (aN 0)), (1, .int x0), (2, .int x1)] := hl
  refine lv_aload_n hx hb dX1_addSize_0 rfl (lv_at hl 0 rfl) ?_
  refine va_get (D := (dC, dI)) (ci := 1) (v := .ref (aN 6)) (C := RX1) (T := TX1) (N := 10) hx hb hT in_X1 hown hK hP 0 rfl rfl 6 (by decide) (hT _ mw_60) (fun _ h9 => h9) rfl dX1_addSize_1 ?_
  refine lv_aload_n hx hb dX1_addSize_4 rfl (lv_at hl 0 rfl) ?_
  refine va_get (D := (dC, dI)) (ci := 1) (v := .int (nI z)) (C := RX1) (T := TX1) (N := 10) hx hb hT in_X1 hown hK hP 0 rfl rfl 8 (by decide) (hT _ mw_62) (fun _ h9 => h9) rfl dX1_addSize_5 ?_
  refine lv_iload_n hx hb dX1_addSize_8 rfl (lv_at hl 1 rfl) ?_
  refine dk_iast (q0 := 6) (t0 := 0) (i := z) hx hb hK hP hD hS rfl rfl rfl h1 (by decide) dX1_addSize_9 (fun H locs hP hD hS => ?_)
  have hP : va_P (dC, dI) vwCl (dk_N cI cII aN fr le fi ne fl du (upd ar z x0) pr (nI z) sp) H := hP
  have hD : va_D A (dk_N cI cII aN fr le fi ne fl du (upd ar z x0) pr (nI z) sp) := hD
  refine lv_aload_n hx hb dX1_addSize_10 rfl (lv_at hl 0 rfl) ?_
  refine va_get (D := (dC, dI)) (ci := 1) (v := .ref (aN 7)) (C := RX1) (T := TX1) (N := 10) hx hb hT in_X1 hown hK hP 0 rfl rfl 7 (by decide) (hT _ mw_61) (fun _ h9 => h9) rfl dX1_addSize_11 ?_
  refine lv_aload_n hx hb dX1_addSize_14 rfl (lv_at hl 0 rfl) ?_
  refine va_get (D := (dC, dI)) (ci := 1) (v := .int (nI z)) (C := RX1) (T := TX1) (N := 10) hx hb hT in_X1 hown hK hP 0 rfl rfl 8 (by decide) (hT _ mw_62) (fun _ h9 => h9) rfl dX1_addSize_15 ?_
  refine lv_iload_n hx hb dX1_addSize_18 rfl (lv_at hl 2 rfl) ?_
  refine dk_iast (q0 := 7) (t0 := 0) (i := z) hx hb hK hP hD hS rfl rfl rfl h1 (by decide) dX1_addSize_19 (fun H locs hP hD hS => ?_)
  have hP : va_P (dC, dI) vwCl (dk_N cI cII aN fr le fi ne fl du (upd ar z x0) (upd pr z x1) (nI z) sp) H := hP
  have hD : va_D A (dk_N cI cII aN fr le fi ne fl du (upd ar z x0) (upd pr z x1) (nI z) sp) := hD
  refine lv_aload_n hx hb dX1_addSize_20 rfl (lv_at hl 0 rfl) ?_
  refine lv_dup hx hb dX1_addSize_21 rfl ?_
  refine va_get (D := (dC, dI)) (ci := 1) (v := .int (nI z)) (C := RX1) (T := TX1) (N := 10) hx hb hT in_X1 hown hK hP 0 rfl rfl 8 (by decide) (hT _ mw_62) (fun _ h9 => h9) rfl dX1_addSize_22 ?_
  refine lv_iconst (v := 1) hx hb dX1_addSize_25 (by decide) ?_
  refine lv_iadd hx hb dX1_addSize_26 ?_
  refine lv_topi (fun y9 e9 => ?_)
  obtain rfl : y9 = nI (z + 1) := by rw [e9]; exact nI_1 z
  refine va_put (D := (dC, dI)) (ci := 1) (v := .int (nI (z + 1))) (ty := .int) (C := RX1) (T := TX1) (N := 10) hx hb hT in_X1 tyX1 tyX1_ok nmX1 hown hK hP hD hS 0 rfl rfl 8 (by decide) (hT _ mw_62) (fun _ h9 => h9) rfl (by decide +kernel) rfl rfl (Nat.le_of_ble_eq_true rfl) dX1_addSize_27 (fun H locs hP hD hS => ?_)
  have hP : va_P (dC, dI) vwCl (dk_N cI cII aN fr le fi ne fl du (upd ar z x0) (upd pr z x1) (nI (z + 1)) sp) H := hP
  have hD : va_D A (dk_N cI cII aN fr le fi ne fl du (upd ar z x0) (upd pr z x1) (nI (z + 1)) sp) := hD
  refine lv_aload_n hx hb dX1_addSize_30 rfl (lv_at hl 0 rfl) ?_
  refine va_get (D := (dC, dI)) (ci := 1) (v := .int (nI (z + 1))) (C := RX1) (T := TX1) (N := 10) hx hb hT in_X1 hown hK hP 0 rfl rfl 8 (by decide) (hT _ mw_62) (fun _ h9 => h9) rfl dX1_addSize_31 ?_
  refine lv_iconst (v := 1) hx hb dX1_addSize_34 (by decide) ?_
  refine lv_isub hx hb dX1_addSize_35 ?_
  refine lv_topi (fun y9 e9 => ?_)
  obtain rfl : y9 = nI z := by rw [e9]; exact nI_pred z
  exact hret _ () _ _ _ _ rfl hP hD hS dX1_addSize_36
set_option maxHeartbeats 4000000 in
set_option maxRecDepth 100000 in
/-- DuctSizes$Network.sumFlows -/
theorem c_X1_sumFlows (l : Launch) (dC : Nat → ClassId) (dI : Nat → Nat → Nat) (cI cII : ClassId) (aN : Nat → Nat) (fr : Nat → Int32) (le : Nat → Int32) (fi : Nat → Int32) (ne : Nat → Int32) (fl : Nat → Int32) (ar : Nat → Int32) (pr : Nat → Int32) (sz : Int32) (sp : Int32) (d : Nat) (hz : Nat) (h1 : d < 7) (h2 : ∀ k, k < 7 → vp_in (fr k) 7) : dk_Mv l yX1_sumFlows wsX1_sumFlows ({ frames := 0, cells := 0, slots := 0, locals := 0 }) (dC, dI) (dk_T cI cII) [.ref (aN 0)] (dk_N cI cII aN fr le fi ne fl (nI d) ar pr sz sp) hz (fun (_ : Unit) => True) (fun _ => dk_N cI cII aN fr le fi ne (dk_up fr d (dk_cpL ne (d + 1) 0 fl)) (nI d) ar pr sz sp) 0 0 := by
  refine dk_ofMv (cc := cX1_sumFlows) (maxL := 2) (by decide) rfl (Nat.le_of_ble_eq_true rfl) ?_
  intro p e s m args below meth c A ls Q ⟨hx, hb, hml, hts, hown, hnm⟩ hsz hK hP hD hA hS hl hret
  have hT : ∀ w ∈ dk_tbl, w.before args s = true := fun w h => hts w (List.mem_cons_of_mem _ h)
  have hown : s.vm.findClass RX1 = some m.cls := hown
  have hl : lv_has ls 2 [(0, .ref (aN 0))] := hl
  refine lv_iconst (v := 0) hx hb dX1_sumFlows_0 (by decide) ?_
  refine lv_istore_n (lv' := [(1, .int 0), (0, .ref (aN 0))]) hx hb dX1_sumFlows_1 rfl hl (by decide) rfl (fun ls hl => ?_)
  have lp2 : ∀ (n i : Nat) (f : Nat → Int32) (H : Heap) (locs : List Loc) (ls : Array Slot), i + n = d + 1 → dk_cpL ne n i f = (dk_cpL ne (d + 1) 0 fl) → va_P (dC, dI) vwCl (dk_N cI cII aN fr le fi ne f (nI d) ar pr sz sp) H → va_D A (dk_N cI cII aN fr le fi ne f (nI d) ar pr sz sp) → va_S A s.heap H locs → lv_has ls 2 [(1, .int (nI i)), (0, .ref (aN 0))] → W p l e ({ frames := 0, cells := 0, slots := 0, locals := 0 }) s m args below meth c H locs 0 0 Q (F0 m 2 ls []) := by
    intro n
    induction n with
    | zero =>
      intro i f H locs ls hin2 hf2_0 hP hD hS hl
      have hf2_0 : f = (dk_cpL ne (d + 1) 0 fl) := hf2_0
      subst hf2_0
      refine lv_iload_n hx hb dX1_sumFlows_2 rfl (lv_at hl 0 rfl) ?_
      refine lv_aload_n hx hb dX1_sumFlows_3 rfl (lv_at hl 1 rfl) ?_
      refine va_get (D := (dC, dI)) (ci := 1) (v := .int (nI d)) (C := RX1) (T := TX1) (N := 10) hx hb hT in_X1 hown hK hP 0 rfl rfl 5 (by decide) (hT _ mw_57) (fun _ h9 => h9) rfl dX1_sumFlows_4 ?_
      refine lv_icmp_gt (tgt := 28) hx hb dX1_sumFlows_7 (by decide) (fun c_7 => ?_) (fun c_7 => ?_)
      · refine lv_aload_n hx hb dX1_sumFlows_28 rfl (lv_at hl 1 rfl) ?_
        refine va_get (D := (dC, dI)) (ci := 1) (v := .int (nI d)) (C := RX1) (T := TX1) (N := 10) hx hb hT in_X1 hown hK hP 0 rfl rfl 5 (by decide) (hT _ mw_57) (fun _ h9 => h9) rfl dX1_sumFlows_29 ?_
        refine lv_istore_n (lv' := [(1, .int (nI d)), (0, .ref (aN 0))]) hx hb dX1_sumFlows_32 rfl hl (by decide) rfl (fun ls hl => ?_)
        have lp33 : ∀ (n : Nat) (f2 : Nat → Int32) (H : Heap) (locs : List Loc) (ls : Array Slot), n < 7 → dk_up fr n f2 = (dk_up fr d (dk_cpL ne (d + 1) 0 fl)) → va_P (dC, dI) vwCl (dk_N cI cII aN fr le fi ne f2 (nI d) ar pr sz sp) H → va_D A (dk_N cI cII aN fr le fi ne f2 (nI d) ar pr sz sp) → va_S A s.heap H locs → lv_has ls 2 [(1, .int (nI n)), (0, .ref (aN 0))] → W p l e ({ frames := 0, cells := 0, slots := 0, locals := 0 }) s m args below meth c H locs 0 0 Q (F0 m 33 ls []) := by
          intro n
          induction n with
          | zero =>
            intro f2 H locs ls hin33 hf33_0 hP hD hS hl
            have hf33_0 : f2 = (dk_up fr d (dk_cpL ne (d + 1) 0 fl)) := hf33_0
            subst hf33_0
            refine lv_iload_n hx hb dX1_sumFlows_33 rfl (lv_at hl 0 rfl) ?_
            refine lv_iconst (v := 1) hx hb dX1_sumFlows_34 (by decide) ?_
            refine lv_icmp_lt (tgt := 64) hx hb dX1_sumFlows_35 (by decide) (fun c_35 => ?_) (fun c_35 => ?_)
            · exact hret () _ _ _ _ trivial hP hD hS dX1_sumFlows_64
            · exact absurd (by decide) c_35
          | succ n ih33 =>
            intro f2 H locs ls hin33 hf33_0 hP hD hS hl
            refine lv_iload_n hx hb dX1_sumFlows_33 rfl (lv_at hl 0 rfl) ?_
            refine lv_iconst (v := 1) hx hb dX1_sumFlows_34 (by decide) ?_
            refine lv_icmp_lt (tgt := 64) hx hb dX1_sumFlows_35 (by decide) (fun c_35 => ?_) (fun c_35 => ?_)
            · exact absurd (show nI (n + 1) < nI 1 from c_35) (nI_nlt (by omega) (by omega))
            · refine lv_aload_n hx hb dX1_sumFlows_38 rfl (lv_at hl 1 rfl) ?_
              refine va_get (D := (dC, dI)) (ci := 1) (v := .ref (aN 5)) (C := RX1) (T := TX1) (N := 10) hx hb hT in_X1 hown hK hP 0 rfl rfl 4 (by decide) (hT _ mw_55) (fun _ h9 => h9) rfl dX1_sumFlows_39 ?_
              refine lv_aload_n hx hb dX1_sumFlows_42 rfl (lv_at hl 1 rfl) ?_
              refine va_get (D := (dC, dI)) (ci := 1) (v := .ref (aN 1)) (C := RX1) (T := TX1) (N := 10) hx hb hT in_X1 hown hK hP 0 rfl rfl 0 (by decide) (hT _ mw_49) (fun _ h9 => h9) rfl dX1_sumFlows_43 ?_
              refine lv_iload_n hx hb dX1_sumFlows_46 rfl (lv_at hl 0 rfl) ?_
              refine dk_iald (q0 := 1) (t0 := 0) (i := n + 1) hx hb hK hP rfl rfl rfl (by omega) (by decide) dX1_sumFlows_47 ?_
              refine lv_dup2_11 hx hb dX1_sumFlows_48 rfl rfl ?_
              refine va_iald hx hb hK hP 5 0 rfl rfl (h2 (n + 1) (by omega)) dX1_sumFlows_49 ?_
              refine lv_aload_n hx hb dX1_sumFlows_50 rfl (lv_at hl 1 rfl) ?_
              refine va_get (D := (dC, dI)) (ci := 1) (v := .ref (aN 5)) (C := RX1) (T := TX1) (N := 10) hx hb hT in_X1 hown hK hP 0 rfl rfl 4 (by decide) (hT _ mw_55) (fun _ h9 => h9) rfl dX1_sumFlows_51 ?_
              refine lv_iload_n hx hb dX1_sumFlows_54 rfl (lv_at hl 0 rfl) ?_
              refine dk_iald (q0 := 5) (t0 := 0) (i := n + 1) hx hb hK hP rfl rfl rfl (by omega) (by decide) dX1_sumFlows_55 ?_
              refine lv_iadd hx hb dX1_sumFlows_56 ?_
              refine va_iast hx hb hK hP hD hS 5 0 rfl rfl (h2 (n + 1) (by omega)) dX1_sumFlows_57 (fun H locs hP hD hS => ?_)
              have hP : va_P (dC, dI) vwCl (dk_N cI cII aN fr le fi ne (upd f2 ((fr (n + 1))).toNatClampNeg ((f2 ((fr (n + 1))).toNatClampNeg) + (f2 (n + 1)))) (nI d) ar pr sz sp) H := hP
              have hD : va_D A (dk_N cI cII aN fr le fi ne (upd f2 ((fr (n + 1))).toNatClampNeg ((f2 ((fr (n + 1))).toNatClampNeg) + (f2 (n + 1)))) (nI d) ar pr sz sp) := hD
              refine lv_iinc (v := (nI n)) (lv' := [(1, .int (nI n)), (0, .ref (aN 0))]) hx hb dX1_sumFlows_58 hl (k := 0) rfl (pk_m1 n) (by decide) rfl (fun ls hl => ?_)
              refine lv_goto (tgt := 33) hx hb dX1_sumFlows_61 (by decide) ?_
              exact ih33 (upd f2 ((fr (n + 1))).toNatClampNeg ((f2 ((fr (n + 1))).toNatClampNeg) + (f2 (n + 1)))) _ _ _ (by omega) (by rw [← hf33_0]; rfl) hP hD hS (lv_sub hl [0, 1] rfl)
        exact lp33 d (dk_cpL ne (d + 1) 0 fl) _ _ _ (by omega) rfl hP hD hS (lv_sub hl [0, 1] rfl)
      · exact absurd (nI_lt (by omega) (by omega)) c_7
    | succ n ih2 =>
      intro i f H locs ls hin2 hf2_0 hP hD hS hl
      refine lv_iload_n hx hb dX1_sumFlows_2 rfl (lv_at hl 0 rfl) ?_
      refine lv_aload_n hx hb dX1_sumFlows_3 rfl (lv_at hl 1 rfl) ?_
      refine va_get (D := (dC, dI)) (ci := 1) (v := .int (nI d)) (C := RX1) (T := TX1) (N := 10) hx hb hT in_X1 hown hK hP 0 rfl rfl 5 (by decide) (hT _ mw_57) (fun _ h9 => h9) rfl dX1_sumFlows_4 ?_
      refine lv_icmp_gt (tgt := 28) hx hb dX1_sumFlows_7 (by decide) (fun c_7 => ?_) (fun c_7 => ?_)
      · exact absurd c_7 (nI_nlt (by omega) (by omega))
      · refine lv_aload_n hx hb dX1_sumFlows_10 rfl (lv_at hl 1 rfl) ?_
        refine va_get (D := (dC, dI)) (ci := 1) (v := .ref (aN 5)) (C := RX1) (T := TX1) (N := 10) hx hb hT in_X1 hown hK hP 0 rfl rfl 4 (by decide) (hT _ mw_55) (fun _ h9 => h9) rfl dX1_sumFlows_11 ?_
        refine lv_iload_n hx hb dX1_sumFlows_14 rfl (lv_at hl 0 rfl) ?_
        refine lv_aload_n hx hb dX1_sumFlows_15 rfl (lv_at hl 1 rfl) ?_
        refine va_get (D := (dC, dI)) (ci := 1) (v := .ref (aN 4)) (C := RX1) (T := TX1) (N := 10) hx hb hT in_X1 hown hK hP 0 rfl rfl 3 (by decide) (hT _ mw_53) (fun _ h9 => h9) rfl dX1_sumFlows_16 ?_
        refine lv_iload_n hx hb dX1_sumFlows_19 rfl (lv_at hl 0 rfl) ?_
        refine dk_iald (q0 := 4) (t0 := 0) (i := i) hx hb hK hP rfl rfl rfl (by omega) (by decide) dX1_sumFlows_20 ?_
        refine dk_iast (q0 := 5) (t0 := 0) (i := i) hx hb hK hP hD hS rfl rfl rfl (by omega) (by decide) dX1_sumFlows_21 (fun H locs hP hD hS => ?_)
        have hP : va_P (dC, dI) vwCl (dk_N cI cII aN fr le fi ne (upd f i (ne i)) (nI d) ar pr sz sp) H := hP
        have hD : va_D A (dk_N cI cII aN fr le fi ne (upd f i (ne i)) (nI d) ar pr sz sp) := hD
        refine lv_iinc (v := (nI (i + 1))) (lv' := [(1, .int (nI (i + 1))), (0, .ref (aN 0))]) hx hb dX1_sumFlows_22 hl (k := 0) rfl (nI_1 i) (by decide) rfl (fun ls hl => ?_)
        refine lv_goto (tgt := 2) hx hb dX1_sumFlows_25 (by decide) ?_
        exact ih2 (i + 1) (upd f i (ne i)) _ _ _ (by omega) (by rw [← hf2_0]; rfl) hP hD hS (lv_sub hl [0, 1] rfl)
  exact lp2 (d + 1) 0 fl _ _ _ (by omega) rfl hP hD hS (lv_sub hl [0, 1] rfl)
set_option maxHeartbeats 4000000 in
set_option maxRecDepth 100000 in
/-- DuctSizes$Network.changeNeed -/
theorem c_X1_changeNeed (l : Launch) (dC : Nat → ClassId) (dI : Nat → Nat → Nat) (cI cII : ClassId) (aN : Nat → Nat) (fr : Nat → Int32) (le : Nat → Int32) (fi : Nat → Int32) (ne : Nat → Int32) (fl : Nat → Int32) (ar : Nat → Int32) (pr : Nat → Int32) (sz : Int32) (sp : Int32) (d : Nat) (i : Nat) (x : Int32) (hz : Nat) (h1 : d < 7) (h2 : ∀ k, k < 7 → vp_in (fr k) 7) (h3 : i < 7) : dk_Mi l yX1_changeNeed wsX1_changeNeed ({ frames := 1, cells := 0, slots := 0, locals := 21 }) (dC, dI) (dk_T cI cII) [.ref (aN 0), .int (nI i), .int x] (dk_N cI cII aN fr le fi ne fl (nI d) ar pr sz sp) hz (fun (r : Int32) (_ : Unit) => r = ne i) (fun _ => dk_N cI cII aN fr le fi (upd ne i x) (dk_up fr d (dk_cpL (upd ne i x) (d + 1) 0 fl)) (nI d) ar pr sz sp) 0 0 := by
  refine dk_ofMi (cc := cX1_changeNeed) (maxL := 4) (by decide) rfl (Nat.le_of_ble_eq_true rfl) ?_
  intro p e s m args below meth c A ls Q ⟨hx, hb, hml, hts, hown, hnm⟩ hsz hK hP hD hA hS hl hret
  have hT : ∀ w ∈ dk_tbl, w.before args s = true := fun w h => hts w (List.mem_cons_of_mem _ h)
  have hown : s.vm.findClass RX1 = some m.cls := hown
  have hl : lv_has ls 4 [(0, .ref (aN 0)), (1, .int (nI i)), (2, .int x)] := hl
  refine lv_aload_n hx hb dX1_changeNeed_0 rfl (lv_at hl 0 rfl) ?_
  refine va_get (D := (dC, dI)) (ci := 1) (v := .ref (aN 4)) (C := RX1) (T := TX1) (N := 10) hx hb hT in_X1 hown hK hP 0 rfl rfl 3 (by decide) (hT _ mw_53) (fun _ h9 => h9) rfl dX1_changeNeed_1 ?_
  refine lv_iload_n hx hb dX1_changeNeed_4 rfl (lv_at hl 1 rfl) ?_
  refine dk_iald (q0 := 4) (t0 := 0) (i := i) hx hb hK hP rfl rfl rfl h3 (by decide) dX1_changeNeed_5 ?_
  refine lv_istore_n (lv' := [(3, .int (ne i)), (0, .ref (aN 0)), (1, .int (nI i)), (2, .int x)]) hx hb dX1_changeNeed_6 rfl hl (by decide) rfl (fun ls hl => ?_)
  refine lv_aload_n hx hb dX1_changeNeed_7 rfl (lv_at hl 1 rfl) ?_
  refine va_get (D := (dC, dI)) (ci := 1) (v := .ref (aN 4)) (C := RX1) (T := TX1) (N := 10) hx hb hT in_X1 hown hK hP 0 rfl rfl 3 (by decide) (hT _ mw_53) (fun _ h9 => h9) rfl dX1_changeNeed_8 ?_
  refine lv_iload_n hx hb dX1_changeNeed_11 rfl (lv_at hl 2 rfl) ?_
  refine lv_iload_n hx hb dX1_changeNeed_12 rfl (lv_at hl 3 rfl) ?_
  refine dk_iast (q0 := 4) (t0 := 0) (i := i) hx hb hK hP hD hS rfl rfl rfl h3 (by decide) dX1_changeNeed_13 (fun H locs hP hD hS => ?_)
  have hP : va_P (dC, dI) vwCl (dk_N cI cII aN fr le fi (upd ne i x) fl (nI d) ar pr sz sp) H := hP
  have hD : va_D A (dk_N cI cII aN fr le fi (upd ne i x) fl (nI d) ar pr sz sp) := hD
  refine lv_aload_n hx hb dX1_changeNeed_14 rfl (lv_at hl 1 rfl) ?_
  refine dk_callv (wr := []) (va_runV (As := []) (rest := []) ⟨hx, hb, hml, hown, hT⟩ (c_X1_sumFlows l dC dI cI cII aN fr le fi (upd ne i x) fl ar pr sz sp d _ h1 h2) (cwV 0 hT (dk_gV mw_355 mw_357 mw_8 mw_24 mw_358) rfl rfl rfl (by decide +kernel) ⟨(Nat.le_of_ble_eq_true rfl), (Nat.le_of_ble_eq_true rfl)⟩) (dk_preV hK hP hD [0, 1, 2, 3, 4, 5, 6, 7] rfl rfl (q0 := 0) (ci := 1) rfl rfl) rfl rfl hl.1 rfl (lv_room (Nat.le_of_ble_eq_true rfl)) dX1_changeNeed_15 ⟨Nat.le_of_ble_eq_true rfl, Nat.le_of_ble_eq_true rfl⟩) hP hD hS hA [0, 1, 2, 3, 4, 5, 6, 7] [] rfl rfl rfl (by decide) (fun _ H locs h9 hP hD hS => ?_)
  have hP : va_P (dC, dI) vwCl (dk_N cI cII aN fr le fi (upd ne i x) (dk_up fr d (dk_cpL (upd ne i x) (d + 1) 0 fl)) (nI d) ar pr sz sp) H := hP
  have hD : va_D A (dk_N cI cII aN fr le fi (upd ne i x) (dk_up fr d (dk_cpL (upd ne i x) (d + 1) 0 fl)) (nI d) ar pr sz sp) := hD
  refine lv_iload_n hx hb dX1_changeNeed_18 rfl (lv_at hl 0 rfl) ?_
  exact hret _ () _ _ _ _ rfl hP hD hS dX1_changeNeed_19
end
section
set_option maxHeartbeats 4000000 in
set_option maxRecDepth 100000 in
/-- DuctSizes$Curve.takes -/
theorem c_X0_takes (l : Launch) (dC : Nat → ClassId) (dI : Nat → Nat → Nat) (cI cII : ClassId) (aC : Nat → Nat) (cf : Nat → Int32) (cp : Nat → Int32) (k : Nat) (x0 : Int32) (x1 : Int32) (h1 : k ≤ 5) : dk_Ri l yX0_takes wsX0_takes ({ frames := 0, cells := 0, slots := 0, locals := 0 }) (dC, dI) (dk_T cI cII) [.ref (aC 0), .int x0, .int x1] (dk_C cI cII aC cf cp (nI k)) (fun r => r = dk_takes cf cp k x0 x1) := by
  refine dk_ofRz (cc := cX0_takes) (maxL := 3) (by decide) rfl (Nat.le_of_ble_eq_true rfl) ?_
  intro p e s m args below meth c ls Q H ⟨hx, hb, hml, hts, hown, hnm⟩ hK hP hl hret
  have hT : ∀ w ∈ dk_tbl, w.before args s = true := fun w h => hts w (List.mem_cons_of_mem _ h)
  have hown : s.vm.findClass RX0 = some m.cls := hown
  have hl : lv_has ls 3 [(0, .ref (aC 0)), (1, .int x0), (2, .int x1)] := hl
  refine lv_aload_n hx hb dX0_takes_0 rfl (lv_at hl 0 rfl) ?_
  refine va_get (D := (dC, dI)) (ci := 0) (v := .int (nI k)) (C := RX0) (T := TX0) (N := 3) hx hb hT in_X0 hown hK hP 0 rfl rfl 2 (by decide) (hT _ mw_97) (fun _ h9 => h9) rfl dX0_takes_1 ?_
  refine lv_iconst (v := 5) hx hb dX0_takes_4 (by decide) ?_
  refine lv_icmp_lt (tgt := 10) hx hb dX0_takes_5 (by decide) (fun c_5 => ?_) (fun c_5 => ?_)
  · refine lv_aload_n hx hb dX0_takes_10 rfl (lv_at hl 0 rfl) ?_
    refine va_get (D := (dC, dI)) (ci := 0) (v := .int (nI k)) (C := RX0) (T := TX0) (N := 3) hx hb hT in_X0 hown hK hP 0 rfl rfl 2 (by decide) (hT _ mw_97) (fun _ h9 => h9) rfl dX0_takes_11 ?_
    refine lv_if_eq (tgt := 47) hx hb dX0_takes_14 (by decide) (fun c_14 => ?_) (fun c_14 => ?_)
    · refine lv_iconst (v := 1) hx hb dX0_takes_47 (by decide) ?_
      refine lv_goto (tgt := 52) hx hb dX0_takes_48 (by decide) ?_
      exact hret _ _ _ rfl (by unfold dk_takes; rw [if_pos c_5, if_pos c_14]) dX0_takes_52
    · refine lv_iload_n hx hb dX0_takes_17 rfl (lv_at hl 1 rfl) ?_
      refine lv_aload_n hx hb dX0_takes_18 rfl (lv_at hl 0 rfl) ?_
      refine va_get (D := (dC, dI)) (ci := 0) (v := .ref (aC 1)) (C := RX0) (T := TX0) (N := 3) hx hb hT in_X0 hown hK hP 0 rfl rfl 0 (by decide) (hT _ mw_95) (fun _ h9 => h9) rfl dX0_takes_19 ?_
      refine lv_aload_n hx hb dX0_takes_22 rfl (lv_at hl 0 rfl) ?_
      refine va_get (D := (dC, dI)) (ci := 0) (v := .int (nI k)) (C := RX0) (T := TX0) (N := 3) hx hb hT in_X0 hown hK hP 0 rfl rfl 2 (by decide) (hT _ mw_97) (fun _ h9 => h9) rfl dX0_takes_23 ?_
      refine lv_iconst (v := 1) hx hb dX0_takes_26 (by decide) ?_
      refine lv_isub hx hb dX0_takes_27 ?_
      refine lv_topi (fun y9 e9 => ?_)
      obtain rfl : y9 = nI (k - 1) := by rw [e9]; exact dk_m1 (Nat.pos_of_ne_zero (fun h => c_14 (by rw [h]; rfl)))
      refine dk_iald (q0 := 1) (t0 := 0) (i := k - 1) hx hb hK hP rfl rfl rfl (by omega) (by decide) dX0_takes_28 ?_
      refine lv_icmp_le (tgt := 51) hx hb dX0_takes_29 (by decide) (fun c_29 => ?_) (fun c_29 => ?_)
      · refine lv_iconst (v := 0) hx hb dX0_takes_51 (by decide) ?_
        exact hret _ _ _ rfl (by unfold dk_takes; rw [if_pos c_5, if_neg c_14, if_pos c_29]) dX0_takes_52
      · refine lv_iload_n hx hb dX0_takes_32 rfl (lv_at hl 2 rfl) ?_
        refine lv_aload_n hx hb dX0_takes_33 rfl (lv_at hl 0 rfl) ?_
        refine va_get (D := (dC, dI)) (ci := 0) (v := .ref (aC 2)) (C := RX0) (T := TX0) (N := 3) hx hb hT in_X0 hown hK hP 0 rfl rfl 1 (by decide) (hT _ mw_96) (fun _ h9 => h9) rfl dX0_takes_34 ?_
        refine lv_aload_n hx hb dX0_takes_37 rfl (lv_at hl 0 rfl) ?_
        refine va_get (D := (dC, dI)) (ci := 0) (v := .int (nI k)) (C := RX0) (T := TX0) (N := 3) hx hb hT in_X0 hown hK hP 0 rfl rfl 2 (by decide) (hT _ mw_97) (fun _ h9 => h9) rfl dX0_takes_38 ?_
        refine lv_iconst (v := 1) hx hb dX0_takes_41 (by decide) ?_
        refine lv_isub hx hb dX0_takes_42 ?_
        refine lv_topi (fun y9 e9 => ?_)
        obtain rfl : y9 = nI (k - 1) := by rw [e9]; exact dk_m1 (Nat.pos_of_ne_zero (fun h => c_14 (by rw [h]; rfl)))
        refine dk_iald (q0 := 2) (t0 := 0) (i := k - 1) hx hb hK hP rfl rfl rfl (by omega) (by decide) dX0_takes_43 ?_
        refine lv_icmp_gt (tgt := 51) hx hb dX0_takes_44 (by decide) (fun c_44 => ?_) (fun c_44 => ?_)
        · refine lv_iconst (v := 0) hx hb dX0_takes_51 (by decide) ?_
          exact hret _ _ _ rfl (by unfold dk_takes; rw [if_pos c_5, if_neg c_14, if_neg c_29, if_pos c_44]) dX0_takes_52
        · refine lv_iconst (v := 1) hx hb dX0_takes_47 (by decide) ?_
          refine lv_goto (tgt := 52) hx hb dX0_takes_48 (by decide) ?_
          exact hret _ _ _ rfl (by unfold dk_takes; rw [if_pos c_5, if_neg c_14, if_neg c_29, if_neg c_44]) dX0_takes_52
  · refine lv_iconst (v := 0) hx hb dX0_takes_8 (by decide) ?_
    exact hret _ _ _ rfl (by unfold dk_takes; rw [if_neg c_5]) dX0_takes_9
set_option maxHeartbeats 4000000 in
set_option maxRecDepth 100000 in
/-- DuctSizes$Curve.addPoint -/
theorem c_X0_addPoint (l : Launch) (dC : Nat → ClassId) (dI : Nat → Nat → Nat) (cI cII : ClassId) (aC : Nat → Nat) (cf : Nat → Int32) (cp : Nat → Int32) (k : Nat) (x0 : Int32) (x1 : Int32) (hz : Nat) (h1 : k < 5) : dk_Mi l yX0_addPoint wsX0_addPoint ({ frames := 0, cells := 0, slots := 0, locals := 0 }) (dC, dI) (dk_T cI cII) [.ref (aC 0), .int x0, .int x1] (dk_C cI cII aC cf cp (nI k)) hz (fun (r : Int32) (_ : Unit) => r = nI (k + 1)) (fun _ => dk_C cI cII aC (upd cf k x0) (upd cp k x1) (nI (k + 1))) 0 0 := by
  refine dk_ofMi (cc := cX0_addPoint) (maxL := 3) (by decide) rfl (Nat.le_of_ble_eq_true rfl) ?_
  intro p e s m args below meth c A ls Q ⟨hx, hb, hml, hts, hown, hnm⟩ hsz hK hP hD hA hS hl hret
  have hT : ∀ w ∈ dk_tbl, w.before args s = true := fun w h => hts w (List.mem_cons_of_mem _ h)
  have hown : s.vm.findClass RX0 = some m.cls := hown
  have hl : lv_has ls 3 [(0, .ref (aC 0)), (1, .int x0), (2, .int x1)] := hl
  refine lv_aload_n hx hb dX0_addPoint_0 rfl (lv_at hl 0 rfl) ?_
  refine va_get (D := (dC, dI)) (ci := 0) (v := .ref (aC 1)) (C := RX0) (T := TX0) (N := 3) hx hb hT in_X0 hown hK hP 0 rfl rfl 0 (by decide) (hT _ mw_95) (fun _ h9 => h9) rfl dX0_addPoint_1 ?_
  refine lv_aload_n hx hb dX0_addPoint_4 rfl (lv_at hl 0 rfl) ?_
  refine va_get (D := (dC, dI)) (ci := 0) (v := .int (nI k)) (C := RX0) (T := TX0) (N := 3) hx hb hT in_X0 hown hK hP 0 rfl rfl 2 (by decide) (hT _ mw_97) (fun _ h9 => h9) rfl dX0_addPoint_5 ?_
  refine lv_iload_n hx hb dX0_addPoint_8 rfl (lv_at hl 1 rfl) ?_
  refine dk_iast (q0 := 1) (t0 := 0) (i := k) hx hb hK hP hD hS rfl rfl rfl h1 (by decide) dX0_addPoint_9 (fun H locs hP hD hS => ?_)
  have hP : va_P (dC, dI) vwCl (dk_C cI cII aC (upd cf k x0) cp (nI k)) H := hP
  have hD : va_D A (dk_C cI cII aC (upd cf k x0) cp (nI k)) := hD
  refine lv_aload_n hx hb dX0_addPoint_10 rfl (lv_at hl 0 rfl) ?_
  refine va_get (D := (dC, dI)) (ci := 0) (v := .ref (aC 2)) (C := RX0) (T := TX0) (N := 3) hx hb hT in_X0 hown hK hP 0 rfl rfl 1 (by decide) (hT _ mw_96) (fun _ h9 => h9) rfl dX0_addPoint_11 ?_
  refine lv_aload_n hx hb dX0_addPoint_14 rfl (lv_at hl 0 rfl) ?_
  refine va_get (D := (dC, dI)) (ci := 0) (v := .int (nI k)) (C := RX0) (T := TX0) (N := 3) hx hb hT in_X0 hown hK hP 0 rfl rfl 2 (by decide) (hT _ mw_97) (fun _ h9 => h9) rfl dX0_addPoint_15 ?_
  refine lv_iload_n hx hb dX0_addPoint_18 rfl (lv_at hl 2 rfl) ?_
  refine dk_iast (q0 := 2) (t0 := 0) (i := k) hx hb hK hP hD hS rfl rfl rfl h1 (by decide) dX0_addPoint_19 (fun H locs hP hD hS => ?_)
  have hP : va_P (dC, dI) vwCl (dk_C cI cII aC (upd cf k x0) (upd cp k x1) (nI k)) H := hP
  have hD : va_D A (dk_C cI cII aC (upd cf k x0) (upd cp k x1) (nI k)) := hD
  refine lv_aload_n hx hb dX0_addPoint_20 rfl (lv_at hl 0 rfl) ?_
  refine lv_dup hx hb dX0_addPoint_21 rfl ?_
  refine va_get (D := (dC, dI)) (ci := 0) (v := .int (nI k)) (C := RX0) (T := TX0) (N := 3) hx hb hT in_X0 hown hK hP 0 rfl rfl 2 (by decide) (hT _ mw_97) (fun _ h9 => h9) rfl dX0_addPoint_22 ?_
  refine lv_iconst (v := 1) hx hb dX0_addPoint_25 (by decide) ?_
  refine lv_iadd hx hb dX0_addPoint_26 ?_
  refine lv_topi (fun y9 e9 => ?_)
  obtain rfl : y9 = nI (k + 1) := by rw [e9]; exact nI_1 k
  refine va_put (D := (dC, dI)) (ci := 0) (v := .int (nI (k + 1))) (ty := .int) (C := RX0) (T := TX0) (N := 3) hx hb hT in_X0 tyX0 tyX0_ok nmX0 hown hK hP hD hS 0 rfl rfl 2 (by decide) (hT _ mw_97) (fun _ h9 => h9) rfl (by decide +kernel) rfl rfl (Nat.le_of_ble_eq_true rfl) dX0_addPoint_27 (fun H locs hP hD hS => ?_)
  have hP : va_P (dC, dI) vwCl (dk_C cI cII aC (upd cf k x0) (upd cp k x1) (nI (k + 1))) H := hP
  have hD : va_D A (dk_C cI cII aC (upd cf k x0) (upd cp k x1) (nI (k + 1))) := hD
  refine lv_aload_n hx hb dX0_addPoint_30 rfl (lv_at hl 0 rfl) ?_
  refine va_get (D := (dC, dI)) (ci := 0) (v := .int (nI (k + 1))) (C := RX0) (T := TX0) (N := 3) hx hb hT in_X0 hown hK hP 0 rfl rfl 2 (by decide) (hT _ mw_97) (fun _ h9 => h9) rfl dX0_addPoint_31 ?_
  exact hret _ () _ _ _ _ rfl hP hD hS dX0_addPoint_34
set_option maxHeartbeats 4000000 in
set_option maxRecDepth 100000 in
/-- DuctSizes$Curve.pressureBefore -/
theorem c_X0_pressureBefore (l : Launch) (dC : Nat → ClassId) (dI : Nat → Nat → Nat) (cI cII : ClassId) (aC : Nat → Nat) (cf : Nat → Int32) (cp : Nat → Int32) (pt : Int32) (i : Nat) (x : Int32) (h1 : i < 5) (h2 : 0 < i) (h3 : ¬ (cf i) - (cf (i - 1)) = 0) : dk_Ri l yX0_pressureBefore wsX0_pressureBefore ({ frames := 0, cells := 0, slots := 0, locals := 0 }) (dC, dI) (dk_T cI cII) [.ref (aC 0), .int (nI i), .int x] (dk_C cI cII aC cf cp pt) (fun r => r = dk_pb cf cp i x) := by
  refine dk_ofRi (cc := cX0_pressureBefore) (maxL := 6) (by decide) rfl (Nat.le_of_ble_eq_true rfl) ?_
  intro p e s m args below meth c ls Q H ⟨hx, hb, hml, hts, hown, hnm⟩ hK hP hl hret
  have hT : ∀ w ∈ dk_tbl, w.before args s = true := fun w h => hts w (List.mem_cons_of_mem _ h)
  have hown : s.vm.findClass RX0 = some m.cls := hown
  have hl : lv_has ls 6 [(0, .ref (aC 0)), (1, .int (nI i)), (2, .int x)] := hl
  refine lv_iload_n hx hb dX0_pressureBefore_0 rfl (lv_at hl 1 rfl) ?_
  refine lv_iconst (v := 1) hx hb dX0_pressureBefore_1 (by decide) ?_
  refine lv_isub hx hb dX0_pressureBefore_2 ?_
  refine lv_topi (fun y9 e9 => ?_)
  obtain rfl : y9 = nI (i - 1) := by rw [e9]; exact dk_m1 h2
  refine lv_istore_n (lv' := [(3, .int (nI (i - 1))), (0, .ref (aC 0)), (1, .int (nI i)), (2, .int x)]) hx hb dX0_pressureBefore_3 rfl hl (by decide) rfl (fun ls hl => ?_)
  refine lv_aload_n hx hb dX0_pressureBefore_4 rfl (lv_at hl 1 rfl) ?_
  refine va_get (D := (dC, dI)) (ci := 0) (v := .ref (aC 1)) (C := RX0) (T := TX0) (N := 3) hx hb hT in_X0 hown hK hP 0 rfl rfl 0 (by decide) (hT _ mw_95) (fun _ h9 => h9) rfl dX0_pressureBefore_5 ?_
  refine lv_iload_n hx hb dX0_pressureBefore_8 rfl (lv_at hl 2 rfl) ?_
  refine dk_iald (q0 := 1) (t0 := 0) (i := i) hx hb hK hP rfl rfl rfl h1 (by decide) dX0_pressureBefore_9 ?_
  refine lv_aload_n hx hb dX0_pressureBefore_10 rfl (lv_at hl 1 rfl) ?_
  refine va_get (D := (dC, dI)) (ci := 0) (v := .ref (aC 1)) (C := RX0) (T := TX0) (N := 3) hx hb hT in_X0 hown hK hP 0 rfl rfl 0 (by decide) (hT _ mw_95) (fun _ h9 => h9) rfl dX0_pressureBefore_11 ?_
  refine lv_iload_n hx hb dX0_pressureBefore_14 rfl (lv_at hl 0 rfl) ?_
  refine dk_iald (q0 := 1) (t0 := 0) (i := i - 1) hx hb hK hP rfl rfl rfl (by omega) (by decide) dX0_pressureBefore_15 ?_
  refine lv_isub hx hb dX0_pressureBefore_16 ?_
  refine lv_istore (lv' := [(4, .int ((cf i) - (cf (i - 1)))), (3, .int (nI (i - 1))), (0, .ref (aC 0)), (1, .int (nI i)), (2, .int x)]) hx hb dX0_pressureBefore_17 hl (by decide) rfl (fun ls hl => ?_)
  refine lv_aload_n hx hb dX0_pressureBefore_19 rfl (lv_at hl 2 rfl) ?_
  refine va_get (D := (dC, dI)) (ci := 0) (v := .ref (aC 2)) (C := RX0) (T := TX0) (N := 3) hx hb hT in_X0 hown hK hP 0 rfl rfl 1 (by decide) (hT _ mw_96) (fun _ h9 => h9) rfl dX0_pressureBefore_20 ?_
  refine lv_iload_n hx hb dX0_pressureBefore_23 rfl (lv_at hl 1 rfl) ?_
  refine dk_iald (q0 := 2) (t0 := 0) (i := i - 1) hx hb hK hP rfl rfl rfl (by omega) (by decide) dX0_pressureBefore_24 ?_
  refine lv_aload_n hx hb dX0_pressureBefore_25 rfl (lv_at hl 2 rfl) ?_
  refine va_get (D := (dC, dI)) (ci := 0) (v := .ref (aC 2)) (C := RX0) (T := TX0) (N := 3) hx hb hT in_X0 hown hK hP 0 rfl rfl 1 (by decide) (hT _ mw_96) (fun _ h9 => h9) rfl dX0_pressureBefore_26 ?_
  refine lv_iload_n hx hb dX0_pressureBefore_29 rfl (lv_at hl 3 rfl) ?_
  refine dk_iald (q0 := 2) (t0 := 0) (i := i) hx hb hK hP rfl rfl rfl h1 (by decide) dX0_pressureBefore_30 ?_
  refine lv_isub hx hb dX0_pressureBefore_31 ?_
  refine lv_iload_n hx hb dX0_pressureBefore_32 rfl (lv_at hl 4 rfl) ?_
  refine lv_aload_n hx hb dX0_pressureBefore_33 rfl (lv_at hl 2 rfl) ?_
  refine va_get (D := (dC, dI)) (ci := 0) (v := .ref (aC 1)) (C := RX0) (T := TX0) (N := 3) hx hb hT in_X0 hown hK hP 0 rfl rfl 0 (by decide) (hT _ mw_95) (fun _ h9 => h9) rfl dX0_pressureBefore_34 ?_
  refine lv_iload_n hx hb dX0_pressureBefore_37 rfl (lv_at hl 1 rfl) ?_
  refine dk_iald (q0 := 1) (t0 := 0) (i := i - 1) hx hb hK hP rfl rfl rfl (by omega) (by decide) dX0_pressureBefore_38 ?_
  refine lv_isub hx hb dX0_pressureBefore_39 ?_
  refine lv_imul hx hb dX0_pressureBefore_40 ?_
  refine lv_istore (lv' := [(5, .int (((cp (i - 1)) - (cp i)) * (x - (cf (i - 1))))), (4, .int ((cf i) - (cf (i - 1)))), (3, .int (nI (i - 1))), (0, .ref (aC 0)), (1, .int (nI i)), (2, .int x)]) hx hb dX0_pressureBefore_41 hl (by decide) rfl (fun ls hl => ?_)
  refine lv_aload_n hx hb dX0_pressureBefore_43 rfl (lv_at hl 3 rfl) ?_
  refine va_get (D := (dC, dI)) (ci := 0) (v := .ref (aC 2)) (C := RX0) (T := TX0) (N := 3) hx hb hT in_X0 hown hK hP 0 rfl rfl 1 (by decide) (hT _ mw_96) (fun _ h9 => h9) rfl dX0_pressureBefore_44 ?_
  refine lv_iload_n hx hb dX0_pressureBefore_47 rfl (lv_at hl 2 rfl) ?_
  refine dk_iald (q0 := 2) (t0 := 0) (i := i - 1) hx hb hK hP rfl rfl rfl (by omega) (by decide) dX0_pressureBefore_48 ?_
  refine lv_iload hx hb dX0_pressureBefore_49 (lv_at hl 0 rfl) ?_
  refine lv_iload hx hb dX0_pressureBefore_51 (lv_at hl 1 rfl) ?_
  refine lv_iadd hx hb dX0_pressureBefore_53 ?_
  refine lv_iconst (v := 1) hx hb dX0_pressureBefore_54 (by decide) ?_
  refine lv_isub hx hb dX0_pressureBefore_55 ?_
  refine lv_iload hx hb dX0_pressureBefore_56 (lv_at hl 1 rfl) ?_
  refine lv_idiv hx hb dX0_pressureBefore_58 h3 ?_
  refine lv_isub hx hb dX0_pressureBefore_59 ?_
  exact hret _ _ _ rfl dX0_pressureBefore_60
set_option maxHeartbeats 4000000 in
set_option maxRecDepth 100000 in
/-- DuctSizes$Curve.pressureAt -/
theorem c_X0_pressureAt (l : Launch) (dC : Nat → ClassId) (dI : Nat → Nat → Nat) (cI cII : ClassId) (aC : Nat → Nat) (cf : Nat → Int32) (cp : Nat → Int32) (k : Nat) (x : Int32) (h1 : k ≤ 5) (h2 : ∀ i, 0 < i → i < k → ¬ cf i - cf (i - 1) = 0) : dk_Ri l yX0_pressureAt wsX0_pressureAt ({ frames := 1, cells := 0, slots := 0, locals := 25 }) (dC, dI) (dk_T cI cII) [.ref (aC 0), .int x] (dk_C cI cII aC cf cp (nI k)) (fun r => r = dk_gives cf cp k x) := by
  refine dk_ofRi (cc := cX0_pressureAt) (maxL := 3) (by decide) rfl (Nat.le_of_ble_eq_true rfl) ?_
  intro p e s m args below meth c ls Q H ⟨hx, hb, hml, hts, hown, hnm⟩ hK hP hl hret
  have hT : ∀ w ∈ dk_tbl, w.before args s = true := fun w h => hts w (List.mem_cons_of_mem _ h)
  have hown : s.vm.findClass RX0 = some m.cls := hown
  have hl : lv_has ls 3 [(0, .ref (aC 0)), (1, .int x)] := hl
  refine lv_aload_n hx hb dX0_pressureAt_0 rfl (lv_at hl 0 rfl) ?_
  refine va_get (D := (dC, dI)) (ci := 0) (v := .int (nI k)) (C := RX0) (T := TX0) (N := 3) hx hb hT in_X0 hown hK hP 0 rfl rfl 2 (by decide) (hT _ mw_97) (fun _ h9 => h9) rfl dX0_pressureAt_1 ?_
  refine lv_if_ne (tgt := 11) hx hb dX0_pressureAt_4 (by decide) (fun c_4 => ?_) (fun c_4 => ?_)
  · refine lv_iload_n hx hb dX0_pressureAt_11 rfl (lv_at hl 1 rfl) ?_
    refine lv_aload_n hx hb dX0_pressureAt_12 rfl (lv_at hl 0 rfl) ?_
    refine va_get (D := (dC, dI)) (ci := 0) (v := .ref (aC 1)) (C := RX0) (T := TX0) (N := 3) hx hb hT in_X0 hown hK hP 0 rfl rfl 0 (by decide) (hT _ mw_95) (fun _ h9 => h9) rfl dX0_pressureAt_13 ?_
    refine lv_iconst (v := 0) hx hb dX0_pressureAt_16 (by decide) ?_
    refine dk_iald (q0 := 1) (t0 := 0) (i := 0) hx hb hK hP rfl rfl (by decide) (by omega) (by decide) dX0_pressureAt_17 ?_
    refine lv_icmp_gt (tgt := 28) hx hb dX0_pressureAt_18 (by decide) (fun c_18 => ?_) (fun c_18 => ?_)
    · refine lv_iconst (v := 1) hx hb dX0_pressureAt_28 (by decide) ?_
      refine lv_istore_n (lv' := [(2, .int 1), (0, .ref (aC 0)), (1, .int x)]) hx hb dX0_pressureAt_29 rfl hl (by decide) rfl (fun ls hl => ?_)
      have lp30 : ∀ (n i : Nat) (ls : Array Slot), i + n = k ∧ 0 < i → dk_at cf cp x n i = (dk_at cf cp x (k - 1) 1) → lv_has ls 3 [(2, .int (nI i)), (0, .ref (aC 0)), (1, .int x)] → W p l e ({ frames := 1, cells := 0, slots := 0, locals := 25 }) s m args below meth c H [] 0 0 Q (F0 m 30 ls []) := by
        intro n
        induction n with
        | zero =>
          intro i ls hin30 hf30_0 hl
          refine lv_iload_n hx hb dX0_pressureAt_30 rfl (lv_at hl 0 rfl) ?_
          refine lv_aload_n hx hb dX0_pressureAt_31 rfl (lv_at hl 1 rfl) ?_
          refine va_get (D := (dC, dI)) (ci := 0) (v := .int (nI k)) (C := RX0) (T := TX0) (N := 3) hx hb hT in_X0 hown hK hP 0 rfl rfl 2 (by decide) (hT _ mw_97) (fun _ h9 => h9) rfl dX0_pressureAt_32 ?_
          refine lv_icmp_ge (tgt := 61) hx hb dX0_pressureAt_35 (by decide) (fun c_35 => ?_) (fun c_35 => ?_)
          · refine lv_iconst (v := 0) hx hb dX0_pressureAt_61 (by decide) ?_
            exact hret _ _ _ (by unfold dk_gives; rw [if_neg (show ¬ nI k = 0 from c_4)]; rw [if_pos c_18]; exact hf30_0) dX0_pressureAt_62
          · exact absurd (nI_le (by omega) (by omega)) c_35
        | succ n ih30 =>
          intro i ls hin30 hf30_0 hl
          refine lv_iload_n hx hb dX0_pressureAt_30 rfl (lv_at hl 0 rfl) ?_
          refine lv_aload_n hx hb dX0_pressureAt_31 rfl (lv_at hl 1 rfl) ?_
          refine va_get (D := (dC, dI)) (ci := 0) (v := .int (nI k)) (C := RX0) (T := TX0) (N := 3) hx hb hT in_X0 hown hK hP 0 rfl rfl 2 (by decide) (hT _ mw_97) (fun _ h9 => h9) rfl dX0_pressureAt_32 ?_
          refine lv_icmp_ge (tgt := 61) hx hb dX0_pressureAt_35 (by decide) (fun c_35 => ?_) (fun c_35 => ?_)
          · exact absurd c_35 (nI_ge (by omega) (by omega))
          · refine lv_iload_n hx hb dX0_pressureAt_38 rfl (lv_at hl 2 rfl) ?_
            refine lv_aload_n hx hb dX0_pressureAt_39 rfl (lv_at hl 1 rfl) ?_
            refine va_get (D := (dC, dI)) (ci := 0) (v := .ref (aC 1)) (C := RX0) (T := TX0) (N := 3) hx hb hT in_X0 hown hK hP 0 rfl rfl 0 (by decide) (hT _ mw_95) (fun _ h9 => h9) rfl dX0_pressureAt_40 ?_
            refine lv_iload_n hx hb dX0_pressureAt_43 rfl (lv_at hl 0 rfl) ?_
            refine dk_iald (q0 := 1) (t0 := 0) (i := i) hx hb hK hP rfl rfl rfl (by omega) (by decide) dX0_pressureAt_44 ?_
            refine lv_icmp_gt (tgt := 55) hx hb dX0_pressureAt_45 (by decide) (fun c_45 => ?_) (fun c_45 => ?_)
            · refine lv_iinc (v := (nI (i + 1))) (lv' := [(2, .int (nI (i + 1))), (0, .ref (aC 0)), (1, .int x)]) hx hb dX0_pressureAt_55 hl (k := 0) rfl (nI_1 i) (by decide) rfl (fun ls hl => ?_)
              refine lv_goto (tgt := 30) hx hb dX0_pressureAt_58 (by decide) ?_
              exact ih30 (i + 1) _ (by omega) (by rw [← hf30_0]; show _ = (if cf i < x then dk_at cf cp x n (i + 1) else dk_pb cf cp i x); rw [if_pos c_45])  (lv_sub hl [0, 1, 2] rfl)
            · refine lv_aload_n hx hb dX0_pressureAt_48 rfl (lv_at hl 1 rfl) ?_
              refine lv_iload_n hx hb dX0_pressureAt_49 rfl (lv_at hl 0 rfl) ?_
              refine lv_iload_n hx hb dX0_pressureAt_50 rfl (lv_at hl 2 rfl) ?_
              refine dk_csi (va_runV (As := [.int (nI i), .int x]) (rest := []) ⟨hx, hb, hml, hown, hT⟩ (c_X0_pressureBefore l dC dI cI cII aC cf cp (nI k) i x (by omega) (by omega) (h2 i (by omega) (by omega))) (cwV 2 hT (dk_gV mw_179 mw_181 mw_0 mw_25 mw_182) rfl rfl rfl (by decide +kernel) ⟨(Nat.le_of_ble_eq_true rfl), (Nat.le_of_ble_eq_true rfl)⟩) (dk_preRV hK hP [0, 1, 2] rfl (q0 := 0) (ci := 0) rfl rfl) rfl rfl hl.1 rfl (lv_room (Nat.le_of_ble_eq_true rfl)) dX0_pressureAt_51 ⟨Nat.le_of_ble_eq_true rfl, Nat.le_of_ble_eq_true rfl⟩) (fun r9 h9 => ?_)
              subst h9
              exact hret _ _ _ (by unfold dk_gives; rw [if_neg (show ¬ nI k = 0 from c_4)]; rw [if_pos c_18, ← hf30_0]; unfold dk_at; rw [if_neg c_45]) dX0_pressureAt_54
      have hk0 : 0 < k := Nat.pos_of_ne_zero (fun h => c_4 (by rw [h]; rfl))
      exact lp30 (k - 1) 1 _ (by omega) rfl (lv_sub hl [0, 1, 2] rfl)
    · refine lv_aload_n hx hb dX0_pressureAt_21 rfl (lv_at hl 0 rfl) ?_
      refine va_get (D := (dC, dI)) (ci := 0) (v := .ref (aC 2)) (C := RX0) (T := TX0) (N := 3) hx hb hT in_X0 hown hK hP 0 rfl rfl 1 (by decide) (hT _ mw_96) (fun _ h9 => h9) rfl dX0_pressureAt_22 ?_
      refine lv_iconst (v := 0) hx hb dX0_pressureAt_25 (by decide) ?_
      refine dk_iald (q0 := 2) (t0 := 0) (i := 0) hx hb hK hP rfl rfl (by decide) (by omega) (by decide) dX0_pressureAt_26 ?_
      exact hret _ _ _ (by unfold dk_gives; rw [if_neg (show ¬ nI k = 0 from c_4)]; rw [if_neg c_18]) dX0_pressureAt_27
  · refine lv_sipush (v := 300) hx hb dX0_pressureAt_7 (by decide) ?_
    exact hret _ _ _ (by unfold dk_gives; rw [if_pos (show nI k = 0 from c_4)]) dX0_pressureAt_10
end
section
set_option maxHeartbeats 4000000 in
set_option maxRecDepth 100000 in
/-- new DuctSizes$Network -/
theorem c_X1_init (l : Launch) (dC : Nat → ClassId) (dI : Nat → Nat → Nat) (cI cII : ClassId) (h0 : Nat)  (hz : Nat) : dk_Iv l yX1_init wsX1_init ({ frames := 1, cells := 7, slots := 43, locals := 12 }) (dC, dI) (dk_T cI cII) [.ref h0] ([(h0, .inr (1, [.null, .null, .null, .null, .null, .int 0, .null, .null, .int 0, .int 0]))]) hz (fun _ => True) (fun (u : Nat → Nat) => u 0 = h0) (fun u => dk_N cI cII u (fun _ => 0) (fun _ => 0) (fun _ => 0) (fun _ => 0) (fun _ => 0) (nI 0) (fun _ => 0) (fun _ => 0) (nI 0) 100000) 7 43 := by
  refine dk_ofIv (cc := cX1_init) (maxL := 1) (by decide) rfl (Nat.le_of_ble_eq_true rfl) ?_
  intro p e s m args below meth c A ls Q ⟨hx, hb, hml, hts, hown, hnm⟩ hsz hK hP hD hA hS hl hE hret
  have hT : ∀ w ∈ dk_tbl, w.before args s = true := fun w h => hts w (List.mem_cons_of_mem _ h)
  have hown : s.vm.findClass RX1 = some m.cls := hown
  have hin : meth.name = "<init>" := hnm
  have hl : lv_has ls 1 [(0, .ref h0)] := hl
  refine lv_aload_n hx hb dX1_init_0 rfl (lv_at hl 0 rfl) ?_
  refine W.objInit hx hb hown (hT _ mw_47) (hT _ mw_40) (hT _ mw_41) rfl (by rw [hml]; exact hl.1) rfl dX1_init_1 (Nat.le_of_ble_eq_true rfl) (Nat.le_of_ble_eq_true rfl) ?_
  refine W.eq (g2 := F0 m 4 ls []) rfl ?_
  refine lv_aload_n hx hb dX1_init_4 rfl (lv_at hl 0 rfl) ?_
  refine lv_bipush (v := 7) hx hb dX1_init_5 (by decide) ?_
  refine dk_newa (N := 7) hx hb (hT _ mw_88) hK hP hD hS hA (by decide) (by decide) (by decide) (Nat.le_of_ble_eq_true rfl) (Nat.le_of_ble_eq_true rfl) dX1_init_7 (fun q7 H hP hD hS => ?_)
  have hP : va_P (dC, dI) vwCl ([(h0, .inr (1, [.null, .null, .null, .null, .null, .int 0, .null, .null, .int 0, .int 0])), (q7, .inl (cI, 7, .inl (fun _ => 0)))]) H := hP
  have hD : va_D A ([(h0, .inr (1, [.null, .null, .null, .null, .null, .int 0, .null, .null, .int 0, .int 0])), (q7, .inl (cI, 7, .inl (fun _ => 0)))]) := hD
  refine va_putF (D := (dC, dI)) (ci := 1) (v := .ref q7) (ty := (.array .int)) (C := RX1) (T := TX1) (N := 10) hx hb hT in_X1 tyX1 tyX1_ok nmX1 hown hK hP hD hS 0 rfl rfl 0 (by decide) (hT _ mw_49) (fun _ h9 => h9) rfl hin rfl (by decide +kernel) rfl rfl (Nat.le_of_ble_eq_true rfl) dX1_init_9 (fun H locs hP hD hS => ?_)
  have hP : va_P (dC, dI) vwCl ([(h0, .inr (1, [.ref q7, .null, .null, .null, .null, .int 0, .null, .null, .int 0, .int 0])), (q7, .inl (cI, 7, .inl (fun _ => 0)))]) H := hP
  have hD : va_D A ([(h0, .inr (1, [.ref q7, .null, .null, .null, .null, .int 0, .null, .null, .int 0, .int 0])), (q7, .inl (cI, 7, .inl (fun _ => 0)))]) := hD
  refine lv_aload_n hx hb dX1_init_12 rfl (lv_at hl 0 rfl) ?_
  refine lv_bipush (v := 7) hx hb dX1_init_13 (by decide) ?_
  refine dk_newa (N := 7) hx hb (hT _ mw_88) hK hP hD hS hA (by decide) (by decide) (by decide) (Nat.le_of_ble_eq_true rfl) (Nat.le_of_ble_eq_true rfl) dX1_init_15 (fun q15 H hP hD hS => ?_)
  have hP : va_P (dC, dI) vwCl ([(h0, .inr (1, [.ref q7, .null, .null, .null, .null, .int 0, .null, .null, .int 0, .int 0])), (q7, .inl (cI, 7, .inl (fun _ => 0))), (q15, .inl (cI, 7, .inl (fun _ => 0)))]) H := hP
  have hD : va_D A ([(h0, .inr (1, [.ref q7, .null, .null, .null, .null, .int 0, .null, .null, .int 0, .int 0])), (q7, .inl (cI, 7, .inl (fun _ => 0))), (q15, .inl (cI, 7, .inl (fun _ => 0)))]) := hD
  refine va_putF (D := (dC, dI)) (ci := 1) (v := .ref q15) (ty := (.array .int)) (C := RX1) (T := TX1) (N := 10) hx hb hT in_X1 tyX1 tyX1_ok nmX1 hown hK hP hD hS 0 rfl rfl 1 (by decide) (hT _ mw_51) (fun _ h9 => h9) rfl hin rfl (by decide +kernel) rfl rfl (Nat.le_of_ble_eq_true rfl) dX1_init_17 (fun H locs hP hD hS => ?_)
  have hP : va_P (dC, dI) vwCl ([(h0, .inr (1, [.ref q7, .ref q15, .null, .null, .null, .int 0, .null, .null, .int 0, .int 0])), (q7, .inl (cI, 7, .inl (fun _ => 0))), (q15, .inl (cI, 7, .inl (fun _ => 0)))]) H := hP
  have hD : va_D A ([(h0, .inr (1, [.ref q7, .ref q15, .null, .null, .null, .int 0, .null, .null, .int 0, .int 0])), (q7, .inl (cI, 7, .inl (fun _ => 0))), (q15, .inl (cI, 7, .inl (fun _ => 0)))]) := hD
  refine lv_aload_n hx hb dX1_init_20 rfl (lv_at hl 0 rfl) ?_
  refine lv_bipush (v := 7) hx hb dX1_init_21 (by decide) ?_
  refine dk_newa (N := 7) hx hb (hT _ mw_88) hK hP hD hS hA (by decide) (by decide) (by decide) (Nat.le_of_ble_eq_true rfl) (Nat.le_of_ble_eq_true rfl) dX1_init_23 (fun q23 H hP hD hS => ?_)
  have hP : va_P (dC, dI) vwCl ([(h0, .inr (1, [.ref q7, .ref q15, .null, .null, .null, .int 0, .null, .null, .int 0, .int 0])), (q7, .inl (cI, 7, .inl (fun _ => 0))), (q15, .inl (cI, 7, .inl (fun _ => 0))), (q23, .inl (cI, 7, .inl (fun _ => 0)))]) H := hP
  have hD : va_D A ([(h0, .inr (1, [.ref q7, .ref q15, .null, .null, .null, .int 0, .null, .null, .int 0, .int 0])), (q7, .inl (cI, 7, .inl (fun _ => 0))), (q15, .inl (cI, 7, .inl (fun _ => 0))), (q23, .inl (cI, 7, .inl (fun _ => 0)))]) := hD
  refine va_putF (D := (dC, dI)) (ci := 1) (v := .ref q23) (ty := (.array .int)) (C := RX1) (T := TX1) (N := 10) hx hb hT in_X1 tyX1 tyX1_ok nmX1 hown hK hP hD hS 0 rfl rfl 2 (by decide) (hT _ mw_52) (fun _ h9 => h9) rfl hin rfl (by decide +kernel) rfl rfl (Nat.le_of_ble_eq_true rfl) dX1_init_25 (fun H locs hP hD hS => ?_)
  have hP : va_P (dC, dI) vwCl ([(h0, .inr (1, [.ref q7, .ref q15, .ref q23, .null, .null, .int 0, .null, .null, .int 0, .int 0])), (q7, .inl (cI, 7, .inl (fun _ => 0))), (q15, .inl (cI, 7, .inl (fun _ => 0))), (q23, .inl (cI, 7, .inl (fun _ => 0)))]) H := hP
  have hD : va_D A ([(h0, .inr (1, [.ref q7, .ref q15, .ref q23, .null, .null, .int 0, .null, .null, .int 0, .int 0])), (q7, .inl (cI, 7, .inl (fun _ => 0))), (q15, .inl (cI, 7, .inl (fun _ => 0))), (q23, .inl (cI, 7, .inl (fun _ => 0)))]) := hD
  refine lv_aload_n hx hb dX1_init_28 rfl (lv_at hl 0 rfl) ?_
  refine lv_bipush (v := 7) hx hb dX1_init_29 (by decide) ?_
  refine dk_newa (N := 7) hx hb (hT _ mw_88) hK hP hD hS hA (by decide) (by decide) (by decide) (Nat.le_of_ble_eq_true rfl) (Nat.le_of_ble_eq_true rfl) dX1_init_31 (fun q31 H hP hD hS => ?_)
  have hP : va_P (dC, dI) vwCl ([(h0, .inr (1, [.ref q7, .ref q15, .ref q23, .null, .null, .int 0, .null, .null, .int 0, .int 0])), (q7, .inl (cI, 7, .inl (fun _ => 0))), (q15, .inl (cI, 7, .inl (fun _ => 0))), (q23, .inl (cI, 7, .inl (fun _ => 0))), (q31, .inl (cI, 7, .inl (fun _ => 0)))]) H := hP
  have hD : va_D A ([(h0, .inr (1, [.ref q7, .ref q15, .ref q23, .null, .null, .int 0, .null, .null, .int 0, .int 0])), (q7, .inl (cI, 7, .inl (fun _ => 0))), (q15, .inl (cI, 7, .inl (fun _ => 0))), (q23, .inl (cI, 7, .inl (fun _ => 0))), (q31, .inl (cI, 7, .inl (fun _ => 0)))]) := hD
  refine va_putF (D := (dC, dI)) (ci := 1) (v := .ref q31) (ty := (.array .int)) (C := RX1) (T := TX1) (N := 10) hx hb hT in_X1 tyX1 tyX1_ok nmX1 hown hK hP hD hS 0 rfl rfl 3 (by decide) (hT _ mw_53) (fun _ h9 => h9) rfl hin rfl (by decide +kernel) rfl rfl (Nat.le_of_ble_eq_true rfl) dX1_init_33 (fun H locs hP hD hS => ?_)
  have hP : va_P (dC, dI) vwCl ([(h0, .inr (1, [.ref q7, .ref q15, .ref q23, .ref q31, .null, .int 0, .null, .null, .int 0, .int 0])), (q7, .inl (cI, 7, .inl (fun _ => 0))), (q15, .inl (cI, 7, .inl (fun _ => 0))), (q23, .inl (cI, 7, .inl (fun _ => 0))), (q31, .inl (cI, 7, .inl (fun _ => 0)))]) H := hP
  have hD : va_D A ([(h0, .inr (1, [.ref q7, .ref q15, .ref q23, .ref q31, .null, .int 0, .null, .null, .int 0, .int 0])), (q7, .inl (cI, 7, .inl (fun _ => 0))), (q15, .inl (cI, 7, .inl (fun _ => 0))), (q23, .inl (cI, 7, .inl (fun _ => 0))), (q31, .inl (cI, 7, .inl (fun _ => 0)))]) := hD
  refine lv_aload_n hx hb dX1_init_36 rfl (lv_at hl 0 rfl) ?_
  refine lv_bipush (v := 7) hx hb dX1_init_37 (by decide) ?_
  refine dk_newa (N := 7) hx hb (hT _ mw_88) hK hP hD hS hA (by decide) (by decide) (by decide) (Nat.le_of_ble_eq_true rfl) (Nat.le_of_ble_eq_true rfl) dX1_init_39 (fun q39 H hP hD hS => ?_)
  have hP : va_P (dC, dI) vwCl ([(h0, .inr (1, [.ref q7, .ref q15, .ref q23, .ref q31, .null, .int 0, .null, .null, .int 0, .int 0])), (q7, .inl (cI, 7, .inl (fun _ => 0))), (q15, .inl (cI, 7, .inl (fun _ => 0))), (q23, .inl (cI, 7, .inl (fun _ => 0))), (q31, .inl (cI, 7, .inl (fun _ => 0))), (q39, .inl (cI, 7, .inl (fun _ => 0)))]) H := hP
  have hD : va_D A ([(h0, .inr (1, [.ref q7, .ref q15, .ref q23, .ref q31, .null, .int 0, .null, .null, .int 0, .int 0])), (q7, .inl (cI, 7, .inl (fun _ => 0))), (q15, .inl (cI, 7, .inl (fun _ => 0))), (q23, .inl (cI, 7, .inl (fun _ => 0))), (q31, .inl (cI, 7, .inl (fun _ => 0))), (q39, .inl (cI, 7, .inl (fun _ => 0)))]) := hD
  refine va_putF (D := (dC, dI)) (ci := 1) (v := .ref q39) (ty := (.array .int)) (C := RX1) (T := TX1) (N := 10) hx hb hT in_X1 tyX1 tyX1_ok nmX1 hown hK hP hD hS 0 rfl rfl 4 (by decide) (hT _ mw_55) (fun _ h9 => h9) rfl hin rfl (by decide +kernel) rfl rfl (Nat.le_of_ble_eq_true rfl) dX1_init_41 (fun H locs hP hD hS => ?_)
  have hP : va_P (dC, dI) vwCl ([(h0, .inr (1, [.ref q7, .ref q15, .ref q23, .ref q31, .ref q39, .int 0, .null, .null, .int 0, .int 0])), (q7, .inl (cI, 7, .inl (fun _ => 0))), (q15, .inl (cI, 7, .inl (fun _ => 0))), (q23, .inl (cI, 7, .inl (fun _ => 0))), (q31, .inl (cI, 7, .inl (fun _ => 0))), (q39, .inl (cI, 7, .inl (fun _ => 0)))]) H := hP
  have hD : va_D A ([(h0, .inr (1, [.ref q7, .ref q15, .ref q23, .ref q31, .ref q39, .int 0, .null, .null, .int 0, .int 0])), (q7, .inl (cI, 7, .inl (fun _ => 0))), (q15, .inl (cI, 7, .inl (fun _ => 0))), (q23, .inl (cI, 7, .inl (fun _ => 0))), (q31, .inl (cI, 7, .inl (fun _ => 0))), (q39, .inl (cI, 7, .inl (fun _ => 0)))]) := hD
  refine lv_aload_n hx hb dX1_init_44 rfl (lv_at hl 0 rfl) ?_
  refine lv_iconst (v := 0) hx hb dX1_init_45 (by decide) ?_
  refine va_put (D := (dC, dI)) (ci := 1) (v := .int 0) (ty := .int) (C := RX1) (T := TX1) (N := 10) hx hb hT in_X1 tyX1 tyX1_ok nmX1 hown hK hP hD hS 0 rfl rfl 5 (by decide) (hT _ mw_57) (fun _ h9 => h9) rfl (by decide +kernel) rfl rfl (Nat.le_of_ble_eq_true rfl) dX1_init_46 (fun H locs hP hD hS => ?_)
  have hP : va_P (dC, dI) vwCl ([(h0, .inr (1, [.ref q7, .ref q15, .ref q23, .ref q31, .ref q39, .int 0, .null, .null, .int 0, .int 0])), (q7, .inl (cI, 7, .inl (fun _ => 0))), (q15, .inl (cI, 7, .inl (fun _ => 0))), (q23, .inl (cI, 7, .inl (fun _ => 0))), (q31, .inl (cI, 7, .inl (fun _ => 0))), (q39, .inl (cI, 7, .inl (fun _ => 0)))]) H := hP
  have hD : va_D A ([(h0, .inr (1, [.ref q7, .ref q15, .ref q23, .ref q31, .ref q39, .int 0, .null, .null, .int 0, .int 0])), (q7, .inl (cI, 7, .inl (fun _ => 0))), (q15, .inl (cI, 7, .inl (fun _ => 0))), (q23, .inl (cI, 7, .inl (fun _ => 0))), (q31, .inl (cI, 7, .inl (fun _ => 0))), (q39, .inl (cI, 7, .inl (fun _ => 0)))]) := hD
  refine lv_aload_n hx hb dX1_init_49 rfl (lv_at hl 0 rfl) ?_
  refine lv_iconst (v := 4) hx hb dX1_init_50 (by decide) ?_
  refine dk_newa (N := 4) hx hb (hT _ mw_88) hK hP hD hS hA (by decide) (by decide) (by decide) (Nat.le_of_ble_eq_true rfl) (Nat.le_of_ble_eq_true rfl) dX1_init_51 (fun q51 H hP hD hS => ?_)
  have hP : va_P (dC, dI) vwCl ([(h0, .inr (1, [.ref q7, .ref q15, .ref q23, .ref q31, .ref q39, .int 0, .null, .null, .int 0, .int 0])), (q7, .inl (cI, 7, .inl (fun _ => 0))), (q15, .inl (cI, 7, .inl (fun _ => 0))), (q23, .inl (cI, 7, .inl (fun _ => 0))), (q31, .inl (cI, 7, .inl (fun _ => 0))), (q39, .inl (cI, 7, .inl (fun _ => 0))), (q51, .inl (cI, 4, .inl (fun _ => 0)))]) H := hP
  have hD : va_D A ([(h0, .inr (1, [.ref q7, .ref q15, .ref q23, .ref q31, .ref q39, .int 0, .null, .null, .int 0, .int 0])), (q7, .inl (cI, 7, .inl (fun _ => 0))), (q15, .inl (cI, 7, .inl (fun _ => 0))), (q23, .inl (cI, 7, .inl (fun _ => 0))), (q31, .inl (cI, 7, .inl (fun _ => 0))), (q39, .inl (cI, 7, .inl (fun _ => 0))), (q51, .inl (cI, 4, .inl (fun _ => 0)))]) := hD
  refine va_putF (D := (dC, dI)) (ci := 1) (v := .ref q51) (ty := (.array .int)) (C := RX1) (T := TX1) (N := 10) hx hb hT in_X1 tyX1 tyX1_ok nmX1 hown hK hP hD hS 0 rfl rfl 6 (by decide) (hT _ mw_60) (fun _ h9 => h9) rfl hin rfl (by decide +kernel) rfl rfl (Nat.le_of_ble_eq_true rfl) dX1_init_53 (fun H locs hP hD hS => ?_)
  have hP : va_P (dC, dI) vwCl ([(h0, .inr (1, [.ref q7, .ref q15, .ref q23, .ref q31, .ref q39, .int 0, .ref q51, .null, .int 0, .int 0])), (q7, .inl (cI, 7, .inl (fun _ => 0))), (q15, .inl (cI, 7, .inl (fun _ => 0))), (q23, .inl (cI, 7, .inl (fun _ => 0))), (q31, .inl (cI, 7, .inl (fun _ => 0))), (q39, .inl (cI, 7, .inl (fun _ => 0))), (q51, .inl (cI, 4, .inl (fun _ => 0)))]) H := hP
  have hD : va_D A ([(h0, .inr (1, [.ref q7, .ref q15, .ref q23, .ref q31, .ref q39, .int 0, .ref q51, .null, .int 0, .int 0])), (q7, .inl (cI, 7, .inl (fun _ => 0))), (q15, .inl (cI, 7, .inl (fun _ => 0))), (q23, .inl (cI, 7, .inl (fun _ => 0))), (q31, .inl (cI, 7, .inl (fun _ => 0))), (q39, .inl (cI, 7, .inl (fun _ => 0))), (q51, .inl (cI, 4, .inl (fun _ => 0)))]) := hD
  refine lv_aload_n hx hb dX1_init_56 rfl (lv_at hl 0 rfl) ?_
  refine lv_iconst (v := 4) hx hb dX1_init_57 (by decide) ?_
  refine dk_newa (N := 4) hx hb (hT _ mw_88) hK hP hD hS hA (by decide) (by decide) (by decide) (Nat.le_of_ble_eq_true rfl) (Nat.le_of_ble_eq_true rfl) dX1_init_58 (fun q58 H hP hD hS => ?_)
  have hP : va_P (dC, dI) vwCl ([(h0, .inr (1, [.ref q7, .ref q15, .ref q23, .ref q31, .ref q39, .int 0, .ref q51, .null, .int 0, .int 0])), (q7, .inl (cI, 7, .inl (fun _ => 0))), (q15, .inl (cI, 7, .inl (fun _ => 0))), (q23, .inl (cI, 7, .inl (fun _ => 0))), (q31, .inl (cI, 7, .inl (fun _ => 0))), (q39, .inl (cI, 7, .inl (fun _ => 0))), (q51, .inl (cI, 4, .inl (fun _ => 0))), (q58, .inl (cI, 4, .inl (fun _ => 0)))]) H := hP
  have hD : va_D A ([(h0, .inr (1, [.ref q7, .ref q15, .ref q23, .ref q31, .ref q39, .int 0, .ref q51, .null, .int 0, .int 0])), (q7, .inl (cI, 7, .inl (fun _ => 0))), (q15, .inl (cI, 7, .inl (fun _ => 0))), (q23, .inl (cI, 7, .inl (fun _ => 0))), (q31, .inl (cI, 7, .inl (fun _ => 0))), (q39, .inl (cI, 7, .inl (fun _ => 0))), (q51, .inl (cI, 4, .inl (fun _ => 0))), (q58, .inl (cI, 4, .inl (fun _ => 0)))]) := hD
  refine va_putF (D := (dC, dI)) (ci := 1) (v := .ref q58) (ty := (.array .int)) (C := RX1) (T := TX1) (N := 10) hx hb hT in_X1 tyX1 tyX1_ok nmX1 hown hK hP hD hS 0 rfl rfl 7 (by decide) (hT _ mw_61) (fun _ h9 => h9) rfl hin rfl (by decide +kernel) rfl rfl (Nat.le_of_ble_eq_true rfl) dX1_init_60 (fun H locs hP hD hS => ?_)
  have hP : va_P (dC, dI) vwCl ([(h0, .inr (1, [.ref q7, .ref q15, .ref q23, .ref q31, .ref q39, .int 0, .ref q51, .ref q58, .int 0, .int 0])), (q7, .inl (cI, 7, .inl (fun _ => 0))), (q15, .inl (cI, 7, .inl (fun _ => 0))), (q23, .inl (cI, 7, .inl (fun _ => 0))), (q31, .inl (cI, 7, .inl (fun _ => 0))), (q39, .inl (cI, 7, .inl (fun _ => 0))), (q51, .inl (cI, 4, .inl (fun _ => 0))), (q58, .inl (cI, 4, .inl (fun _ => 0)))]) H := hP
  have hD : va_D A ([(h0, .inr (1, [.ref q7, .ref q15, .ref q23, .ref q31, .ref q39, .int 0, .ref q51, .ref q58, .int 0, .int 0])), (q7, .inl (cI, 7, .inl (fun _ => 0))), (q15, .inl (cI, 7, .inl (fun _ => 0))), (q23, .inl (cI, 7, .inl (fun _ => 0))), (q31, .inl (cI, 7, .inl (fun _ => 0))), (q39, .inl (cI, 7, .inl (fun _ => 0))), (q51, .inl (cI, 4, .inl (fun _ => 0))), (q58, .inl (cI, 4, .inl (fun _ => 0)))]) := hD
  refine lv_aload_n hx hb dX1_init_63 rfl (lv_at hl 0 rfl) ?_
  refine lv_iconst (v := 0) hx hb dX1_init_64 (by decide) ?_
  refine va_put (D := (dC, dI)) (ci := 1) (v := .int 0) (ty := .int) (C := RX1) (T := TX1) (N := 10) hx hb hT in_X1 tyX1 tyX1_ok nmX1 hown hK hP hD hS 0 rfl rfl 8 (by decide) (hT _ mw_62) (fun _ h9 => h9) rfl (by decide +kernel) rfl rfl (Nat.le_of_ble_eq_true rfl) dX1_init_65 (fun H locs hP hD hS => ?_)
  have hP : va_P (dC, dI) vwCl ([(h0, .inr (1, [.ref q7, .ref q15, .ref q23, .ref q31, .ref q39, .int 0, .ref q51, .ref q58, .int 0, .int 0])), (q7, .inl (cI, 7, .inl (fun _ => 0))), (q15, .inl (cI, 7, .inl (fun _ => 0))), (q23, .inl (cI, 7, .inl (fun _ => 0))), (q31, .inl (cI, 7, .inl (fun _ => 0))), (q39, .inl (cI, 7, .inl (fun _ => 0))), (q51, .inl (cI, 4, .inl (fun _ => 0))), (q58, .inl (cI, 4, .inl (fun _ => 0)))]) H := hP
  have hD : va_D A ([(h0, .inr (1, [.ref q7, .ref q15, .ref q23, .ref q31, .ref q39, .int 0, .ref q51, .ref q58, .int 0, .int 0])), (q7, .inl (cI, 7, .inl (fun _ => 0))), (q15, .inl (cI, 7, .inl (fun _ => 0))), (q23, .inl (cI, 7, .inl (fun _ => 0))), (q31, .inl (cI, 7, .inl (fun _ => 0))), (q39, .inl (cI, 7, .inl (fun _ => 0))), (q51, .inl (cI, 4, .inl (fun _ => 0))), (q58, .inl (cI, 4, .inl (fun _ => 0)))]) := hD
  refine lv_aload_n hx hb dX1_init_68 rfl (lv_at hl 0 rfl) ?_
  refine lv_ldc (v := 100000) hx hb hown (hT _ mw_48) dX1_init_69 ?_
  refine va_put (D := (dC, dI)) (ci := 1) (v := .int 100000) (ty := .int) (C := RX1) (T := TX1) (N := 10) hx hb hT in_X1 tyX1 tyX1_ok nmX1 hown hK hP hD hS 0 rfl rfl 9 (by decide) (hT _ mw_65) (fun _ h9 => h9) rfl (by decide +kernel) rfl rfl (Nat.le_of_ble_eq_true rfl) dX1_init_71 (fun H locs hP hD hS => ?_)
  have hP : va_P (dC, dI) vwCl ([(h0, .inr (1, [.ref q7, .ref q15, .ref q23, .ref q31, .ref q39, .int 0, .ref q51, .ref q58, .int 0, .int 100000])), (q7, .inl (cI, 7, .inl (fun _ => 0))), (q15, .inl (cI, 7, .inl (fun _ => 0))), (q23, .inl (cI, 7, .inl (fun _ => 0))), (q31, .inl (cI, 7, .inl (fun _ => 0))), (q39, .inl (cI, 7, .inl (fun _ => 0))), (q51, .inl (cI, 4, .inl (fun _ => 0))), (q58, .inl (cI, 4, .inl (fun _ => 0)))]) H := hP
  have hD : va_D A ([(h0, .inr (1, [.ref q7, .ref q15, .ref q23, .ref q31, .ref q39, .int 0, .ref q51, .ref q58, .int 0, .int 100000])), (q7, .inl (cI, 7, .inl (fun _ => 0))), (q15, .inl (cI, 7, .inl (fun _ => 0))), (q23, .inl (cI, 7, .inl (fun _ => 0))), (q31, .inl (cI, 7, .inl (fun _ => 0))), (q39, .inl (cI, 7, .inl (fun _ => 0))), (q51, .inl (cI, 4, .inl (fun _ => 0))), (q58, .inl (cI, 4, .inl (fun _ => 0)))]) := hD
  exact hret (fun k => [h0, q7, q15, q23, q31, q39, q51, q58].getD k 0) _ _ _ _ rfl (hP.sub (ws' := dk_N cI cII (fun k => [h0, q7, q15, q23, q31, q39, q51, q58].getD k 0) (fun _ => 0) (fun _ => 0) (fun _ => 0) (fun _ => 0) (fun _ => 0) (nI 0) (fun _ => 0) (fun _ => 0) (nI 0) 100000) [0, 1, 2, 3, 4, 5, 6, 7] rfl) (hD.sub (ws' := dk_N cI cII (fun k => [h0, q7, q15, q23, q31, q39, q51, q58].getD k 0) (fun _ => 0) (fun _ => 0) (fun _ => 0) (fun _ => 0) (fun _ => 0) (nI 0) (fun _ => 0) (fun _ => 0) (nI 0) 100000) [0, 1, 2, 3, 4, 5, 6, 7] (by decide) rfl) hS dX1_init_74
set_option maxHeartbeats 4000000 in
set_option maxRecDepth 100000 in
/-- new DuctSizes$Curve -/
theorem c_X0_init (l : Launch) (dC : Nat → ClassId) (dI : Nat → Nat → Nat) (cI cII : ClassId) (h0 : Nat)  (hz : Nat) : dk_Iv l yX0_init wsX0_init ({ frames := 1, cells := 2, slots := 10, locals := 12 }) (dC, dI) (dk_T cI cII) [.ref h0] ([(h0, .inr (0, [.null, .null, .int 0]))]) hz (fun _ => True) (fun (u : Nat → Nat) => u 0 = h0) (fun u => dk_C cI cII u (fun _ => 0) (fun _ => 0) (nI 0)) 2 10 := by
  refine dk_ofIv (cc := cX0_init) (maxL := 1) (by decide) rfl (Nat.le_of_ble_eq_true rfl) ?_
  intro p e s m args below meth c A ls Q ⟨hx, hb, hml, hts, hown, hnm⟩ hsz hK hP hD hA hS hl hE hret
  have hT : ∀ w ∈ dk_tbl, w.before args s = true := fun w h => hts w (List.mem_cons_of_mem _ h)
  have hown : s.vm.findClass RX0 = some m.cls := hown
  have hin : meth.name = "<init>" := hnm
  have hl : lv_has ls 1 [(0, .ref h0)] := hl
  refine lv_aload_n hx hb dX0_init_0 rfl (lv_at hl 0 rfl) ?_
  refine W.objInit hx hb hown (hT _ mw_94) (hT _ mw_40) (hT _ mw_41) rfl (by rw [hml]; exact hl.1) rfl dX0_init_1 (Nat.le_of_ble_eq_true rfl) (Nat.le_of_ble_eq_true rfl) ?_
  refine W.eq (g2 := F0 m 4 ls []) rfl ?_
  refine lv_aload_n hx hb dX0_init_4 rfl (lv_at hl 0 rfl) ?_
  refine lv_iconst (v := 5) hx hb dX0_init_5 (by decide) ?_
  refine dk_newa (N := 5) hx hb (hT _ mw_88) hK hP hD hS hA (by decide) (by decide) (by decide) (Nat.le_of_ble_eq_true rfl) (Nat.le_of_ble_eq_true rfl) dX0_init_6 (fun q6 H hP hD hS => ?_)
  have hP : va_P (dC, dI) vwCl ([(h0, .inr (0, [.null, .null, .int 0])), (q6, .inl (cI, 5, .inl (fun _ => 0)))]) H := hP
  have hD : va_D A ([(h0, .inr (0, [.null, .null, .int 0])), (q6, .inl (cI, 5, .inl (fun _ => 0)))]) := hD
  refine va_putF (D := (dC, dI)) (ci := 0) (v := .ref q6) (ty := (.array .int)) (C := RX0) (T := TX0) (N := 3) hx hb hT in_X0 tyX0 tyX0_ok nmX0 hown hK hP hD hS 0 rfl rfl 0 (by decide) (hT _ mw_95) (fun _ h9 => h9) rfl hin rfl (by decide +kernel) rfl rfl (Nat.le_of_ble_eq_true rfl) dX0_init_8 (fun H locs hP hD hS => ?_)
  have hP : va_P (dC, dI) vwCl ([(h0, .inr (0, [.ref q6, .null, .int 0])), (q6, .inl (cI, 5, .inl (fun _ => 0)))]) H := hP
  have hD : va_D A ([(h0, .inr (0, [.ref q6, .null, .int 0])), (q6, .inl (cI, 5, .inl (fun _ => 0)))]) := hD
  refine lv_aload_n hx hb dX0_init_11 rfl (lv_at hl 0 rfl) ?_
  refine lv_iconst (v := 5) hx hb dX0_init_12 (by decide) ?_
  refine dk_newa (N := 5) hx hb (hT _ mw_88) hK hP hD hS hA (by decide) (by decide) (by decide) (Nat.le_of_ble_eq_true rfl) (Nat.le_of_ble_eq_true rfl) dX0_init_13 (fun q13 H hP hD hS => ?_)
  have hP : va_P (dC, dI) vwCl ([(h0, .inr (0, [.ref q6, .null, .int 0])), (q6, .inl (cI, 5, .inl (fun _ => 0))), (q13, .inl (cI, 5, .inl (fun _ => 0)))]) H := hP
  have hD : va_D A ([(h0, .inr (0, [.ref q6, .null, .int 0])), (q6, .inl (cI, 5, .inl (fun _ => 0))), (q13, .inl (cI, 5, .inl (fun _ => 0)))]) := hD
  refine va_putF (D := (dC, dI)) (ci := 0) (v := .ref q13) (ty := (.array .int)) (C := RX0) (T := TX0) (N := 3) hx hb hT in_X0 tyX0 tyX0_ok nmX0 hown hK hP hD hS 0 rfl rfl 1 (by decide) (hT _ mw_96) (fun _ h9 => h9) rfl hin rfl (by decide +kernel) rfl rfl (Nat.le_of_ble_eq_true rfl) dX0_init_15 (fun H locs hP hD hS => ?_)
  have hP : va_P (dC, dI) vwCl ([(h0, .inr (0, [.ref q6, .ref q13, .int 0])), (q6, .inl (cI, 5, .inl (fun _ => 0))), (q13, .inl (cI, 5, .inl (fun _ => 0)))]) H := hP
  have hD : va_D A ([(h0, .inr (0, [.ref q6, .ref q13, .int 0])), (q6, .inl (cI, 5, .inl (fun _ => 0))), (q13, .inl (cI, 5, .inl (fun _ => 0)))]) := hD
  refine lv_aload_n hx hb dX0_init_18 rfl (lv_at hl 0 rfl) ?_
  refine lv_iconst (v := 0) hx hb dX0_init_19 (by decide) ?_
  refine va_put (D := (dC, dI)) (ci := 0) (v := .int 0) (ty := .int) (C := RX0) (T := TX0) (N := 3) hx hb hT in_X0 tyX0 tyX0_ok nmX0 hown hK hP hD hS 0 rfl rfl 2 (by decide) (hT _ mw_97) (fun _ h9 => h9) rfl (by decide +kernel) rfl rfl (Nat.le_of_ble_eq_true rfl) dX0_init_20 (fun H locs hP hD hS => ?_)
  have hP : va_P (dC, dI) vwCl ([(h0, .inr (0, [.ref q6, .ref q13, .int 0])), (q6, .inl (cI, 5, .inl (fun _ => 0))), (q13, .inl (cI, 5, .inl (fun _ => 0)))]) H := hP
  have hD : va_D A ([(h0, .inr (0, [.ref q6, .ref q13, .int 0])), (q6, .inl (cI, 5, .inl (fun _ => 0))), (q13, .inl (cI, 5, .inl (fun _ => 0)))]) := hD
  exact hret (fun k => [h0, q6, q13].getD k 0) _ _ _ _ rfl (hP.sub (ws' := dk_C cI cII (fun k => [h0, q6, q13].getD k 0) (fun _ => 0) (fun _ => 0) (nI 0)) [0, 1, 2] rfl) (hD.sub (ws' := dk_C cI cII (fun k => [h0, q6, q13].getD k 0) (fun _ => 0) (fun _ => 0) (nI 0)) [0, 1, 2] (by decide) rfl) hS dX0_init_23
set_option maxHeartbeats 4000000 in
set_option maxRecDepth 100000 in
/-- new DuctSizes$Search -/
theorem c_X2_init (l : Launch) (dC : Nat → ClassId) (dI : Nat → Nat → Nat) (cI cII : ClassId) (h0 : Nat) (nw : Nat) (hz : Nat) : dk_Iv l yX2_init wsX2_init ({ frames := 1, cells := 12, slots := 63, locals := 12 }) (dC, dI) (dk_T cI cII) [.ref h0, .ref nw] ([(h0, .inr (2, [.null, .null, .null, .null, .int 0, .int 0, .null, .null, .int 0, .int 0, .int 0]))]) hz (va_AOA .int) (fun (u : Nat → Nat) => u 0 = h0) (fun u => dk_S cI cII u nw (fun _ _ => 0) (fun _ => 0) (fun _ => 0) 0 0 (fun _ => 0) (fun _ => 0) 0 0 0) 12 63 := by
  refine dk_ofIv (cc := cX2_init) (maxL := 2) (by decide) rfl (Nat.le_of_ble_eq_true rfl) ?_
  intro p e s m args below meth c A ls Q ⟨hx, hb, hml, hts, hown, hnm⟩ hsz hK hP hD hA hS hl hE hret
  have hT : ∀ w ∈ dk_tbl, w.before args s = true := fun w h => hts w (List.mem_cons_of_mem _ h)
  have hown : s.vm.findClass RX2 = some m.cls := hown
  have hin : meth.name = "<init>" := hnm
  have hl : lv_has ls 2 [(0, .ref h0), (1, .ref nw)] := hl
  refine lv_aload_n hx hb dX2_init_0 rfl (lv_at hl 0 rfl) ?_
  refine W.objInit hx hb hown (hT _ mw_110) (hT _ mw_40) (hT _ mw_41) rfl (by rw [hml]; exact hl.1) rfl dX2_init_1 (Nat.le_of_ble_eq_true rfl) (Nat.le_of_ble_eq_true rfl) ?_
  refine W.eq (g2 := F0 m 4 ls []) rfl ?_
  refine lv_aload_n hx hb dX2_init_4 rfl (lv_at hl 0 rfl) ?_
  refine lv_bipush (v := 7) hx hb dX2_init_5 (by decide) ?_
  refine lv_iconst (v := 4) hx hb dX2_init_7 (by decide) ?_
  refine dk_mna hx hb hown (hT _ mw_111) hE (hT _ mw_88) hK hP hD hS hA rfl rfl (Nat.le_of_ble_eq_true rfl) (Nat.le_of_ble_eq_true rfl) dX2_init_8 (fun q8 r8 H hP hD hS => ?_)
  have hP : va_P (dC, dI) vwCl ([(h0, .inr (2, [.null, .null, .null, .null, .int 0, .int 0, .null, .null, .int 0, .int 0, .int 0])), (q8, .inl (cII, 7, .inr (.inr (.inr (.inr (fun i => if i < 7 then some (r8 i) else none)))))), (r8 0, .inl (cI, 4, .inl (fun _ => 0))), (r8 1, .inl (cI, 4, .inl (fun _ => 0))), (r8 2, .inl (cI, 4, .inl (fun _ => 0))), (r8 3, .inl (cI, 4, .inl (fun _ => 0))), (r8 4, .inl (cI, 4, .inl (fun _ => 0))), (r8 5, .inl (cI, 4, .inl (fun _ => 0))), (r8 6, .inl (cI, 4, .inl (fun _ => 0)))]) H := hP
  have hD : va_D A ([(h0, .inr (2, [.null, .null, .null, .null, .int 0, .int 0, .null, .null, .int 0, .int 0, .int 0])), (q8, .inl (cII, 7, .inr (.inr (.inr (.inr (fun i => if i < 7 then some (r8 i) else none)))))), (r8 0, .inl (cI, 4, .inl (fun _ => 0))), (r8 1, .inl (cI, 4, .inl (fun _ => 0))), (r8 2, .inl (cI, 4, .inl (fun _ => 0))), (r8 3, .inl (cI, 4, .inl (fun _ => 0))), (r8 4, .inl (cI, 4, .inl (fun _ => 0))), (r8 5, .inl (cI, 4, .inl (fun _ => 0))), (r8 6, .inl (cI, 4, .inl (fun _ => 0)))]) := hD
  refine va_putF (D := (dC, dI)) (ci := 2) (v := .ref q8) (ty := (.array (.array .int))) (C := RX2) (T := TX2) (N := 11) hx hb hT in_X2 tyX2 tyX2_ok nmX2 hown hK hP hD hS 0 rfl rfl 1 (by decide) (hT _ mw_114) (fun _ h9 => h9) rfl hin rfl (by decide +kernel) rfl rfl (Nat.le_of_ble_eq_true rfl) dX2_init_12 (fun H locs hP hD hS => ?_)
  have hP : va_P (dC, dI) vwCl ([(h0, .inr (2, [.null, .ref q8, .null, .null, .int 0, .int 0, .null, .null, .int 0, .int 0, .int 0])), (q8, .inl (cII, 7, .inr (.inr (.inr (.inr (fun i => if i < 7 then some (r8 i) else none)))))), (r8 0, .inl (cI, 4, .inl (fun _ => 0))), (r8 1, .inl (cI, 4, .inl (fun _ => 0))), (r8 2, .inl (cI, 4, .inl (fun _ => 0))), (r8 3, .inl (cI, 4, .inl (fun _ => 0))), (r8 4, .inl (cI, 4, .inl (fun _ => 0))), (r8 5, .inl (cI, 4, .inl (fun _ => 0))), (r8 6, .inl (cI, 4, .inl (fun _ => 0)))]) H := hP
  have hD : va_D A ([(h0, .inr (2, [.null, .ref q8, .null, .null, .int 0, .int 0, .null, .null, .int 0, .int 0, .int 0])), (q8, .inl (cII, 7, .inr (.inr (.inr (.inr (fun i => if i < 7 then some (r8 i) else none)))))), (r8 0, .inl (cI, 4, .inl (fun _ => 0))), (r8 1, .inl (cI, 4, .inl (fun _ => 0))), (r8 2, .inl (cI, 4, .inl (fun _ => 0))), (r8 3, .inl (cI, 4, .inl (fun _ => 0))), (r8 4, .inl (cI, 4, .inl (fun _ => 0))), (r8 5, .inl (cI, 4, .inl (fun _ => 0))), (r8 6, .inl (cI, 4, .inl (fun _ => 0)))]) := hD
  refine lv_aload_n hx hb dX2_init_15 rfl (lv_at hl 0 rfl) ?_
  refine lv_bipush (v := 7) hx hb dX2_init_16 (by decide) ?_
  refine dk_newa (N := 7) hx hb (hT _ mw_88) hK hP hD hS hA (by decide) (by decide) (by decide) (Nat.le_of_ble_eq_true rfl) (Nat.le_of_ble_eq_true rfl) dX2_init_18 (fun q18 H hP hD hS => ?_)
  have hP : va_P (dC, dI) vwCl ([(h0, .inr (2, [.null, .ref q8, .null, .null, .int 0, .int 0, .null, .null, .int 0, .int 0, .int 0])), (q8, .inl (cII, 7, .inr (.inr (.inr (.inr (fun i => if i < 7 then some (r8 i) else none)))))), (r8 0, .inl (cI, 4, .inl (fun _ => 0))), (r8 1, .inl (cI, 4, .inl (fun _ => 0))), (r8 2, .inl (cI, 4, .inl (fun _ => 0))), (r8 3, .inl (cI, 4, .inl (fun _ => 0))), (r8 4, .inl (cI, 4, .inl (fun _ => 0))), (r8 5, .inl (cI, 4, .inl (fun _ => 0))), (r8 6, .inl (cI, 4, .inl (fun _ => 0))), (q18, .inl (cI, 7, .inl (fun _ => 0)))]) H := hP
  have hD : va_D A ([(h0, .inr (2, [.null, .ref q8, .null, .null, .int 0, .int 0, .null, .null, .int 0, .int 0, .int 0])), (q8, .inl (cII, 7, .inr (.inr (.inr (.inr (fun i => if i < 7 then some (r8 i) else none)))))), (r8 0, .inl (cI, 4, .inl (fun _ => 0))), (r8 1, .inl (cI, 4, .inl (fun _ => 0))), (r8 2, .inl (cI, 4, .inl (fun _ => 0))), (r8 3, .inl (cI, 4, .inl (fun _ => 0))), (r8 4, .inl (cI, 4, .inl (fun _ => 0))), (r8 5, .inl (cI, 4, .inl (fun _ => 0))), (r8 6, .inl (cI, 4, .inl (fun _ => 0))), (q18, .inl (cI, 7, .inl (fun _ => 0)))]) := hD
  refine va_putF (D := (dC, dI)) (ci := 2) (v := .ref q18) (ty := (.array .int)) (C := RX2) (T := TX2) (N := 11) hx hb hT in_X2 tyX2 tyX2_ok nmX2 hown hK hP hD hS 0 rfl rfl 2 (by decide) (hT _ mw_115) (fun _ h9 => h9) rfl hin rfl (by decide +kernel) rfl rfl (Nat.le_of_ble_eq_true rfl) dX2_init_20 (fun H locs hP hD hS => ?_)
  have hP : va_P (dC, dI) vwCl ([(h0, .inr (2, [.null, .ref q8, .ref q18, .null, .int 0, .int 0, .null, .null, .int 0, .int 0, .int 0])), (q8, .inl (cII, 7, .inr (.inr (.inr (.inr (fun i => if i < 7 then some (r8 i) else none)))))), (r8 0, .inl (cI, 4, .inl (fun _ => 0))), (r8 1, .inl (cI, 4, .inl (fun _ => 0))), (r8 2, .inl (cI, 4, .inl (fun _ => 0))), (r8 3, .inl (cI, 4, .inl (fun _ => 0))), (r8 4, .inl (cI, 4, .inl (fun _ => 0))), (r8 5, .inl (cI, 4, .inl (fun _ => 0))), (r8 6, .inl (cI, 4, .inl (fun _ => 0))), (q18, .inl (cI, 7, .inl (fun _ => 0)))]) H := hP
  have hD : va_D A ([(h0, .inr (2, [.null, .ref q8, .ref q18, .null, .int 0, .int 0, .null, .null, .int 0, .int 0, .int 0])), (q8, .inl (cII, 7, .inr (.inr (.inr (.inr (fun i => if i < 7 then some (r8 i) else none)))))), (r8 0, .inl (cI, 4, .inl (fun _ => 0))), (r8 1, .inl (cI, 4, .inl (fun _ => 0))), (r8 2, .inl (cI, 4, .inl (fun _ => 0))), (r8 3, .inl (cI, 4, .inl (fun _ => 0))), (r8 4, .inl (cI, 4, .inl (fun _ => 0))), (r8 5, .inl (cI, 4, .inl (fun _ => 0))), (r8 6, .inl (cI, 4, .inl (fun _ => 0))), (q18, .inl (cI, 7, .inl (fun _ => 0)))]) := hD
  refine lv_aload_n hx hb dX2_init_23 rfl (lv_at hl 0 rfl) ?_
  refine lv_bipush (v := 7) hx hb dX2_init_24 (by decide) ?_
  refine dk_newa (N := 7) hx hb (hT _ mw_88) hK hP hD hS hA (by decide) (by decide) (by decide) (Nat.le_of_ble_eq_true rfl) (Nat.le_of_ble_eq_true rfl) dX2_init_26 (fun q26 H hP hD hS => ?_)
  have hP : va_P (dC, dI) vwCl ([(h0, .inr (2, [.null, .ref q8, .ref q18, .null, .int 0, .int 0, .null, .null, .int 0, .int 0, .int 0])), (q8, .inl (cII, 7, .inr (.inr (.inr (.inr (fun i => if i < 7 then some (r8 i) else none)))))), (r8 0, .inl (cI, 4, .inl (fun _ => 0))), (r8 1, .inl (cI, 4, .inl (fun _ => 0))), (r8 2, .inl (cI, 4, .inl (fun _ => 0))), (r8 3, .inl (cI, 4, .inl (fun _ => 0))), (r8 4, .inl (cI, 4, .inl (fun _ => 0))), (r8 5, .inl (cI, 4, .inl (fun _ => 0))), (r8 6, .inl (cI, 4, .inl (fun _ => 0))), (q18, .inl (cI, 7, .inl (fun _ => 0))), (q26, .inl (cI, 7, .inl (fun _ => 0)))]) H := hP
  have hD : va_D A ([(h0, .inr (2, [.null, .ref q8, .ref q18, .null, .int 0, .int 0, .null, .null, .int 0, .int 0, .int 0])), (q8, .inl (cII, 7, .inr (.inr (.inr (.inr (fun i => if i < 7 then some (r8 i) else none)))))), (r8 0, .inl (cI, 4, .inl (fun _ => 0))), (r8 1, .inl (cI, 4, .inl (fun _ => 0))), (r8 2, .inl (cI, 4, .inl (fun _ => 0))), (r8 3, .inl (cI, 4, .inl (fun _ => 0))), (r8 4, .inl (cI, 4, .inl (fun _ => 0))), (r8 5, .inl (cI, 4, .inl (fun _ => 0))), (r8 6, .inl (cI, 4, .inl (fun _ => 0))), (q18, .inl (cI, 7, .inl (fun _ => 0))), (q26, .inl (cI, 7, .inl (fun _ => 0)))]) := hD
  refine va_putF (D := (dC, dI)) (ci := 2) (v := .ref q26) (ty := (.array .int)) (C := RX2) (T := TX2) (N := 11) hx hb hT in_X2 tyX2 tyX2_ok nmX2 hown hK hP hD hS 0 rfl rfl 3 (by decide) (hT _ mw_116) (fun _ h9 => h9) rfl hin rfl (by decide +kernel) rfl rfl (Nat.le_of_ble_eq_true rfl) dX2_init_28 (fun H locs hP hD hS => ?_)
  have hP : va_P (dC, dI) vwCl ([(h0, .inr (2, [.null, .ref q8, .ref q18, .ref q26, .int 0, .int 0, .null, .null, .int 0, .int 0, .int 0])), (q8, .inl (cII, 7, .inr (.inr (.inr (.inr (fun i => if i < 7 then some (r8 i) else none)))))), (r8 0, .inl (cI, 4, .inl (fun _ => 0))), (r8 1, .inl (cI, 4, .inl (fun _ => 0))), (r8 2, .inl (cI, 4, .inl (fun _ => 0))), (r8 3, .inl (cI, 4, .inl (fun _ => 0))), (r8 4, .inl (cI, 4, .inl (fun _ => 0))), (r8 5, .inl (cI, 4, .inl (fun _ => 0))), (r8 6, .inl (cI, 4, .inl (fun _ => 0))), (q18, .inl (cI, 7, .inl (fun _ => 0))), (q26, .inl (cI, 7, .inl (fun _ => 0)))]) H := hP
  have hD : va_D A ([(h0, .inr (2, [.null, .ref q8, .ref q18, .ref q26, .int 0, .int 0, .null, .null, .int 0, .int 0, .int 0])), (q8, .inl (cII, 7, .inr (.inr (.inr (.inr (fun i => if i < 7 then some (r8 i) else none)))))), (r8 0, .inl (cI, 4, .inl (fun _ => 0))), (r8 1, .inl (cI, 4, .inl (fun _ => 0))), (r8 2, .inl (cI, 4, .inl (fun _ => 0))), (r8 3, .inl (cI, 4, .inl (fun _ => 0))), (r8 4, .inl (cI, 4, .inl (fun _ => 0))), (r8 5, .inl (cI, 4, .inl (fun _ => 0))), (r8 6, .inl (cI, 4, .inl (fun _ => 0))), (q18, .inl (cI, 7, .inl (fun _ => 0))), (q26, .inl (cI, 7, .inl (fun _ => 0)))]) := hD
  refine lv_aload_n hx hb dX2_init_31 rfl (lv_at hl 0 rfl) ?_
  refine lv_iconst (v := 0) hx hb dX2_init_32 (by decide) ?_
  refine va_put (D := (dC, dI)) (ci := 2) (v := .int 0) (ty := .int) (C := RX2) (T := TX2) (N := 11) hx hb hT in_X2 tyX2 tyX2_ok nmX2 hown hK hP hD hS 0 rfl rfl 4 (by decide) (hT _ mw_117) (fun _ h9 => h9) rfl (by decide +kernel) rfl rfl (Nat.le_of_ble_eq_true rfl) dX2_init_33 (fun H locs hP hD hS => ?_)
  have hP : va_P (dC, dI) vwCl ([(h0, .inr (2, [.null, .ref q8, .ref q18, .ref q26, .int 0, .int 0, .null, .null, .int 0, .int 0, .int 0])), (q8, .inl (cII, 7, .inr (.inr (.inr (.inr (fun i => if i < 7 then some (r8 i) else none)))))), (r8 0, .inl (cI, 4, .inl (fun _ => 0))), (r8 1, .inl (cI, 4, .inl (fun _ => 0))), (r8 2, .inl (cI, 4, .inl (fun _ => 0))), (r8 3, .inl (cI, 4, .inl (fun _ => 0))), (r8 4, .inl (cI, 4, .inl (fun _ => 0))), (r8 5, .inl (cI, 4, .inl (fun _ => 0))), (r8 6, .inl (cI, 4, .inl (fun _ => 0))), (q18, .inl (cI, 7, .inl (fun _ => 0))), (q26, .inl (cI, 7, .inl (fun _ => 0)))]) H := hP
  have hD : va_D A ([(h0, .inr (2, [.null, .ref q8, .ref q18, .ref q26, .int 0, .int 0, .null, .null, .int 0, .int 0, .int 0])), (q8, .inl (cII, 7, .inr (.inr (.inr (.inr (fun i => if i < 7 then some (r8 i) else none)))))), (r8 0, .inl (cI, 4, .inl (fun _ => 0))), (r8 1, .inl (cI, 4, .inl (fun _ => 0))), (r8 2, .inl (cI, 4, .inl (fun _ => 0))), (r8 3, .inl (cI, 4, .inl (fun _ => 0))), (r8 4, .inl (cI, 4, .inl (fun _ => 0))), (r8 5, .inl (cI, 4, .inl (fun _ => 0))), (r8 6, .inl (cI, 4, .inl (fun _ => 0))), (q18, .inl (cI, 7, .inl (fun _ => 0))), (q26, .inl (cI, 7, .inl (fun _ => 0)))]) := hD
  refine lv_aload_n hx hb dX2_init_36 rfl (lv_at hl 0 rfl) ?_
  refine lv_iconst (v := 0) hx hb dX2_init_37 (by decide) ?_
  refine va_put (D := (dC, dI)) (ci := 2) (v := .int 0) (ty := .int) (C := RX2) (T := TX2) (N := 11) hx hb hT in_X2 tyX2 tyX2_ok nmX2 hown hK hP hD hS 0 rfl rfl 5 (by decide) (hT _ mw_118) (fun _ h9 => h9) rfl (by decide +kernel) rfl rfl (Nat.le_of_ble_eq_true rfl) dX2_init_38 (fun H locs hP hD hS => ?_)
  have hP : va_P (dC, dI) vwCl ([(h0, .inr (2, [.null, .ref q8, .ref q18, .ref q26, .int 0, .int 0, .null, .null, .int 0, .int 0, .int 0])), (q8, .inl (cII, 7, .inr (.inr (.inr (.inr (fun i => if i < 7 then some (r8 i) else none)))))), (r8 0, .inl (cI, 4, .inl (fun _ => 0))), (r8 1, .inl (cI, 4, .inl (fun _ => 0))), (r8 2, .inl (cI, 4, .inl (fun _ => 0))), (r8 3, .inl (cI, 4, .inl (fun _ => 0))), (r8 4, .inl (cI, 4, .inl (fun _ => 0))), (r8 5, .inl (cI, 4, .inl (fun _ => 0))), (r8 6, .inl (cI, 4, .inl (fun _ => 0))), (q18, .inl (cI, 7, .inl (fun _ => 0))), (q26, .inl (cI, 7, .inl (fun _ => 0)))]) H := hP
  have hD : va_D A ([(h0, .inr (2, [.null, .ref q8, .ref q18, .ref q26, .int 0, .int 0, .null, .null, .int 0, .int 0, .int 0])), (q8, .inl (cII, 7, .inr (.inr (.inr (.inr (fun i => if i < 7 then some (r8 i) else none)))))), (r8 0, .inl (cI, 4, .inl (fun _ => 0))), (r8 1, .inl (cI, 4, .inl (fun _ => 0))), (r8 2, .inl (cI, 4, .inl (fun _ => 0))), (r8 3, .inl (cI, 4, .inl (fun _ => 0))), (r8 4, .inl (cI, 4, .inl (fun _ => 0))), (r8 5, .inl (cI, 4, .inl (fun _ => 0))), (r8 6, .inl (cI, 4, .inl (fun _ => 0))), (q18, .inl (cI, 7, .inl (fun _ => 0))), (q26, .inl (cI, 7, .inl (fun _ => 0)))]) := hD
  refine lv_aload_n hx hb dX2_init_41 rfl (lv_at hl 0 rfl) ?_
  refine lv_bipush (v := 7) hx hb dX2_init_42 (by decide) ?_
  refine dk_newa (N := 7) hx hb (hT _ mw_88) hK hP hD hS hA (by decide) (by decide) (by decide) (Nat.le_of_ble_eq_true rfl) (Nat.le_of_ble_eq_true rfl) dX2_init_44 (fun q44 H hP hD hS => ?_)
  have hP : va_P (dC, dI) vwCl ([(h0, .inr (2, [.null, .ref q8, .ref q18, .ref q26, .int 0, .int 0, .null, .null, .int 0, .int 0, .int 0])), (q8, .inl (cII, 7, .inr (.inr (.inr (.inr (fun i => if i < 7 then some (r8 i) else none)))))), (r8 0, .inl (cI, 4, .inl (fun _ => 0))), (r8 1, .inl (cI, 4, .inl (fun _ => 0))), (r8 2, .inl (cI, 4, .inl (fun _ => 0))), (r8 3, .inl (cI, 4, .inl (fun _ => 0))), (r8 4, .inl (cI, 4, .inl (fun _ => 0))), (r8 5, .inl (cI, 4, .inl (fun _ => 0))), (r8 6, .inl (cI, 4, .inl (fun _ => 0))), (q18, .inl (cI, 7, .inl (fun _ => 0))), (q26, .inl (cI, 7, .inl (fun _ => 0))), (q44, .inl (cI, 7, .inl (fun _ => 0)))]) H := hP
  have hD : va_D A ([(h0, .inr (2, [.null, .ref q8, .ref q18, .ref q26, .int 0, .int 0, .null, .null, .int 0, .int 0, .int 0])), (q8, .inl (cII, 7, .inr (.inr (.inr (.inr (fun i => if i < 7 then some (r8 i) else none)))))), (r8 0, .inl (cI, 4, .inl (fun _ => 0))), (r8 1, .inl (cI, 4, .inl (fun _ => 0))), (r8 2, .inl (cI, 4, .inl (fun _ => 0))), (r8 3, .inl (cI, 4, .inl (fun _ => 0))), (r8 4, .inl (cI, 4, .inl (fun _ => 0))), (r8 5, .inl (cI, 4, .inl (fun _ => 0))), (r8 6, .inl (cI, 4, .inl (fun _ => 0))), (q18, .inl (cI, 7, .inl (fun _ => 0))), (q26, .inl (cI, 7, .inl (fun _ => 0))), (q44, .inl (cI, 7, .inl (fun _ => 0)))]) := hD
  refine va_putF (D := (dC, dI)) (ci := 2) (v := .ref q44) (ty := (.array .int)) (C := RX2) (T := TX2) (N := 11) hx hb hT in_X2 tyX2 tyX2_ok nmX2 hown hK hP hD hS 0 rfl rfl 6 (by decide) (hT _ mw_119) (fun _ h9 => h9) rfl hin rfl (by decide +kernel) rfl rfl (Nat.le_of_ble_eq_true rfl) dX2_init_46 (fun H locs hP hD hS => ?_)
  have hP : va_P (dC, dI) vwCl ([(h0, .inr (2, [.null, .ref q8, .ref q18, .ref q26, .int 0, .int 0, .ref q44, .null, .int 0, .int 0, .int 0])), (q8, .inl (cII, 7, .inr (.inr (.inr (.inr (fun i => if i < 7 then some (r8 i) else none)))))), (r8 0, .inl (cI, 4, .inl (fun _ => 0))), (r8 1, .inl (cI, 4, .inl (fun _ => 0))), (r8 2, .inl (cI, 4, .inl (fun _ => 0))), (r8 3, .inl (cI, 4, .inl (fun _ => 0))), (r8 4, .inl (cI, 4, .inl (fun _ => 0))), (r8 5, .inl (cI, 4, .inl (fun _ => 0))), (r8 6, .inl (cI, 4, .inl (fun _ => 0))), (q18, .inl (cI, 7, .inl (fun _ => 0))), (q26, .inl (cI, 7, .inl (fun _ => 0))), (q44, .inl (cI, 7, .inl (fun _ => 0)))]) H := hP
  have hD : va_D A ([(h0, .inr (2, [.null, .ref q8, .ref q18, .ref q26, .int 0, .int 0, .ref q44, .null, .int 0, .int 0, .int 0])), (q8, .inl (cII, 7, .inr (.inr (.inr (.inr (fun i => if i < 7 then some (r8 i) else none)))))), (r8 0, .inl (cI, 4, .inl (fun _ => 0))), (r8 1, .inl (cI, 4, .inl (fun _ => 0))), (r8 2, .inl (cI, 4, .inl (fun _ => 0))), (r8 3, .inl (cI, 4, .inl (fun _ => 0))), (r8 4, .inl (cI, 4, .inl (fun _ => 0))), (r8 5, .inl (cI, 4, .inl (fun _ => 0))), (r8 6, .inl (cI, 4, .inl (fun _ => 0))), (q18, .inl (cI, 7, .inl (fun _ => 0))), (q26, .inl (cI, 7, .inl (fun _ => 0))), (q44, .inl (cI, 7, .inl (fun _ => 0)))]) := hD
  refine lv_aload_n hx hb dX2_init_49 rfl (lv_at hl 0 rfl) ?_
  refine lv_bipush (v := 7) hx hb dX2_init_50 (by decide) ?_
  refine dk_newa (N := 7) hx hb (hT _ mw_88) hK hP hD hS hA (by decide) (by decide) (by decide) (Nat.le_of_ble_eq_true rfl) (Nat.le_of_ble_eq_true rfl) dX2_init_52 (fun q52 H hP hD hS => ?_)
  have hP : va_P (dC, dI) vwCl ([(h0, .inr (2, [.null, .ref q8, .ref q18, .ref q26, .int 0, .int 0, .ref q44, .null, .int 0, .int 0, .int 0])), (q8, .inl (cII, 7, .inr (.inr (.inr (.inr (fun i => if i < 7 then some (r8 i) else none)))))), (r8 0, .inl (cI, 4, .inl (fun _ => 0))), (r8 1, .inl (cI, 4, .inl (fun _ => 0))), (r8 2, .inl (cI, 4, .inl (fun _ => 0))), (r8 3, .inl (cI, 4, .inl (fun _ => 0))), (r8 4, .inl (cI, 4, .inl (fun _ => 0))), (r8 5, .inl (cI, 4, .inl (fun _ => 0))), (r8 6, .inl (cI, 4, .inl (fun _ => 0))), (q18, .inl (cI, 7, .inl (fun _ => 0))), (q26, .inl (cI, 7, .inl (fun _ => 0))), (q44, .inl (cI, 7, .inl (fun _ => 0))), (q52, .inl (cI, 7, .inl (fun _ => 0)))]) H := hP
  have hD : va_D A ([(h0, .inr (2, [.null, .ref q8, .ref q18, .ref q26, .int 0, .int 0, .ref q44, .null, .int 0, .int 0, .int 0])), (q8, .inl (cII, 7, .inr (.inr (.inr (.inr (fun i => if i < 7 then some (r8 i) else none)))))), (r8 0, .inl (cI, 4, .inl (fun _ => 0))), (r8 1, .inl (cI, 4, .inl (fun _ => 0))), (r8 2, .inl (cI, 4, .inl (fun _ => 0))), (r8 3, .inl (cI, 4, .inl (fun _ => 0))), (r8 4, .inl (cI, 4, .inl (fun _ => 0))), (r8 5, .inl (cI, 4, .inl (fun _ => 0))), (r8 6, .inl (cI, 4, .inl (fun _ => 0))), (q18, .inl (cI, 7, .inl (fun _ => 0))), (q26, .inl (cI, 7, .inl (fun _ => 0))), (q44, .inl (cI, 7, .inl (fun _ => 0))), (q52, .inl (cI, 7, .inl (fun _ => 0)))]) := hD
  refine va_putF (D := (dC, dI)) (ci := 2) (v := .ref q52) (ty := (.array .int)) (C := RX2) (T := TX2) (N := 11) hx hb hT in_X2 tyX2 tyX2_ok nmX2 hown hK hP hD hS 0 rfl rfl 7 (by decide) (hT _ mw_121) (fun _ h9 => h9) rfl hin rfl (by decide +kernel) rfl rfl (Nat.le_of_ble_eq_true rfl) dX2_init_54 (fun H locs hP hD hS => ?_)
  have hP : va_P (dC, dI) vwCl ([(h0, .inr (2, [.null, .ref q8, .ref q18, .ref q26, .int 0, .int 0, .ref q44, .ref q52, .int 0, .int 0, .int 0])), (q8, .inl (cII, 7, .inr (.inr (.inr (.inr (fun i => if i < 7 then some (r8 i) else none)))))), (r8 0, .inl (cI, 4, .inl (fun _ => 0))), (r8 1, .inl (cI, 4, .inl (fun _ => 0))), (r8 2, .inl (cI, 4, .inl (fun _ => 0))), (r8 3, .inl (cI, 4, .inl (fun _ => 0))), (r8 4, .inl (cI, 4, .inl (fun _ => 0))), (r8 5, .inl (cI, 4, .inl (fun _ => 0))), (r8 6, .inl (cI, 4, .inl (fun _ => 0))), (q18, .inl (cI, 7, .inl (fun _ => 0))), (q26, .inl (cI, 7, .inl (fun _ => 0))), (q44, .inl (cI, 7, .inl (fun _ => 0))), (q52, .inl (cI, 7, .inl (fun _ => 0)))]) H := hP
  have hD : va_D A ([(h0, .inr (2, [.null, .ref q8, .ref q18, .ref q26, .int 0, .int 0, .ref q44, .ref q52, .int 0, .int 0, .int 0])), (q8, .inl (cII, 7, .inr (.inr (.inr (.inr (fun i => if i < 7 then some (r8 i) else none)))))), (r8 0, .inl (cI, 4, .inl (fun _ => 0))), (r8 1, .inl (cI, 4, .inl (fun _ => 0))), (r8 2, .inl (cI, 4, .inl (fun _ => 0))), (r8 3, .inl (cI, 4, .inl (fun _ => 0))), (r8 4, .inl (cI, 4, .inl (fun _ => 0))), (r8 5, .inl (cI, 4, .inl (fun _ => 0))), (r8 6, .inl (cI, 4, .inl (fun _ => 0))), (q18, .inl (cI, 7, .inl (fun _ => 0))), (q26, .inl (cI, 7, .inl (fun _ => 0))), (q44, .inl (cI, 7, .inl (fun _ => 0))), (q52, .inl (cI, 7, .inl (fun _ => 0)))]) := hD
  refine lv_aload_n hx hb dX2_init_57 rfl (lv_at hl 0 rfl) ?_
  refine lv_iconst (v := 0) hx hb dX2_init_58 (by decide) ?_
  refine va_put (D := (dC, dI)) (ci := 2) (v := .int 0) (ty := .boolean) (C := RX2) (T := TX2) (N := 11) hx hb hT in_X2 tyX2 tyX2_ok nmX2 hown hK hP hD hS 0 rfl rfl 8 (by decide) (hT _ mw_123) (fun _ h9 => h9) rfl (by decide +kernel) rfl rfl (Nat.le_of_ble_eq_true rfl) dX2_init_59 (fun H locs hP hD hS => ?_)
  have hP : va_P (dC, dI) vwCl ([(h0, .inr (2, [.null, .ref q8, .ref q18, .ref q26, .int 0, .int 0, .ref q44, .ref q52, .int 0, .int 0, .int 0])), (q8, .inl (cII, 7, .inr (.inr (.inr (.inr (fun i => if i < 7 then some (r8 i) else none)))))), (r8 0, .inl (cI, 4, .inl (fun _ => 0))), (r8 1, .inl (cI, 4, .inl (fun _ => 0))), (r8 2, .inl (cI, 4, .inl (fun _ => 0))), (r8 3, .inl (cI, 4, .inl (fun _ => 0))), (r8 4, .inl (cI, 4, .inl (fun _ => 0))), (r8 5, .inl (cI, 4, .inl (fun _ => 0))), (r8 6, .inl (cI, 4, .inl (fun _ => 0))), (q18, .inl (cI, 7, .inl (fun _ => 0))), (q26, .inl (cI, 7, .inl (fun _ => 0))), (q44, .inl (cI, 7, .inl (fun _ => 0))), (q52, .inl (cI, 7, .inl (fun _ => 0)))]) H := hP
  have hD : va_D A ([(h0, .inr (2, [.null, .ref q8, .ref q18, .ref q26, .int 0, .int 0, .ref q44, .ref q52, .int 0, .int 0, .int 0])), (q8, .inl (cII, 7, .inr (.inr (.inr (.inr (fun i => if i < 7 then some (r8 i) else none)))))), (r8 0, .inl (cI, 4, .inl (fun _ => 0))), (r8 1, .inl (cI, 4, .inl (fun _ => 0))), (r8 2, .inl (cI, 4, .inl (fun _ => 0))), (r8 3, .inl (cI, 4, .inl (fun _ => 0))), (r8 4, .inl (cI, 4, .inl (fun _ => 0))), (r8 5, .inl (cI, 4, .inl (fun _ => 0))), (r8 6, .inl (cI, 4, .inl (fun _ => 0))), (q18, .inl (cI, 7, .inl (fun _ => 0))), (q26, .inl (cI, 7, .inl (fun _ => 0))), (q44, .inl (cI, 7, .inl (fun _ => 0))), (q52, .inl (cI, 7, .inl (fun _ => 0)))]) := hD
  refine lv_aload_n hx hb dX2_init_62 rfl (lv_at hl 0 rfl) ?_
  refine lv_iconst (v := 0) hx hb dX2_init_63 (by decide) ?_
  refine va_put (D := (dC, dI)) (ci := 2) (v := .int 0) (ty := .int) (C := RX2) (T := TX2) (N := 11) hx hb hT in_X2 tyX2 tyX2_ok nmX2 hown hK hP hD hS 0 rfl rfl 9 (by decide) (hT _ mw_125) (fun _ h9 => h9) rfl (by decide +kernel) rfl rfl (Nat.le_of_ble_eq_true rfl) dX2_init_64 (fun H locs hP hD hS => ?_)
  have hP : va_P (dC, dI) vwCl ([(h0, .inr (2, [.null, .ref q8, .ref q18, .ref q26, .int 0, .int 0, .ref q44, .ref q52, .int 0, .int 0, .int 0])), (q8, .inl (cII, 7, .inr (.inr (.inr (.inr (fun i => if i < 7 then some (r8 i) else none)))))), (r8 0, .inl (cI, 4, .inl (fun _ => 0))), (r8 1, .inl (cI, 4, .inl (fun _ => 0))), (r8 2, .inl (cI, 4, .inl (fun _ => 0))), (r8 3, .inl (cI, 4, .inl (fun _ => 0))), (r8 4, .inl (cI, 4, .inl (fun _ => 0))), (r8 5, .inl (cI, 4, .inl (fun _ => 0))), (r8 6, .inl (cI, 4, .inl (fun _ => 0))), (q18, .inl (cI, 7, .inl (fun _ => 0))), (q26, .inl (cI, 7, .inl (fun _ => 0))), (q44, .inl (cI, 7, .inl (fun _ => 0))), (q52, .inl (cI, 7, .inl (fun _ => 0)))]) H := hP
  have hD : va_D A ([(h0, .inr (2, [.null, .ref q8, .ref q18, .ref q26, .int 0, .int 0, .ref q44, .ref q52, .int 0, .int 0, .int 0])), (q8, .inl (cII, 7, .inr (.inr (.inr (.inr (fun i => if i < 7 then some (r8 i) else none)))))), (r8 0, .inl (cI, 4, .inl (fun _ => 0))), (r8 1, .inl (cI, 4, .inl (fun _ => 0))), (r8 2, .inl (cI, 4, .inl (fun _ => 0))), (r8 3, .inl (cI, 4, .inl (fun _ => 0))), (r8 4, .inl (cI, 4, .inl (fun _ => 0))), (r8 5, .inl (cI, 4, .inl (fun _ => 0))), (r8 6, .inl (cI, 4, .inl (fun _ => 0))), (q18, .inl (cI, 7, .inl (fun _ => 0))), (q26, .inl (cI, 7, .inl (fun _ => 0))), (q44, .inl (cI, 7, .inl (fun _ => 0))), (q52, .inl (cI, 7, .inl (fun _ => 0)))]) := hD
  refine lv_aload_n hx hb dX2_init_67 rfl (lv_at hl 0 rfl) ?_
  refine lv_iconst (v := 0) hx hb dX2_init_68 (by decide) ?_
  refine va_put (D := (dC, dI)) (ci := 2) (v := .int 0) (ty := .int) (C := RX2) (T := TX2) (N := 11) hx hb hT in_X2 tyX2 tyX2_ok nmX2 hown hK hP hD hS 0 rfl rfl 10 (by decide) (hT _ mw_127) (fun _ h9 => h9) rfl (by decide +kernel) rfl rfl (Nat.le_of_ble_eq_true rfl) dX2_init_69 (fun H locs hP hD hS => ?_)
  have hP : va_P (dC, dI) vwCl ([(h0, .inr (2, [.null, .ref q8, .ref q18, .ref q26, .int 0, .int 0, .ref q44, .ref q52, .int 0, .int 0, .int 0])), (q8, .inl (cII, 7, .inr (.inr (.inr (.inr (fun i => if i < 7 then some (r8 i) else none)))))), (r8 0, .inl (cI, 4, .inl (fun _ => 0))), (r8 1, .inl (cI, 4, .inl (fun _ => 0))), (r8 2, .inl (cI, 4, .inl (fun _ => 0))), (r8 3, .inl (cI, 4, .inl (fun _ => 0))), (r8 4, .inl (cI, 4, .inl (fun _ => 0))), (r8 5, .inl (cI, 4, .inl (fun _ => 0))), (r8 6, .inl (cI, 4, .inl (fun _ => 0))), (q18, .inl (cI, 7, .inl (fun _ => 0))), (q26, .inl (cI, 7, .inl (fun _ => 0))), (q44, .inl (cI, 7, .inl (fun _ => 0))), (q52, .inl (cI, 7, .inl (fun _ => 0)))]) H := hP
  have hD : va_D A ([(h0, .inr (2, [.null, .ref q8, .ref q18, .ref q26, .int 0, .int 0, .ref q44, .ref q52, .int 0, .int 0, .int 0])), (q8, .inl (cII, 7, .inr (.inr (.inr (.inr (fun i => if i < 7 then some (r8 i) else none)))))), (r8 0, .inl (cI, 4, .inl (fun _ => 0))), (r8 1, .inl (cI, 4, .inl (fun _ => 0))), (r8 2, .inl (cI, 4, .inl (fun _ => 0))), (r8 3, .inl (cI, 4, .inl (fun _ => 0))), (r8 4, .inl (cI, 4, .inl (fun _ => 0))), (r8 5, .inl (cI, 4, .inl (fun _ => 0))), (r8 6, .inl (cI, 4, .inl (fun _ => 0))), (q18, .inl (cI, 7, .inl (fun _ => 0))), (q26, .inl (cI, 7, .inl (fun _ => 0))), (q44, .inl (cI, 7, .inl (fun _ => 0))), (q52, .inl (cI, 7, .inl (fun _ => 0)))]) := hD
  refine lv_aload_n hx hb dX2_init_72 rfl (lv_at hl 0 rfl) ?_
  refine lv_aload_n hx hb dX2_init_73 rfl (lv_at hl 1 rfl) ?_
  refine va_putF (D := (dC, dI)) (ci := 2) (v := .ref nw) (ty := (.object "DuctSizes$Network")) (C := RX2) (T := TX2) (N := 11) hx hb hT in_X2 tyX2 tyX2_ok nmX2 hown hK hP hD hS 0 rfl rfl 0 (by decide) (hT _ mw_113) (fun _ h9 => h9) rfl hin rfl (by decide +kernel) rfl rfl (Nat.le_of_ble_eq_true rfl) dX2_init_74 (fun H locs hP hD hS => ?_)
  have hP : va_P (dC, dI) vwCl ([(h0, .inr (2, [.ref nw, .ref q8, .ref q18, .ref q26, .int 0, .int 0, .ref q44, .ref q52, .int 0, .int 0, .int 0])), (q8, .inl (cII, 7, .inr (.inr (.inr (.inr (fun i => if i < 7 then some (r8 i) else none)))))), (r8 0, .inl (cI, 4, .inl (fun _ => 0))), (r8 1, .inl (cI, 4, .inl (fun _ => 0))), (r8 2, .inl (cI, 4, .inl (fun _ => 0))), (r8 3, .inl (cI, 4, .inl (fun _ => 0))), (r8 4, .inl (cI, 4, .inl (fun _ => 0))), (r8 5, .inl (cI, 4, .inl (fun _ => 0))), (r8 6, .inl (cI, 4, .inl (fun _ => 0))), (q18, .inl (cI, 7, .inl (fun _ => 0))), (q26, .inl (cI, 7, .inl (fun _ => 0))), (q44, .inl (cI, 7, .inl (fun _ => 0))), (q52, .inl (cI, 7, .inl (fun _ => 0)))]) H := hP
  have hD : va_D A ([(h0, .inr (2, [.ref nw, .ref q8, .ref q18, .ref q26, .int 0, .int 0, .ref q44, .ref q52, .int 0, .int 0, .int 0])), (q8, .inl (cII, 7, .inr (.inr (.inr (.inr (fun i => if i < 7 then some (r8 i) else none)))))), (r8 0, .inl (cI, 4, .inl (fun _ => 0))), (r8 1, .inl (cI, 4, .inl (fun _ => 0))), (r8 2, .inl (cI, 4, .inl (fun _ => 0))), (r8 3, .inl (cI, 4, .inl (fun _ => 0))), (r8 4, .inl (cI, 4, .inl (fun _ => 0))), (r8 5, .inl (cI, 4, .inl (fun _ => 0))), (r8 6, .inl (cI, 4, .inl (fun _ => 0))), (q18, .inl (cI, 7, .inl (fun _ => 0))), (q26, .inl (cI, 7, .inl (fun _ => 0))), (q44, .inl (cI, 7, .inl (fun _ => 0))), (q52, .inl (cI, 7, .inl (fun _ => 0)))]) := hD
  exact hret (dk_adr h0 q8 q18 q26 q44 q52 r8) _ _ _ _ rfl (hP.sub (ws' := dk_S cI cII (dk_adr h0 q8 q18 q26 q44 q52 r8) nw (fun _ _ => 0) (fun _ => 0) (fun _ => 0) 0 0 (fun _ => 0) (fun _ => 0) 0 0 0) [0, 1, 9, 10, 11, 12, 2, 3, 4, 5, 6, 7, 8] rfl) (hD.sub (ws' := dk_S cI cII (dk_adr h0 q8 q18 q26 q44 q52 r8) nw (fun _ _ => 0) (fun _ => 0) (fun _ => 0) 0 0 (fun _ => 0) (fun _ => 0) 0 0 0) [0, 1, 9, 10, 11, 12, 2, 3, 4, 5, 6, 7, 8] (by decide) rfl) hS dX2_init_77
end
section
set_option maxHeartbeats 4000000 in
set_option maxRecDepth 100000 in
/-- DuctSizes$Search.isBetter -/
theorem c_X2_isBetter (l : Launch) (dC : Nat → ClassId) (dI : Nat → Nat → Nat) (cI cII : ClassId) (aS : Nat → Nat) (nw : Nat) (F : Nat → Nat → Int32) (ts : Nat → Int32) (tp : Nat → Int32) (li : Int32) (en : Int32) (so : Nat → Int32) (pa : Nat → Int32) (fd : Int32) (co : Int32) (ps : Int32) (x : Int32) (g : Int32) : dk_Ri l yX2_isBetter wsX2_isBetter ({ frames := 0, cells := 0, slots := 0, locals := 0 }) (dC, dI) (dk_T cI cII) [.ref (aS 0), .int x, .int g] (dk_S cI cII aS nw F ts tp li en so pa fd co ps) (fun r => r = dk_better en fd co ps x g) := by
  refine dk_ofRz (cc := cX2_isBetter) (maxL := 4) (by decide) rfl (Nat.le_of_ble_eq_true rfl) ?_
  intro p e s m args below meth c ls Q H ⟨hx, hb, hml, hts, hown, hnm⟩ hK hP hl hret
  have hT : ∀ w ∈ dk_tbl, w.before args s = true := fun w h => hts w (List.mem_cons_of_mem _ h)
  have hown : s.vm.findClass RX2 = some m.cls := hown
  have hl : lv_has ls 4 [(0, .ref (aS 0)), (1, .int x), (2, .int g)] := hl
  refine lv_iload_n hx hb dX2_isBetter_0 rfl (lv_at hl 1 rfl) ?_
  refine lv_aload_n hx hb dX2_isBetter_1 rfl (lv_at hl 0 rfl) ?_
  refine va_get (D := (dC, dI)) (ci := 2) (v := .int en) (C := RX2) (T := TX2) (N := 11) hx hb hT in_X2 hown hK hP 0 rfl rfl 5 (by decide) (hT _ mw_118) (fun _ h9 => h9) rfl dX2_isBetter_2 ?_
  refine lv_iload_n hx hb dX2_isBetter_5 rfl (lv_at hl 2 rfl) ?_
  refine lv_imul hx hb dX2_isBetter_6 ?_
  refine lv_iadd hx hb dX2_isBetter_7 ?_
  refine lv_istore_n (lv' := [(3, .int (x + (en * g))), (0, .ref (aS 0)), (1, .int x), (2, .int g)]) hx hb dX2_isBetter_8 rfl hl (by decide) rfl (fun ls hl => ?_)
  refine lv_aload_n hx hb dX2_isBetter_9 rfl (lv_at hl 1 rfl) ?_
  refine va_get (D := (dC, dI)) (ci := 2) (v := .int fd) (C := RX2) (T := TX2) (N := 11) hx hb hT in_X2 hown hK hP 0 rfl rfl 8 (by decide) (hT _ mw_123) (fun _ h9 => h9) rfl dX2_isBetter_10 ?_
  refine lv_if_eq (tgt := 40) hx hb dX2_isBetter_13 (by decide) (fun c_13 => ?_) (fun c_13 => ?_)
  · refine lv_iconst (v := 1) hx hb dX2_isBetter_40 (by decide) ?_
    refine lv_goto (tgt := 45) hx hb dX2_isBetter_41 (by decide) ?_
    exact hret _ _ _ rfl (by unfold dk_better; rw [if_pos c_13]) dX2_isBetter_45
  · refine lv_iload_n hx hb dX2_isBetter_16 rfl (lv_at hl 0 rfl) ?_
    refine lv_aload_n hx hb dX2_isBetter_17 rfl (lv_at hl 1 rfl) ?_
    refine va_get (D := (dC, dI)) (ci := 2) (v := .int co) (C := RX2) (T := TX2) (N := 11) hx hb hT in_X2 hown hK hP 0 rfl rfl 9 (by decide) (hT _ mw_125) (fun _ h9 => h9) rfl dX2_isBetter_18 ?_
    refine lv_icmp_lt (tgt := 40) hx hb dX2_isBetter_21 (by decide) (fun c_21 => ?_) (fun c_21 => ?_)
    · refine lv_iconst (v := 1) hx hb dX2_isBetter_40 (by decide) ?_
      refine lv_goto (tgt := 45) hx hb dX2_isBetter_41 (by decide) ?_
      exact hret _ _ _ rfl (by unfold dk_better; rw [if_neg c_13, if_pos c_21]) dX2_isBetter_45
    · refine lv_iload_n hx hb dX2_isBetter_24 rfl (lv_at hl 0 rfl) ?_
      refine lv_aload_n hx hb dX2_isBetter_25 rfl (lv_at hl 1 rfl) ?_
      refine va_get (D := (dC, dI)) (ci := 2) (v := .int co) (C := RX2) (T := TX2) (N := 11) hx hb hT in_X2 hown hK hP 0 rfl rfl 9 (by decide) (hT _ mw_125) (fun _ h9 => h9) rfl dX2_isBetter_26 ?_
      refine lv_icmp_ne (tgt := 44) hx hb dX2_isBetter_29 (by decide) (fun c_29 => ?_) (fun c_29 => ?_)
      · refine lv_iconst (v := 0) hx hb dX2_isBetter_44 (by decide) ?_
        exact hret _ _ _ rfl (by unfold dk_better; rw [if_neg c_13, if_neg c_21, if_neg c_29]) dX2_isBetter_45
      · refine lv_iload_n hx hb dX2_isBetter_32 rfl (lv_at hl 3 rfl) ?_
        refine lv_aload_n hx hb dX2_isBetter_33 rfl (lv_at hl 1 rfl) ?_
        refine va_get (D := (dC, dI)) (ci := 2) (v := .int ps) (C := RX2) (T := TX2) (N := 11) hx hb hT in_X2 hown hK hP 0 rfl rfl 10 (by decide) (hT _ mw_127) (fun _ h9 => h9) rfl dX2_isBetter_34 ?_
        refine lv_icmp_ge (tgt := 44) hx hb dX2_isBetter_37 (by decide) (fun c_37 => ?_) (fun c_37 => ?_)
        · refine lv_iconst (v := 0) hx hb dX2_isBetter_44 (by decide) ?_
          exact hret _ _ _ rfl (by unfold dk_better; rw [if_neg c_13, if_neg c_21, if_pos c_29, if_pos c_37]) dX2_isBetter_45
        · refine lv_iconst (v := 1) hx hb dX2_isBetter_40 (by decide) ?_
          refine lv_goto (tgt := 45) hx hb dX2_isBetter_41 (by decide) ?_
          exact hret _ _ _ rfl (by unfold dk_better; rw [if_neg c_13, if_neg c_21, if_pos c_29, if_neg c_37]) dX2_isBetter_45
end
section
set_option maxHeartbeats 4000000 in
set_option maxRecDepth 100000 in
/-- DuctSizes$Search.firstNodeOfGreatestPressure -/
theorem c_X2_firstNodeOfGreatestPressure (l : Launch) (dC : Nat → ClassId) (dI : Nat → Nat → Nat) (cI cII : ClassId) (aS : Nat → Nat) (F : Nat → Nat → Int32) (ts : Nat → Int32) (tp : Nat → Int32) (li : Int32) (en : Int32) (so : Nat → Int32) (pa : Nat → Int32) (fd : Int32) (co : Int32) (ps : Int32) (aN : Nat → Nat) (fr : Nat → Int32) (le : Nat → Int32) (fi : Nat → Int32) (ne : Nat → Int32) (fl : Nat → Int32) (ar : Nat → Int32) (pr : Nat → Int32) (sz : Int32) (sp : Int32) (d : Nat) (hd1 : d ≤ 6) : dk_Ri l yX2_firstNodeOfGreatestPressure wsX2_firstNodeOfGreatestPressure ({ frames := 0, cells := 0, slots := 0, locals := 0 }) (dC, dI) (dk_T cI cII) [.ref (aS 0)] (dk_S cI cII aS (aN 0) F ts tp li en so pa fd co ps ++ dk_N cI cII aN fr le fi ne fl (nI d) ar pr sz sp) (fun r => r = nI (dk_first pa d 1 0)) := by
  refine dk_ofRi (cc := cX2_firstNodeOfGreatestPressure) (maxL := 3) (by decide) rfl (Nat.le_of_ble_eq_true rfl) ?_
  intro p e s m args below meth c ls Q H ⟨hx, hb, hml, hts, hown, hnm⟩ hK hP hl hret
  have hT : ∀ w ∈ dk_tbl, w.before args s = true := fun w h => hts w (List.mem_cons_of_mem _ h)
  have hown : s.vm.findClass RX2 = some m.cls := hown
  have hl : lv_has ls 3 [(0, .ref (aS 0))] := hl
  refine lv_iconst (v := 0) hx hb dX2_firstNodeOfGreatestPressure_0 (by decide) ?_
  refine lv_istore_n (lv' := [(1, .int 0), (0, .ref (aS 0))]) hx hb dX2_firstNodeOfGreatestPressure_1 rfl hl (by decide) rfl (fun ls hl => ?_)
  refine lv_iconst (v := 1) hx hb dX2_firstNodeOfGreatestPressure_2 (by decide) ?_
  refine lv_istore_n (lv' := [(2, .int 1), (1, .int 0), (0, .ref (aS 0))]) hx hb dX2_firstNodeOfGreatestPressure_3 rfl hl (by decide) rfl (fun ls hl => ?_)
  have lp4 : ∀ (n i : Nat) (b : Nat) (ls : Array Slot), i + n = d + 1 ∧ b < i → dk_first pa n i b = (dk_first pa d 1 0) → lv_has ls 3 [(2, .int (nI i)), (1, .int (nI b)), (0, .ref (aS 0))] → W p l e ({ frames := 0, cells := 0, slots := 0, locals := 0 }) s m args below meth c H [] 0 0 Q (F0 m 4 ls []) := by
    intro n
    induction n with
    | zero =>
      intro i b ls hin4 hf4_0 hl
      refine lv_iload_n hx hb dX2_firstNodeOfGreatestPressure_4 rfl (lv_at hl 0 rfl) ?_
      refine lv_aload_n hx hb dX2_firstNodeOfGreatestPressure_5 rfl (lv_at hl 2 rfl) ?_
      refine va_get (D := (dC, dI)) (ci := 2) (v := .ref (aN 0)) (C := RX2) (T := TX2) (N := 11) hx hb hT in_X2 hown hK hP 0 rfl rfl 0 (by decide) (hT _ mw_113) (fun _ h9 => h9) rfl dX2_firstNodeOfGreatestPressure_6 ?_
      refine va_get (D := (dC, dI)) (ci := 1) (v := .int (nI d)) (C := RX1) (T := TX1) (N := 10) hx hb hT in_X1 hown hK hP 13 rfl rfl 5 (by decide) (hT _ mw_59) (fun _ h9 => h9) rfl dX2_firstNodeOfGreatestPressure_9 ?_
      refine lv_icmp_gt (tgt := 38) hx hb dX2_firstNodeOfGreatestPressure_12 (by decide) (fun c_12 => ?_) (fun c_12 => ?_)
      · refine lv_iload_n hx hb dX2_firstNodeOfGreatestPressure_38 rfl (lv_at hl 1 rfl) ?_
        exact hret _ _ _ (congrArg nI hf4_0) dX2_firstNodeOfGreatestPressure_39
      · exact absurd (nI_lt (by omega) (by omega)) c_12
    | succ n ih4 =>
      intro i b ls hin4 hf4_0 hl
      refine lv_iload_n hx hb dX2_firstNodeOfGreatestPressure_4 rfl (lv_at hl 0 rfl) ?_
      refine lv_aload_n hx hb dX2_firstNodeOfGreatestPressure_5 rfl (lv_at hl 2 rfl) ?_
      refine va_get (D := (dC, dI)) (ci := 2) (v := .ref (aN 0)) (C := RX2) (T := TX2) (N := 11) hx hb hT in_X2 hown hK hP 0 rfl rfl 0 (by decide) (hT _ mw_113) (fun _ h9 => h9) rfl dX2_firstNodeOfGreatestPressure_6 ?_
      refine va_get (D := (dC, dI)) (ci := 1) (v := .int (nI d)) (C := RX1) (T := TX1) (N := 10) hx hb hT in_X1 hown hK hP 13 rfl rfl 5 (by decide) (hT _ mw_59) (fun _ h9 => h9) rfl dX2_firstNodeOfGreatestPressure_9 ?_
      refine lv_icmp_gt (tgt := 38) hx hb dX2_firstNodeOfGreatestPressure_12 (by decide) (fun c_12 => ?_) (fun c_12 => ?_)
      · exact absurd c_12 (nI_nlt (by omega) (by omega))
      · refine lv_aload_n hx hb dX2_firstNodeOfGreatestPressure_15 rfl (lv_at hl 2 rfl) ?_
        refine va_get (D := (dC, dI)) (ci := 2) (v := .ref (aS 5)) (C := RX2) (T := TX2) (N := 11) hx hb hT in_X2 hown hK hP 0 rfl rfl 7 (by decide) (hT _ mw_121) (fun _ h9 => h9) rfl dX2_firstNodeOfGreatestPressure_16 ?_
        refine lv_iload_n hx hb dX2_firstNodeOfGreatestPressure_19 rfl (lv_at hl 0 rfl) ?_
        refine dk_iald (q0 := 5) (t0 := 0) (i := i) hx hb hK hP rfl rfl rfl (by omega) (by decide) dX2_firstNodeOfGreatestPressure_20 ?_
        refine lv_aload_n hx hb dX2_firstNodeOfGreatestPressure_21 rfl (lv_at hl 2 rfl) ?_
        refine va_get (D := (dC, dI)) (ci := 2) (v := .ref (aS 5)) (C := RX2) (T := TX2) (N := 11) hx hb hT in_X2 hown hK hP 0 rfl rfl 7 (by decide) (hT _ mw_121) (fun _ h9 => h9) rfl dX2_firstNodeOfGreatestPressure_22 ?_
        refine lv_iload_n hx hb dX2_firstNodeOfGreatestPressure_25 rfl (lv_at hl 1 rfl) ?_
        refine dk_iald (q0 := 5) (t0 := 0) (i := b) hx hb hK hP rfl rfl rfl (by omega) (by decide) dX2_firstNodeOfGreatestPressure_26 ?_
        refine lv_icmp_le (tgt := 32) hx hb dX2_firstNodeOfGreatestPressure_27 (by decide) (fun c_27 => ?_) (fun c_27 => ?_)
        · refine lv_iinc (v := (nI (i + 1))) (lv' := [(2, .int (nI (i + 1))), (1, .int (nI b)), (0, .ref (aS 0))]) hx hb dX2_firstNodeOfGreatestPressure_32 hl (k := 0) rfl (nI_1 i) (by decide) rfl (fun ls hl => ?_)
          refine lv_goto (tgt := 4) hx hb dX2_firstNodeOfGreatestPressure_35 (by decide) ?_
          exact ih4 (i + 1) b _ (by omega) (by rw [← hf4_0]; show _ = dk_first pa n (i + 1) (if pa i ≤ pa b then b else i); rw [if_pos c_27])  (lv_sub hl [0, 1, 2] rfl)
        · refine lv_iload_n hx hb dX2_firstNodeOfGreatestPressure_30 rfl (lv_at hl 0 rfl) ?_
          refine lv_istore_n (lv' := [(1, .int (nI i)), (2, .int (nI i)), (0, .ref (aS 0))]) hx hb dX2_firstNodeOfGreatestPressure_31 rfl hl (by decide) rfl (fun ls hl => ?_)
          refine lv_iinc (v := (nI (i + 1))) (lv' := [(2, .int (nI (i + 1))), (1, .int (nI i)), (0, .ref (aS 0))]) hx hb dX2_firstNodeOfGreatestPressure_32 hl (k := 1) rfl (nI_1 i) (by decide) rfl (fun ls hl => ?_)
          refine lv_goto (tgt := 4) hx hb dX2_firstNodeOfGreatestPressure_35 (by decide) ?_
          exact ih4 (i + 1) i _ (by omega) (by rw [← hf4_0]; show _ = dk_first pa n (i + 1) (if pa i ≤ pa b then b else i); rw [if_neg c_27])  (lv_sub hl [0, 1, 2] rfl)
  exact lp4 d 1 0 _ (by omega) rfl (lv_sub hl [0, 1, 2] rfl)
end
section
set_option maxHeartbeats 4000000 in
set_option maxRecDepth 100000 in
/-- DuctSizes$Search.noteFalls -/
theorem c_X2_noteFalls (l : Launch) (dC : Nat → ClassId) (dI : Nat → Nat → Nat) (cI cII : ClassId) (aS : Nat → Nat) (F : Nat → Nat → Int32) (ts : Nat → Int32) (tp : Nat → Int32) (li : Int32) (en : Int32) (so : Nat → Int32) (pa : Nat → Int32) (fd : Int32) (co : Int32) (ps : Int32) (aN : Nat → Nat) (fr : Nat → Int32) (le : Nat → Int32) (fi : Nat → Int32) (ne : Nat → Int32) (fl : Nat → Int32) (ar : Nat → Int32) (pr : Nat → Int32) (sp : Int32) (d : Nat) (z : Nat) (hz : Nat) (hz1 : z ≤ 4) (hd1 : d ≤ 6) (hfr : ∀ k, k < 7 → vp_in (fr k) 7) (har : ∀ j, j < z → ¬ ar j = 0) (har2 : ∀ j, j < z → ¬ (ar j).toInt64 * (ar j).toInt64 = 0) : dk_Mv l yX2_noteFalls wsX2_noteFalls ({ frames := 2, cells := 0, slots := 0, locals := 45 }) (dC, dI) (dk_T cI cII) [.ref (aS 0)] (dk_S cI cII aS (aN 0) F ts tp li en so pa fd co ps ++ dk_N cI cII aN fr le fi ne fl (nI d) ar pr (nI z) sp) hz (fun (_ : Unit) => True) (fun _ => dk_S cI cII aS (aN 0) (dk_nr le fi fl ar sp z d 1 F) ts tp li en so pa fd co ps ++ dk_N cI cII aN fr le fi ne fl (nI d) ar pr (nI z) sp) 0 0 := by
  refine dk_ofMv (cc := cX2_noteFalls) (maxL := 3) (by decide) rfl (Nat.le_of_ble_eq_true rfl) ?_
  intro p e s m args below meth c A ls Q ⟨hx, hb, hml, hts, hown, hnm⟩ hsz hK hP hD hA hS hl hret
  have hT : ∀ w ∈ dk_tbl, w.before args s = true := fun w h => hts w (List.mem_cons_of_mem _ h)
  have hown : s.vm.findClass RX2 = some m.cls := hown
  have hl : lv_has ls 3 [(0, .ref (aS 0))] := hl
  refine lv_iconst (v := 1) hx hb dX2_noteFalls_0 (by decide) ?_
  refine lv_istore_n (lv' := [(1, .int 1), (0, .ref (aS 0))]) hx hb dX2_noteFalls_1 rfl hl (by decide) rfl (fun ls hl => ?_)
  have lp2 : ∀ (n i : Nat) (G : Nat → Nat → Int32) (H : Heap) (locs : List Loc) (ls : Array Slot), i + n = d + 1 → dk_nr le fi fl ar sp z n i G = (dk_nr le fi fl ar sp z d 1 F) → va_P (dC, dI) vwCl (dk_S cI cII aS (aN 0) G ts tp li en so pa fd co ps ++ dk_N cI cII aN fr le fi ne fl (nI d) ar pr (nI z) sp) H → va_D A (dk_S cI cII aS (aN 0) G ts tp li en so pa fd co ps ++ dk_N cI cII aN fr le fi ne fl (nI d) ar pr (nI z) sp) → va_S A s.heap H locs → lv_has ls 3 [(1, .int (nI i)), (0, .ref (aS 0))] → W p l e ({ frames := 2, cells := 0, slots := 0, locals := 45 }) s m args below meth c H locs 0 0 Q (F0 m 2 ls []) := by
    intro n
    induction n with
    | zero =>
      intro i G H locs ls hin2 hf2_0 hP hD hS hl
      have hf2_0 : G = (dk_nr le fi fl ar sp z d 1 F) := hf2_0
      subst hf2_0
      refine lv_iload_n hx hb dX2_noteFalls_2 rfl (lv_at hl 0 rfl) ?_
      refine lv_aload_n hx hb dX2_noteFalls_3 rfl (lv_at hl 1 rfl) ?_
      refine va_get (D := (dC, dI)) (ci := 2) (v := .ref (aN 0)) (C := RX2) (T := TX2) (N := 11) hx hb hT in_X2 hown hK hP 0 rfl rfl 0 (by decide) (hT _ mw_113) (fun _ h9 => h9) rfl dX2_noteFalls_4 ?_
      refine va_get (D := (dC, dI)) (ci := 1) (v := .int (nI d)) (C := RX1) (T := TX1) (N := 10) hx hb hT in_X1 hown hK hP 13 rfl rfl 5 (by decide) (hT _ mw_59) (fun _ h9 => h9) rfl dX2_noteFalls_7 ?_
      refine lv_icmp_gt (tgt := 71) hx hb dX2_noteFalls_10 (by decide) (fun c_10 => ?_) (fun c_10 => ?_)
      · exact hret () _ _ _ _ trivial hP hD hS dX2_noteFalls_71
      · exact absurd (nI_lt (by omega) (by omega)) c_10
    | succ n ih2 =>
      intro i G H locs ls hin2 hf2_0 hP hD hS hl
      refine lv_iload_n hx hb dX2_noteFalls_2 rfl (lv_at hl 0 rfl) ?_
      refine lv_aload_n hx hb dX2_noteFalls_3 rfl (lv_at hl 1 rfl) ?_
      refine va_get (D := (dC, dI)) (ci := 2) (v := .ref (aN 0)) (C := RX2) (T := TX2) (N := 11) hx hb hT in_X2 hown hK hP 0 rfl rfl 0 (by decide) (hT _ mw_113) (fun _ h9 => h9) rfl dX2_noteFalls_4 ?_
      refine va_get (D := (dC, dI)) (ci := 1) (v := .int (nI d)) (C := RX1) (T := TX1) (N := 10) hx hb hT in_X1 hown hK hP 13 rfl rfl 5 (by decide) (hT _ mw_59) (fun _ h9 => h9) rfl dX2_noteFalls_7 ?_
      refine lv_icmp_gt (tgt := 71) hx hb dX2_noteFalls_10 (by decide) (fun c_10 => ?_) (fun c_10 => ?_)
      · exact absurd c_10 (nI_nlt (by omega) (by omega))
      · refine lv_iconst (v := 0) hx hb dX2_noteFalls_13 (by decide) ?_
        refine lv_istore_n (lv' := [(2, .int 0), (1, .int (nI i)), (0, .ref (aS 0))]) hx hb dX2_noteFalls_14 rfl hl (by decide) rfl (fun ls hl => ?_)
        have lp15 : ∀ (n2 j : Nat) (G2 : Nat → Nat → Int32) (H : Heap) (locs : List Loc) (ls : Array Slot), j + n2 = z → dk_nc le fi fl ar sp i n2 j G2 = (dk_nc le fi fl ar sp i z 0 G) → va_P (dC, dI) vwCl (dk_S cI cII aS (aN 0) G2 ts tp li en so pa fd co ps ++ dk_N cI cII aN fr le fi ne fl (nI d) ar pr (nI z) sp) H → va_D A (dk_S cI cII aS (aN 0) G2 ts tp li en so pa fd co ps ++ dk_N cI cII aN fr le fi ne fl (nI d) ar pr (nI z) sp) → va_S A s.heap H locs → lv_has ls 3 [(2, .int (nI j)), (1, .int (nI i)), (0, .ref (aS 0))] → W p l e ({ frames := 2, cells := 0, slots := 0, locals := 45 }) s m args below meth c H locs 0 0 Q (F0 m 15 ls []) := by
          intro n2
          induction n2 with
          | zero =>
            intro j G2 H locs ls hin15 hf15_0 hP hD hS hl
            have hf15_0 : G2 = (dk_nc le fi fl ar sp i z 0 G) := hf15_0
            subst hf15_0
            refine lv_iload_n hx hb dX2_noteFalls_15 rfl (lv_at hl 0 rfl) ?_
            refine lv_aload_n hx hb dX2_noteFalls_16 rfl (lv_at hl 2 rfl) ?_
            refine va_get (D := (dC, dI)) (ci := 2) (v := .ref (aN 0)) (C := RX2) (T := TX2) (N := 11) hx hb hT in_X2 hown hK hP 0 rfl rfl 0 (by decide) (hT _ mw_113) (fun _ h9 => h9) rfl dX2_noteFalls_17 ?_
            refine va_get (D := (dC, dI)) (ci := 1) (v := .int (nI z)) (C := RX1) (T := TX1) (N := 10) hx hb hT in_X1 hown hK hP 13 rfl rfl 8 (by decide) (hT _ mw_64) (fun _ h9 => h9) rfl dX2_noteFalls_20 ?_
            refine lv_icmp_ge (tgt := 65) hx hb dX2_noteFalls_23 (by decide) (fun c_23 => ?_) (fun c_23 => ?_)
            · refine lv_iinc (v := (nI (i + 1))) (lv' := [(1, .int (nI (i + 1))), (2, .int (nI j)), (0, .ref (aS 0))]) hx hb dX2_noteFalls_65 hl (k := 1) rfl (nI_1 i) (by decide) rfl (fun ls hl => ?_)
              refine lv_goto (tgt := 2) hx hb dX2_noteFalls_68 (by decide) ?_
              exact ih2 (i + 1) (dk_nc le fi fl ar sp i z 0 G) _ _ _ (by omega) (by rw [← hf2_0]; rfl) hP hD hS (lv_sub hl [0, 2] rfl)
            · exact absurd (nI_le (by omega) (by omega)) c_23
          | succ n2 ih15 =>
            intro j G2 H locs ls hin15 hf15_0 hP hD hS hl
            refine lv_iload_n hx hb dX2_noteFalls_15 rfl (lv_at hl 0 rfl) ?_
            refine lv_aload_n hx hb dX2_noteFalls_16 rfl (lv_at hl 2 rfl) ?_
            refine va_get (D := (dC, dI)) (ci := 2) (v := .ref (aN 0)) (C := RX2) (T := TX2) (N := 11) hx hb hT in_X2 hown hK hP 0 rfl rfl 0 (by decide) (hT _ mw_113) (fun _ h9 => h9) rfl dX2_noteFalls_17 ?_
            refine va_get (D := (dC, dI)) (ci := 1) (v := .int (nI z)) (C := RX1) (T := TX1) (N := 10) hx hb hT in_X1 hown hK hP 13 rfl rfl 8 (by decide) (hT _ mw_64) (fun _ h9 => h9) rfl dX2_noteFalls_20 ?_
            refine lv_icmp_ge (tgt := 65) hx hb dX2_noteFalls_23 (by decide) (fun c_23 => ?_) (fun c_23 => ?_)
            · exact absurd c_23 (nI_ge (by omega) (by omega))
            · refine lv_aload_n hx hb dX2_noteFalls_26 rfl (lv_at hl 2 rfl) ?_
              refine va_get (D := (dC, dI)) (ci := 2) (v := .ref (aS 1)) (C := RX2) (T := TX2) (N := 11) hx hb hT in_X2 hown hK hP 0 rfl rfl 1 (by decide) (hT _ mw_114) (fun _ h9 => h9) rfl dX2_noteFalls_27 ?_
              refine lv_iload_n hx hb dX2_noteFalls_30 rfl (lv_at hl 1 rfl) ?_
              refine dk_aald (q0 := 1) (t0 := 1) (i := i) (r := aS (i + 6)) hx hb hK hP rfl rfl rfl (by omega) (by decide) (if_pos (by omega)) dX2_noteFalls_31 ?_
              refine lv_iload_n hx hb dX2_noteFalls_32 rfl (lv_at hl 0 rfl) ?_
              refine lv_aload_n hx hb dX2_noteFalls_33 rfl (lv_at hl 2 rfl) ?_
              refine va_get (D := (dC, dI)) (ci := 2) (v := .ref (aN 0)) (C := RX2) (T := TX2) (N := 11) hx hb hT in_X2 hown hK hP 0 rfl rfl 0 (by decide) (hT _ mw_113) (fun _ h9 => h9) rfl dX2_noteFalls_34 ?_
              refine lv_iload_n hx hb dX2_noteFalls_37 rfl (lv_at hl 1 rfl) ?_
              refine lv_iload_n hx hb dX2_noteFalls_38 rfl (lv_at hl 0 rfl) ?_
              refine dk_csi (va_runV (As := [.int (nI i), .int (nI j)]) (rest := [.int (nI j), .ref (aS (i + 6))]) ⟨hx, hb, hml, hown, hT⟩ (c_X1_allows l dC dI cI cII aN fr le fi ne fl (nI d) ar pr (nI z) sp i j (by omega) (by omega) (har j (by omega))) (cwV 2 hT (dk_gV mw_200 mw_201 mw_202 mw_24 mw_203) rfl rfl rfl (by decide +kernel) ⟨(Nat.le_of_ble_eq_true rfl), (Nat.le_of_ble_eq_true rfl)⟩) (dk_preRV hK hP [13, 14, 15, 16, 17, 18, 19, 20] rfl (q0 := 13) (ci := 1) rfl rfl) rfl rfl hl.1 rfl (lv_room (Nat.le_of_ble_eq_true rfl)) dX2_noteFalls_39 ⟨Nat.le_of_ble_eq_true rfl, Nat.le_of_ble_eq_true rfl⟩) (fun r9 h9 => ?_)
              subst h9
              refine lv_if_eq (tgt := 57) hx hb dX2_noteFalls_42 (by decide) (fun c_42 => ?_) (fun c_42 => ?_)
              · refine lv_iconst (v := (-1)) hx hb dX2_noteFalls_57 (by decide) ?_
                refine dk_iast (q0 := 6 + i) (t0 := 0) (i := j) hx hb hK hP hD hS (dk_rowA (by omega)) rfl rfl (by omega) (by decide) dX2_noteFalls_58 (fun H locs hP hD hS => ?_)
                rw [dk_rowSetA (by omega)] at hP hD
                have hP : va_P (dC, dI) vwCl (dk_S cI cII aS (aN 0) (dk_updF G2 i j (-1)) ts tp li en so pa fd co ps ++ dk_N cI cII aN fr le fi ne fl (nI d) ar pr (nI z) sp) H := hP
                have hD : va_D A (dk_S cI cII aS (aN 0) (dk_updF G2 i j (-1)) ts tp li en so pa fd co ps ++ dk_N cI cII aN fr le fi ne fl (nI d) ar pr (nI z) sp) := hD
                refine lv_iinc (v := (nI (j + 1))) (lv' := [(2, .int (nI (j + 1))), (1, .int (nI i)), (0, .ref (aS 0))]) hx hb dX2_noteFalls_59 hl (k := 0) rfl (nI_1 j) (by decide) rfl (fun ls hl => ?_)
                refine lv_goto (tgt := 15) hx hb dX2_noteFalls_62 (by decide) ?_
                exact ih15 (j + 1) (dk_updF G2 i j (-1)) _ _ _ (by omega) (by rw [← hf15_0]; show _ = dk_nc le fi fl ar sp i n2 (j + 1) (dk_updF G2 i j (dk_fallAt le fi fl ar sp i j)); unfold dk_fallAt; rw [if_pos c_42]) hP hD hS (lv_sub hl [0, 1, 2] rfl)
              · refine lv_aload_n hx hb dX2_noteFalls_45 rfl (lv_at hl 2 rfl) ?_
                refine va_get (D := (dC, dI)) (ci := 2) (v := .ref (aN 0)) (C := RX2) (T := TX2) (N := 11) hx hb hT in_X2 hown hK hP 0 rfl rfl 0 (by decide) (hT _ mw_113) (fun _ h9 => h9) rfl dX2_noteFalls_46 ?_
                refine lv_iload_n hx hb dX2_noteFalls_49 rfl (lv_at hl 1 rfl) ?_
                refine lv_iload_n hx hb dX2_noteFalls_50 rfl (lv_at hl 0 rfl) ?_
                refine dk_csi (va_runV (As := [.int (nI i), .int (nI j)]) (rest := [.int (nI j), .ref (aS (i + 6))]) ⟨hx, hb, hml, hown, hT⟩ (c_X1_fallOf l dC dI cI cII aN fr le fi ne fl (nI d) ar pr (nI z) sp i j (by omega) (by omega) (har2 j (by omega))) (cwV 2 hT (dk_gV mw_208 mw_209 mw_210 mw_24 mw_211) rfl rfl rfl (by decide +kernel) ⟨(Nat.le_of_ble_eq_true rfl), (Nat.le_of_ble_eq_true rfl)⟩) (dk_preRV hK hP [13, 14, 15, 16, 17, 18, 19, 20] rfl (q0 := 13) (ci := 1) rfl rfl) rfl rfl hl.1 rfl (lv_room (Nat.le_of_ble_eq_true rfl)) dX2_noteFalls_51 ⟨Nat.le_of_ble_eq_true rfl, Nat.le_of_ble_eq_true rfl⟩) (fun r9 h9 => ?_)
                subst h9
                refine lv_goto (tgt := 58) hx hb dX2_noteFalls_54 (by decide) ?_
                refine dk_iast (q0 := 6 + i) (t0 := 0) (i := j) hx hb hK hP hD hS (dk_rowA (by omega)) rfl rfl (by omega) (by decide) dX2_noteFalls_58 (fun H locs hP hD hS => ?_)
                rw [dk_rowSetA (by omega)] at hP hD
                have hP : va_P (dC, dI) vwCl (dk_S cI cII aS (aN 0) (dk_updF G2 i j (dk_fall le fi fl ar i j)) ts tp li en so pa fd co ps ++ dk_N cI cII aN fr le fi ne fl (nI d) ar pr (nI z) sp) H := hP
                have hD : va_D A (dk_S cI cII aS (aN 0) (dk_updF G2 i j (dk_fall le fi fl ar i j)) ts tp li en so pa fd co ps ++ dk_N cI cII aN fr le fi ne fl (nI d) ar pr (nI z) sp) := hD
                refine lv_iinc (v := (nI (j + 1))) (lv' := [(2, .int (nI (j + 1))), (1, .int (nI i)), (0, .ref (aS 0))]) hx hb dX2_noteFalls_59 hl (k := 0) rfl (nI_1 j) (by decide) rfl (fun ls hl => ?_)
                refine lv_goto (tgt := 15) hx hb dX2_noteFalls_62 (by decide) ?_
                exact ih15 (j + 1) (dk_updF G2 i j (dk_fall le fi fl ar i j)) _ _ _ (by omega) (by rw [← hf15_0]; show _ = dk_nc le fi fl ar sp i n2 (j + 1) (dk_updF G2 i j (dk_fallAt le fi fl ar sp i j)); unfold dk_fallAt; rw [if_neg c_42]) hP hD hS (lv_sub hl [0, 1, 2] rfl)
        exact lp15 z 0 G _ _ _ (by omega) rfl hP hD hS (lv_sub hl [0, 1, 2] rfl)
  exact lp2 d 1 F _ _ _ (by omega) rfl hP hD hS (lv_sub hl [0, 1] rfl)
end
section
set_option maxHeartbeats 4000000 in
set_option maxRecDepth 100000 in
/-- DuctSizes$Search.keepTrial -/
theorem c_X2_keepTrial (l : Launch) (dC : Nat → ClassId) (dI : Nat → Nat → Nat) (cI cII : ClassId) (aS : Nat → Nat) (F : Nat → Nat → Int32) (ts : Nat → Int32) (tp : Nat → Int32) (li : Int32) (en : Int32) (so : Nat → Int32) (pa : Nat → Int32) (fd : Int32) (co : Int32) (ps : Int32) (aN : Nat → Nat) (fr : Nat → Int32) (le : Nat → Int32) (fi : Nat → Int32) (ne : Nat → Int32) (fl : Nat → Int32) (ar : Nat → Int32) (pr : Nat → Int32) (sz : Int32) (sp : Int32) (d : Nat) (x : Int32) (g : Int32) (hz : Nat) (hd1 : d ≤ 6) : dk_Mv l yX2_keepTrial wsX2_keepTrial ({ frames := 0, cells := 0, slots := 0, locals := 0 }) (dC, dI) (dk_T cI cII) [.ref (aS 0), .int x, .int g] (dk_S cI cII aS (aN 0) F ts tp li en so pa fd co ps ++ dk_N cI cII aN fr le fi ne fl (nI d) ar pr sz sp) hz (fun (_ : Unit) => True) (fun _ => dk_S cI cII aS (aN 0) F ts tp li en (dk_cpL ts d 1 so) (dk_cpL tp d 1 pa) 1 (x + (en * g)) g ++ dk_N cI cII aN fr le fi ne fl (nI d) ar pr sz sp) 0 0 := by
  refine dk_ofMv (cc := cX2_keepTrial) (maxL := 4) (by decide) rfl (Nat.le_of_ble_eq_true rfl) ?_
  intro p e s m args below meth c A ls Q ⟨hx, hb, hml, hts, hown, hnm⟩ hsz hK hP hD hA hS hl hret
  have hT : ∀ w ∈ dk_tbl, w.before args s = true := fun w h => hts w (List.mem_cons_of_mem _ h)
  have hown : s.vm.findClass RX2 = some m.cls := hown
  have hl : lv_has ls 4 [(0, .ref (aS 0)), (1, .int x), (2, .int g)] := hl
  refine lv_aload_n hx hb dX2_keepTrial_0 rfl (lv_at hl 0 rfl) ?_
  refine lv_iconst (v := 1) hx hb dX2_keepTrial_1 (by decide) ?_
  refine va_put (D := (dC, dI)) (ci := 2) (v := .int 1) (ty := .boolean) (C := RX2) (T := TX2) (N := 11) hx hb hT in_X2 tyX2 tyX2_ok nmX2 hown hK hP hD hS 0 rfl rfl 8 (by decide) (hT _ mw_123) (fun _ h9 => h9) rfl (by decide +kernel) rfl rfl (Nat.le_of_ble_eq_true rfl) dX2_keepTrial_2 (fun H locs hP hD hS => ?_)
  have hP : va_P (dC, dI) vwCl (dk_S cI cII aS (aN 0) F ts tp li en so pa 1 co ps ++ dk_N cI cII aN fr le fi ne fl (nI d) ar pr sz sp) H := hP
  have hD : va_D A (dk_S cI cII aS (aN 0) F ts tp li en so pa 1 co ps ++ dk_N cI cII aN fr le fi ne fl (nI d) ar pr sz sp) := hD
  refine lv_aload_n hx hb dX2_keepTrial_5 rfl (lv_at hl 0 rfl) ?_
  refine lv_iload_n hx hb dX2_keepTrial_6 rfl (lv_at hl 1 rfl) ?_
  refine lv_aload_n hx hb dX2_keepTrial_7 rfl (lv_at hl 0 rfl) ?_
  refine va_get (D := (dC, dI)) (ci := 2) (v := .int en) (C := RX2) (T := TX2) (N := 11) hx hb hT in_X2 hown hK hP 0 rfl rfl 5 (by decide) (hT _ mw_118) (fun _ h9 => h9) rfl dX2_keepTrial_8 ?_
  refine lv_iload_n hx hb dX2_keepTrial_11 rfl (lv_at hl 2 rfl) ?_
  refine lv_imul hx hb dX2_keepTrial_12 ?_
  refine lv_iadd hx hb dX2_keepTrial_13 ?_
  refine va_put (D := (dC, dI)) (ci := 2) (v := .int (x + (en * g))) (ty := .int) (C := RX2) (T := TX2) (N := 11) hx hb hT in_X2 tyX2 tyX2_ok nmX2 hown hK hP hD hS 0 rfl rfl 9 (by decide) (hT _ mw_125) (fun _ h9 => h9) rfl (by decide +kernel) rfl rfl (Nat.le_of_ble_eq_true rfl) dX2_keepTrial_14 (fun H locs hP hD hS => ?_)
  have hP : va_P (dC, dI) vwCl (dk_S cI cII aS (aN 0) F ts tp li en so pa 1 (x + (en * g)) ps ++ dk_N cI cII aN fr le fi ne fl (nI d) ar pr sz sp) H := hP
  have hD : va_D A (dk_S cI cII aS (aN 0) F ts tp li en so pa 1 (x + (en * g)) ps ++ dk_N cI cII aN fr le fi ne fl (nI d) ar pr sz sp) := hD
  refine lv_aload_n hx hb dX2_keepTrial_17 rfl (lv_at hl 0 rfl) ?_
  refine lv_iload_n hx hb dX2_keepTrial_18 rfl (lv_at hl 2 rfl) ?_
  refine va_put (D := (dC, dI)) (ci := 2) (v := .int g) (ty := .int) (C := RX2) (T := TX2) (N := 11) hx hb hT in_X2 tyX2 tyX2_ok nmX2 hown hK hP hD hS 0 rfl rfl 10 (by decide) (hT _ mw_127) (fun _ h9 => h9) rfl (by decide +kernel) rfl rfl (Nat.le_of_ble_eq_true rfl) dX2_keepTrial_19 (fun H locs hP hD hS => ?_)
  have hP : va_P (dC, dI) vwCl (dk_S cI cII aS (aN 0) F ts tp li en so pa 1 (x + (en * g)) g ++ dk_N cI cII aN fr le fi ne fl (nI d) ar pr sz sp) H := hP
  have hD : va_D A (dk_S cI cII aS (aN 0) F ts tp li en so pa 1 (x + (en * g)) g ++ dk_N cI cII aN fr le fi ne fl (nI d) ar pr sz sp) := hD
  refine lv_iconst (v := 1) hx hb dX2_keepTrial_22 (by decide) ?_
  refine lv_istore_n (lv' := [(3, .int 1), (0, .ref (aS 0)), (1, .int x), (2, .int g)]) hx hb dX2_keepTrial_23 rfl hl (by decide) rfl (fun ls hl => ?_)
  have lp24 : ∀ (n i : Nat) (f1 : Nat → Int32) (f2 : Nat → Int32) (H : Heap) (locs : List Loc) (ls : Array Slot), i + n = d + 1 → dk_cpL ts n i f1 = (dk_cpL ts d 1 so) → dk_cpL tp n i f2 = (dk_cpL tp d 1 pa) → va_P (dC, dI) vwCl (dk_S cI cII aS (aN 0) F ts tp li en f1 f2 1 (x + (en * g)) g ++ dk_N cI cII aN fr le fi ne fl (nI d) ar pr sz sp) H → va_D A (dk_S cI cII aS (aN 0) F ts tp li en f1 f2 1 (x + (en * g)) g ++ dk_N cI cII aN fr le fi ne fl (nI d) ar pr sz sp) → va_S A s.heap H locs → lv_has ls 4 [(3, .int (nI i)), (0, .ref (aS 0)), (1, .int x), (2, .int g)] → W p l e ({ frames := 0, cells := 0, slots := 0, locals := 0 }) s m args below meth c H locs 0 0 Q (F0 m 24 ls []) := by
    intro n
    induction n with
    | zero =>
      intro i f1 f2 H locs ls hin24 hf24_0 hf24_1 hP hD hS hl
      have hf24_0 : f1 = (dk_cpL ts d 1 so) := hf24_0
      subst hf24_0
      have hf24_1 : f2 = (dk_cpL tp d 1 pa) := hf24_1
      subst hf24_1
      refine lv_iload_n hx hb dX2_keepTrial_24 rfl (lv_at hl 0 rfl) ?_
      refine lv_aload_n hx hb dX2_keepTrial_25 rfl (lv_at hl 1 rfl) ?_
      refine va_get (D := (dC, dI)) (ci := 2) (v := .ref (aN 0)) (C := RX2) (T := TX2) (N := 11) hx hb hT in_X2 hown hK hP 0 rfl rfl 0 (by decide) (hT _ mw_113) (fun _ h9 => h9) rfl dX2_keepTrial_26 ?_
      refine va_get (D := (dC, dI)) (ci := 1) (v := .int (nI d)) (C := RX1) (T := TX1) (N := 10) hx hb hT in_X1 hown hK hP 13 rfl rfl 5 (by decide) (hT _ mw_59) (fun _ h9 => h9) rfl dX2_keepTrial_29 ?_
      refine lv_icmp_gt (tgt := 65) hx hb dX2_keepTrial_32 (by decide) (fun c_32 => ?_) (fun c_32 => ?_)
      · exact hret () _ _ _ _ trivial hP hD hS dX2_keepTrial_65
      · exact absurd (nI_lt (by omega) (by omega)) c_32
    | succ n ih24 =>
      intro i f1 f2 H locs ls hin24 hf24_0 hf24_1 hP hD hS hl
      refine lv_iload_n hx hb dX2_keepTrial_24 rfl (lv_at hl 0 rfl) ?_
      refine lv_aload_n hx hb dX2_keepTrial_25 rfl (lv_at hl 1 rfl) ?_
      refine va_get (D := (dC, dI)) (ci := 2) (v := .ref (aN 0)) (C := RX2) (T := TX2) (N := 11) hx hb hT in_X2 hown hK hP 0 rfl rfl 0 (by decide) (hT _ mw_113) (fun _ h9 => h9) rfl dX2_keepTrial_26 ?_
      refine va_get (D := (dC, dI)) (ci := 1) (v := .int (nI d)) (C := RX1) (T := TX1) (N := 10) hx hb hT in_X1 hown hK hP 13 rfl rfl 5 (by decide) (hT _ mw_59) (fun _ h9 => h9) rfl dX2_keepTrial_29 ?_
      refine lv_icmp_gt (tgt := 65) hx hb dX2_keepTrial_32 (by decide) (fun c_32 => ?_) (fun c_32 => ?_)
      · exact absurd c_32 (nI_nlt (by omega) (by omega))
      · refine lv_aload_n hx hb dX2_keepTrial_35 rfl (lv_at hl 1 rfl) ?_
        refine va_get (D := (dC, dI)) (ci := 2) (v := .ref (aS 4)) (C := RX2) (T := TX2) (N := 11) hx hb hT in_X2 hown hK hP 0 rfl rfl 6 (by decide) (hT _ mw_119) (fun _ h9 => h9) rfl dX2_keepTrial_36 ?_
        refine lv_iload_n hx hb dX2_keepTrial_39 rfl (lv_at hl 0 rfl) ?_
        refine lv_aload_n hx hb dX2_keepTrial_40 rfl (lv_at hl 1 rfl) ?_
        refine va_get (D := (dC, dI)) (ci := 2) (v := .ref (aS 2)) (C := RX2) (T := TX2) (N := 11) hx hb hT in_X2 hown hK hP 0 rfl rfl 2 (by decide) (hT _ mw_115) (fun _ h9 => h9) rfl dX2_keepTrial_41 ?_
        refine lv_iload_n hx hb dX2_keepTrial_44 rfl (lv_at hl 0 rfl) ?_
        refine dk_iald (q0 := 2) (t0 := 0) (i := i) hx hb hK hP rfl rfl rfl (by omega) (by decide) dX2_keepTrial_45 ?_
        refine dk_iast (q0 := 4) (t0 := 0) (i := i) hx hb hK hP hD hS rfl rfl rfl (by omega) (by decide) dX2_keepTrial_46 (fun H locs hP hD hS => ?_)
        have hP : va_P (dC, dI) vwCl (dk_S cI cII aS (aN 0) F ts tp li en (upd f1 i (ts i)) f2 1 (x + (en * g)) g ++ dk_N cI cII aN fr le fi ne fl (nI d) ar pr sz sp) H := hP
        have hD : va_D A (dk_S cI cII aS (aN 0) F ts tp li en (upd f1 i (ts i)) f2 1 (x + (en * g)) g ++ dk_N cI cII aN fr le fi ne fl (nI d) ar pr sz sp) := hD
        refine lv_aload_n hx hb dX2_keepTrial_47 rfl (lv_at hl 1 rfl) ?_
        refine va_get (D := (dC, dI)) (ci := 2) (v := .ref (aS 5)) (C := RX2) (T := TX2) (N := 11) hx hb hT in_X2 hown hK hP 0 rfl rfl 7 (by decide) (hT _ mw_121) (fun _ h9 => h9) rfl dX2_keepTrial_48 ?_
        refine lv_iload_n hx hb dX2_keepTrial_51 rfl (lv_at hl 0 rfl) ?_
        refine lv_aload_n hx hb dX2_keepTrial_52 rfl (lv_at hl 1 rfl) ?_
        refine va_get (D := (dC, dI)) (ci := 2) (v := .ref (aS 3)) (C := RX2) (T := TX2) (N := 11) hx hb hT in_X2 hown hK hP 0 rfl rfl 3 (by decide) (hT _ mw_116) (fun _ h9 => h9) rfl dX2_keepTrial_53 ?_
        refine lv_iload_n hx hb dX2_keepTrial_56 rfl (lv_at hl 0 rfl) ?_
        refine dk_iald (q0 := 3) (t0 := 0) (i := i) hx hb hK hP rfl rfl rfl (by omega) (by decide) dX2_keepTrial_57 ?_
        refine dk_iast (q0 := 5) (t0 := 0) (i := i) hx hb hK hP hD hS rfl rfl rfl (by omega) (by decide) dX2_keepTrial_58 (fun H locs hP hD hS => ?_)
        have hP : va_P (dC, dI) vwCl (dk_S cI cII aS (aN 0) F ts tp li en (upd f1 i (ts i)) (upd f2 i (tp i)) 1 (x + (en * g)) g ++ dk_N cI cII aN fr le fi ne fl (nI d) ar pr sz sp) H := hP
        have hD : va_D A (dk_S cI cII aS (aN 0) F ts tp li en (upd f1 i (ts i)) (upd f2 i (tp i)) 1 (x + (en * g)) g ++ dk_N cI cII aN fr le fi ne fl (nI d) ar pr sz sp) := hD
        refine lv_iinc (v := (nI (i + 1))) (lv' := [(3, .int (nI (i + 1))), (0, .ref (aS 0)), (1, .int x), (2, .int g)]) hx hb dX2_keepTrial_59 hl (k := 0) rfl (nI_1 i) (by decide) rfl (fun ls hl => ?_)
        refine lv_goto (tgt := 24) hx hb dX2_keepTrial_62 (by decide) ?_
        exact ih24 (i + 1) (upd f1 i (ts i)) (upd f2 i (tp i)) _ _ _ (by omega) (by rw [← hf24_0]; rfl) (by rw [← hf24_1]; rfl) hP hD hS (lv_sub hl [0, 1, 2, 3] rfl)
  exact lp24 d 1 so pa _ _ _ (by omega) rfl rfl hP hD hS (lv_sub hl [0, 1, 2, 3] rfl)
end
section
set_option maxHeartbeats 4000000 in
set_option maxRecDepth 100000 in
/-- placeSize, over placeFrom behind it -/
theorem c_X2_placeSize (l : Launch) (dC : Nat → ClassId) (dI : Nat → Nat → Nat) (cI cII : ClassId) (aS : Nat → Nat) (F : Nat → Nat → Int32) (li : Int32) (en : Int32) (aN : Nat → Nat) (fr : Nat → Int32) (le : Nat → Int32) (fi : Nat → Int32) (ne : Nat → Int32) (fl : Nat → Int32) (ar : Nat → Int32) (pr : Nat → Int32) (sp : Int32) (d : Nat) (z : Nat) (st : dk_SS) (k : Nat) (i : Nat) (j : Nat) (x : Int32) (g : Int32) (hz : Nat) (hz1 : z ≤ 4) (hd1 : d ≤ 6) (hfr : ∀ k, k < 7 → vp_in (fr k) 7) (hi : i ≤ d) (hi1 : 0 < i) (hj : j < z) (hgo : ∀ (st : dk_SS) (x g : Int32) (hz : Nat), dk_Mv l yX2_placeFrom wsX2_placeFrom ({ frames := 2 * k + 1, cells := 0, slots := 0, locals := 51 * k + 23 }) (dC, dI) (dk_T cI cII) [.ref (aS 0), .int (nI (i + 1)), .int x, .int g] (dk_SW cI cII aS (aN 0) F li en st ++ dk_N cI cII aN fr le fi ne fl (nI d) ar pr (nI z) sp) hz (fun (_ : Unit) => True) (fun _ => dk_SW cI cII aS (aN 0) F li en (dk_place d z fr le pr F li en k (i + 1) x g st) ++ dk_N cI cII aN fr le fi ne fl (nI d) ar pr (nI z) sp) 0 0) : dk_Mv l yX2_placeSize wsX2_placeSize ({ frames := 2 * k + 2, cells := 0, slots := 0, locals := 51 * k + 47 }) (dC, dI) (dk_T cI cII) [.ref (aS 0), .int (nI i), .int (nI j), .int x, .int g] (dk_SW cI cII aS (aN 0) F li en st ++ dk_N cI cII aN fr le fi ne fl (nI d) ar pr (nI z) sp) hz (fun (_ : Unit) => True) (fun _ => dk_SW cI cII aS (aN 0) F li en (dk_step fr le pr F li en (dk_place d z fr le pr F li en k (i + 1)) i x g j st) ++ dk_N cI cII aN fr le fi ne fl (nI d) ar pr (nI z) sp) 0 0 := by
  refine dk_ofMv (cc := cX2_placeSize) (maxL := 8) (by decide) rfl (Nat.le_of_ble_eq_true rfl) ?_
  intro p e s m args below meth c A ls Q ⟨hx, hb, hml, hts, hown, hnm⟩ hsz hK hP hD hA hS hl hret
  have hT : ∀ w ∈ dk_tbl, w.before args s = true := fun w h => hts w (List.mem_cons_of_mem _ h)
  have hown : s.vm.findClass RX2 = some m.cls := hown
  have hl : lv_has ls 8 [(0, .ref (aS 0)), (1, .int (nI i)), (2, .int (nI j)), (3, .int x), (4, .int g)] := hl
  refine lv_aload_n hx hb dX2_placeSize_0 rfl (lv_at hl 0 rfl) ?_
  refine va_get (D := (dC, dI)) (ci := 2) (v := .ref (aS 3)) (C := RX2) (T := TX2) (N := 11) hx hb hT in_X2 hown hK hP 0 rfl rfl 3 (by decide) (hT _ mw_116) (fun _ h9 => h9) rfl dX2_placeSize_1 ?_
  refine lv_aload_n hx hb dX2_placeSize_4 rfl (lv_at hl 0 rfl) ?_
  refine va_get (D := (dC, dI)) (ci := 2) (v := .ref (aN 0)) (C := RX2) (T := TX2) (N := 11) hx hb hT in_X2 hown hK hP 0 rfl rfl 0 (by decide) (hT _ mw_113) (fun _ h9 => h9) rfl dX2_placeSize_5 ?_
  refine va_get (D := (dC, dI)) (ci := 1) (v := .ref (aN 1)) (C := RX1) (T := TX1) (N := 10) hx hb hT in_X1 hown hK hP 13 rfl rfl 0 (by decide) (hT _ mw_50) (fun _ h9 => h9) rfl dX2_placeSize_8 ?_
  refine lv_iload_n hx hb dX2_placeSize_11 rfl (lv_at hl 1 rfl) ?_
  refine dk_iald (q0 := 14) (t0 := 0) (i := i) hx hb hK hP rfl rfl rfl (by omega) (by decide) dX2_placeSize_12 ?_
  refine va_iald hx hb hK hP 3 0 rfl rfl (hfr i (by omega)) dX2_placeSize_13 ?_
  refine lv_aload_n hx hb dX2_placeSize_14 rfl (lv_at hl 0 rfl) ?_
  refine va_get (D := (dC, dI)) (ci := 2) (v := .ref (aS 1)) (C := RX2) (T := TX2) (N := 11) hx hb hT in_X2 hown hK hP 0 rfl rfl 1 (by decide) (hT _ mw_114) (fun _ h9 => h9) rfl dX2_placeSize_15 ?_
  refine lv_iload_n hx hb dX2_placeSize_18 rfl (lv_at hl 1 rfl) ?_
  refine dk_aald (q0 := 1) (t0 := 1) (i := i) (r := aS (i + 6)) hx hb hK hP rfl rfl rfl (by omega) (by decide) (if_pos (by omega)) dX2_placeSize_19 ?_
  refine lv_iload_n hx hb dX2_placeSize_20 rfl (lv_at hl 2 rfl) ?_
  refine dk_iald (q0 := 6 + i) (t0 := 0) (i := j) hx hb hK hP (dk_rowA (by omega)) rfl rfl (by omega) (by decide) dX2_placeSize_21 ?_
  refine lv_iadd hx hb dX2_placeSize_22 ?_
  refine lv_istore (lv' := [(5, .int ((st.2.1 ((fr i)).toNatClampNeg) + (F i j))), (0, .ref (aS 0)), (1, .int (nI i)), (2, .int (nI j)), (3, .int x), (4, .int g)]) hx hb dX2_placeSize_23 hl (by decide) rfl (fun ls hl => ?_)
  refine lv_iload hx hb dX2_placeSize_25 (lv_at hl 5 rfl) ?_
  refine lv_iload hx hb dX2_placeSize_27 (lv_at hl 0 rfl) ?_
  refine va_mmax hx hb (by rw [hml]; exact hl.1.symm) hown (hT _ mw_230) (hT _ mw_231) (hT _ mw_33) (hT _ mw_232) (by dsimp only; omega) (by simp [Value.category] <;> omega) (by dsimp only; omega) (by dsimp only; omega) dX2_placeSize_29 ?_
  refine lv_istore (lv' := [(6, .int (if g < ((st.2.1 ((fr i)).toNatClampNeg) + (F i j)) then ((st.2.1 ((fr i)).toNatClampNeg) + (F i j)) else g)), (5, .int ((st.2.1 ((fr i)).toNatClampNeg) + (F i j))), (0, .ref (aS 0)), (1, .int (nI i)), (2, .int (nI j)), (3, .int x), (4, .int g)]) hx hb dX2_placeSize_32 hl (by decide) rfl (fun ls hl => ?_)
  refine lv_iload_n hx hb dX2_placeSize_34 rfl (lv_at hl 5 rfl) ?_
  refine lv_aload_n hx hb dX2_placeSize_35 rfl (lv_at hl 2 rfl) ?_
  refine va_get (D := (dC, dI)) (ci := 2) (v := .ref (aN 0)) (C := RX2) (T := TX2) (N := 11) hx hb hT in_X2 hown hK hP 0 rfl rfl 0 (by decide) (hT _ mw_113) (fun _ h9 => h9) rfl dX2_placeSize_36 ?_
  refine lv_iload_n hx hb dX2_placeSize_39 rfl (lv_at hl 3 rfl) ?_
  refine lv_iload_n hx hb dX2_placeSize_40 rfl (lv_at hl 4 rfl) ?_
  refine dk_csi (va_runV (As := [.int (nI i), .int (nI j)]) (rest := [.int x]) ⟨hx, hb, hml, hown, hT⟩ (c_X1_priceOf l dC dI cI cII aN fr le fi ne fl (nI d) ar pr (nI z) sp i j (by omega) (by omega)) (cwV 2 hT (dk_gV mw_233 mw_234 mw_235 mw_24 mw_236) rfl rfl rfl (by decide +kernel) ⟨(by dsimp only; omega), (by dsimp only; omega)⟩) (dk_preRV hK hP [13, 14, 15, 16, 17, 18, 19, 20] rfl (q0 := 13) (ci := 1) rfl rfl) rfl rfl hl.1 rfl (lv_room (Nat.le_of_ble_eq_true rfl)) dX2_placeSize_41 ⟨Nat.le_of_ble_eq_true rfl, Nat.le_of_ble_eq_true rfl⟩) (fun r9 h9 => ?_)
  subst h9
  refine lv_iadd hx hb dX2_placeSize_44 ?_
  refine lv_istore (lv' := [(7, .int (x + (dk_price le pr i j))), (6, .int (if g < ((st.2.1 ((fr i)).toNatClampNeg) + (F i j)) then ((st.2.1 ((fr i)).toNatClampNeg) + (F i j)) else g)), (5, .int ((st.2.1 ((fr i)).toNatClampNeg) + (F i j))), (0, .ref (aS 0)), (1, .int (nI i)), (2, .int (nI j)), (3, .int x), (4, .int g)]) hx hb dX2_placeSize_45 hl (by decide) rfl (fun ls hl => ?_)
  refine lv_iload hx hb dX2_placeSize_47 (lv_at hl 1 rfl) ?_
  refine lv_aload_n hx hb dX2_placeSize_49 rfl (lv_at hl 3 rfl) ?_
  refine va_get (D := (dC, dI)) (ci := 2) (v := .int li) (C := RX2) (T := TX2) (N := 11) hx hb hT in_X2 hown hK hP 0 rfl rfl 4 (by decide) (hT _ mw_117) (fun _ h9 => h9) rfl dX2_placeSize_50 ?_
  refine lv_icmp_gt (tgt := 67) hx hb dX2_placeSize_53 (by decide) (fun c_53 => ?_) (fun c_53 => ?_)
  · have hst : dk_step fr le pr F li en (dk_place d z fr le pr F li en k (i + 1)) i x g j st = _ := (by unfold dk_step; rw [if_pos c_53])
    rw [hst] at hret
    exact hret () _ _ _ _ trivial hP hD hS dX2_placeSize_67
  · refine lv_aload_n hx hb dX2_placeSize_56 rfl (lv_at hl 3 rfl) ?_
    refine lv_iload hx hb dX2_placeSize_57 (lv_at hl 0 rfl) ?_
    refine lv_iload hx hb dX2_placeSize_59 (lv_at hl 1 rfl) ?_
    refine dk_csi (va_runV (As := [.int (x + (dk_price le pr i j)), .int (if g < ((st.2.1 ((fr i)).toNatClampNeg) + (F i j)) then ((st.2.1 ((fr i)).toNatClampNeg) + (F i j)) else g)]) (rest := []) ⟨hx, hb, hml, hown, hT⟩ (c_X2_isBetter l dC dI cI cII aS (aN 0) F (st.1) (st.2.1) li en (st.2.2.1) (st.2.2.2.1) (st.2.2.2.2.1) (st.2.2.2.2.2.1) (st.2.2.2.2.2.2) (x + (dk_price le pr i j)) (if g < ((st.2.1 ((fr i)).toNatClampNeg) + (F i j)) then ((st.2.1 ((fr i)).toNatClampNeg) + (F i j)) else g)) (cwV 2 hT (dk_gV mw_237 mw_239 mw_6 mw_26 mw_240) rfl rfl rfl (by decide +kernel) ⟨(by dsimp only; omega), (by dsimp only; omega)⟩) (dk_preRV hK hP [0, 1, 2, 3, 4, 5, 6, 7, 8, 9, 10, 11, 12] rfl (q0 := 0) (ci := 2) rfl rfl) rfl rfl hl.1 rfl (lv_room (Nat.le_of_ble_eq_true rfl)) dX2_placeSize_61 ⟨Nat.le_of_ble_eq_true rfl, Nat.le_of_ble_eq_true rfl⟩) (fun r9 h9 => ?_)
    subst h9
    refine lv_if_ne (tgt := 68) hx hb dX2_placeSize_64 (by decide) (fun c_64 => ?_) (fun c_64 => ?_)
    · refine lv_aload_n hx hb dX2_placeSize_68 rfl (lv_at hl 3 rfl) ?_
      refine va_get (D := (dC, dI)) (ci := 2) (v := .ref (aS 2)) (C := RX2) (T := TX2) (N := 11) hx hb hT in_X2 hown hK hP 0 rfl rfl 2 (by decide) (hT _ mw_115) (fun _ h9 => h9) rfl dX2_placeSize_69 ?_
      refine lv_iload_n hx hb dX2_placeSize_72 rfl (lv_at hl 4 rfl) ?_
      refine lv_iload_n hx hb dX2_placeSize_73 rfl (lv_at hl 5 rfl) ?_
      refine dk_iast (q0 := 2) (t0 := 0) (i := i) hx hb hK hP hD hS rfl rfl rfl (by omega) (by decide) dX2_placeSize_74 (fun H locs hP hD hS => ?_)
      have hP : va_P (dC, dI) vwCl (dk_S cI cII aS (aN 0) F (upd (st.1) i (nI j)) (st.2.1) li en (st.2.2.1) (st.2.2.2.1) (st.2.2.2.2.1) (st.2.2.2.2.2.1) (st.2.2.2.2.2.2) ++ dk_N cI cII aN fr le fi ne fl (nI d) ar pr (nI z) sp) H := hP
      have hD : va_D A (dk_S cI cII aS (aN 0) F (upd (st.1) i (nI j)) (st.2.1) li en (st.2.2.1) (st.2.2.2.1) (st.2.2.2.2.1) (st.2.2.2.2.2.1) (st.2.2.2.2.2.2) ++ dk_N cI cII aN fr le fi ne fl (nI d) ar pr (nI z) sp) := hD
      refine lv_aload_n hx hb dX2_placeSize_75 rfl (lv_at hl 3 rfl) ?_
      refine va_get (D := (dC, dI)) (ci := 2) (v := .ref (aS 3)) (C := RX2) (T := TX2) (N := 11) hx hb hT in_X2 hown hK hP 0 rfl rfl 3 (by decide) (hT _ mw_116) (fun _ h9 => h9) rfl dX2_placeSize_76 ?_
      refine lv_iload_n hx hb dX2_placeSize_79 rfl (lv_at hl 4 rfl) ?_
      refine lv_iload hx hb dX2_placeSize_80 (lv_at hl 2 rfl) ?_
      refine dk_iast (q0 := 3) (t0 := 0) (i := i) hx hb hK hP hD hS rfl rfl rfl (by omega) (by decide) dX2_placeSize_82 (fun H locs hP hD hS => ?_)
      have hP : va_P (dC, dI) vwCl (dk_S cI cII aS (aN 0) F (upd (st.1) i (nI j)) (upd (st.2.1) i ((st.2.1 ((fr i)).toNatClampNeg) + (F i j))) li en (st.2.2.1) (st.2.2.2.1) (st.2.2.2.2.1) (st.2.2.2.2.2.1) (st.2.2.2.2.2.2) ++ dk_N cI cII aN fr le fi ne fl (nI d) ar pr (nI z) sp) H := hP
      have hD : va_D A (dk_S cI cII aS (aN 0) F (upd (st.1) i (nI j)) (upd (st.2.1) i ((st.2.1 ((fr i)).toNatClampNeg) + (F i j))) li en (st.2.2.1) (st.2.2.2.1) (st.2.2.2.2.1) (st.2.2.2.2.2.1) (st.2.2.2.2.2.2) ++ dk_N cI cII aN fr le fi ne fl (nI d) ar pr (nI z) sp) := hD
      refine lv_aload_n hx hb dX2_placeSize_83 rfl (lv_at hl 3 rfl) ?_
      refine lv_iload_n hx hb dX2_placeSize_84 rfl (lv_at hl 4 rfl) ?_
      refine lv_iconst (v := 1) hx hb dX2_placeSize_85 (by decide) ?_
      refine lv_iadd hx hb dX2_placeSize_86 ?_
      refine lv_topi (fun y9 e9 => ?_)
      obtain rfl : y9 = nI (i + 1) := by rw [e9]; exact nI_1 i
      refine lv_iload hx hb dX2_placeSize_87 (lv_at hl 0 rfl) ?_
      refine lv_iload hx hb dX2_placeSize_89 (lv_at hl 1 rfl) ?_
      refine dk_callv (wr := []) (va_runV (As := [.int (nI (i + 1)), .int (x + (dk_price le pr i j)), .int (if g < ((st.2.1 ((fr i)).toNatClampNeg) + (F i j)) then ((st.2.1 ((fr i)).toNatClampNeg) + (F i j)) else g)]) (rest := []) ⟨hx, hb, hml, hown, hT⟩ (hgo ((upd (st.1) i (nI j)), (upd (st.2.1) i ((st.2.1 ((fr i)).toNatClampNeg) + (F i j))), st.2.2.1, st.2.2.2.1, st.2.2.2.2.1, st.2.2.2.2.2.1, st.2.2.2.2.2.2) (x + (dk_price le pr i j)) (if g < ((st.2.1 ((fr i)).toNatClampNeg) + (F i j)) then ((st.2.1 ((fr i)).toNatClampNeg) + (F i j)) else g) _) (cwV 3 hT (dk_gV mw_218 mw_220 mw_3 mw_26 mw_221) rfl rfl rfl (by decide +kernel) ⟨(by dsimp only; omega), (by dsimp only; omega)⟩) (dk_preV hK hP hD [0, 1, 2, 3, 4, 5, 6, 7, 8, 9, 10, 11, 12, 13, 14, 15, 16, 17, 18, 19, 20] rfl rfl (q0 := 0) (ci := 2) rfl rfl) rfl rfl hl.1 rfl (lv_room (Nat.le_of_ble_eq_true rfl)) dX2_placeSize_91 ⟨Nat.le_of_ble_eq_true rfl, Nat.le_of_ble_eq_true rfl⟩) hP hD hS hA [0, 1, 2, 3, 4, 5, 6, 7, 8, 9, 10, 11, 12, 13, 14, 15, 16, 17, 18, 19, 20] [] rfl rfl rfl (by decide) (fun _ H locs h9 hP hD hS => ?_)
      have hP : va_P (dC, dI) vwCl (dk_SW cI cII aS (aN 0) F li en (dk_place d z fr le pr F li en k (i + 1) (x + (dk_price le pr i j)) (if g < ((st.2.1 ((fr i)).toNatClampNeg) + (F i j)) then ((st.2.1 ((fr i)).toNatClampNeg) + (F i j)) else g) ((upd (st.1) i (nI j)), (upd (st.2.1) i ((st.2.1 ((fr i)).toNatClampNeg) + (F i j))), st.2.2.1, st.2.2.2.1, st.2.2.2.2.1, st.2.2.2.2.2.1, st.2.2.2.2.2.2)) ++ dk_N cI cII aN fr le fi ne fl (nI d) ar pr (nI z) sp) H := hP
      have hD : va_D A (dk_SW cI cII aS (aN 0) F li en (dk_place d z fr le pr F li en k (i + 1) (x + (dk_price le pr i j)) (if g < ((st.2.1 ((fr i)).toNatClampNeg) + (F i j)) then ((st.2.1 ((fr i)).toNatClampNeg) + (F i j)) else g) ((upd (st.1) i (nI j)), (upd (st.2.1) i ((st.2.1 ((fr i)).toNatClampNeg) + (F i j))), st.2.2.1, st.2.2.2.1, st.2.2.2.2.1, st.2.2.2.2.2.1, st.2.2.2.2.2.2)) ++ dk_N cI cII aN fr le fi ne fl (nI d) ar pr (nI z) sp) := hD
      have hst : dk_step fr le pr F li en (dk_place d z fr le pr F li en k (i + 1)) i x g j st = _ := (by unfold dk_step; rw [if_neg c_53, if_neg c_64])
      rw [hst] at hret
      exact hret () _ _ _ _ trivial hP hD hS dX2_placeSize_94
    · have hst : dk_step fr le pr F li en (dk_place d z fr le pr F li en k (i + 1)) i x g j st = _ := (by unfold dk_step; rw [if_neg c_53, if_pos c_64])
      rw [hst] at hret
      exact hret () _ _ _ _ trivial hP hD hS dX2_placeSize_67
end
section
set_option maxHeartbeats 4000000 in
set_option maxRecDepth 100000 in
/-- placeFrom, with k ducts left -/
theorem c_X2_placeFrom_all (l : Launch) (dC : Nat → ClassId) (dI : Nat → Nat → Nat) (cI cII : ClassId) (aS : Nat → Nat) (F : Nat → Nat → Int32) (li : Int32) (en : Int32) (aN : Nat → Nat) (fr : Nat → Int32) (le : Nat → Int32) (fi : Nat → Int32) (ne : Nat → Int32) (fl : Nat → Int32) (ar : Nat → Int32) (pr : Nat → Int32) (sp : Int32) (d : Nat) (z : Nat) (hz1 : z ≤ 4) (hd1 : d ≤ 6) (hfr : ∀ k, k < 7 → vp_in (fr k) 7)  : ∀ (k i : Nat) (st : dk_SS) (x g : Int32) (hz : Nat), i + k = d + 1 → 0 < i → dk_Mv l yX2_placeFrom wsX2_placeFrom ({ frames := 2 * k + 1, cells := 0, slots := 0, locals := 51 * k + 23 }) (dC, dI) (dk_T cI cII) [.ref (aS 0), .int (nI i), .int x, .int g] (dk_SW cI cII aS (aN 0) F li en st ++ dk_N cI cII aN fr le fi ne fl (nI d) ar pr (nI z) sp) hz (fun (_ : Unit) => True) (fun _ => dk_SW cI cII aS (aN 0) F li en (dk_place d z fr le pr F li en k i x g st) ++ dk_N cI cII aN fr le fi ne fl (nI d) ar pr (nI z) sp) 0 0 := by
  intro k
  induction k with
  | zero =>
    intro i st x g hz hik hi1
    refine dk_ofMv (cc := cX2_placeFrom) (maxL := 5) (by decide) rfl (Nat.le_of_ble_eq_true rfl) ?_
    intro p e s m args below meth c A ls Q ⟨hx, hb, hml, hts, hown, hnm⟩ hsz hK hP hD hA hS hl hret
    have hT : ∀ w ∈ dk_tbl, w.before args s = true := fun w h => hts w (List.mem_cons_of_mem _ h)
    have hown : s.vm.findClass RX2 = some m.cls := hown
    have hl : lv_has ls 5 [(0, .ref (aS 0)), (1, .int (nI i)), (2, .int x), (3, .int g)] := hl
    refine lv_iload_n hx hb dX2_placeFrom_0 rfl (lv_at hl 1 rfl) ?_
    refine lv_aload_n hx hb dX2_placeFrom_1 rfl (lv_at hl 0 rfl) ?_
    refine va_get (D := (dC, dI)) (ci := 2) (v := .ref (aN 0)) (C := RX2) (T := TX2) (N := 11) hx hb hT in_X2 hown hK hP 0 rfl rfl 0 (by decide) (hT _ mw_113) (fun _ h9 => h9) rfl dX2_placeFrom_2 ?_
    refine va_get (D := (dC, dI)) (ci := 1) (v := .int (nI d)) (C := RX1) (T := TX1) (N := 10) hx hb hT in_X1 hown hK hP 13 rfl rfl 5 (by decide) (hT _ mw_59) (fun _ h9 => h9) rfl dX2_placeFrom_5 ?_
    refine lv_icmp_le (tgt := 18) hx hb dX2_placeFrom_8 (by decide) (fun c_8 => ?_) (fun c_8 => ?_)
    · exact absurd c_8 (nI_ge (by omega) (by omega))
    · refine lv_aload_n hx hb dX2_placeFrom_11 rfl (lv_at hl 0 rfl) ?_
      refine lv_iload_n hx hb dX2_placeFrom_12 rfl (lv_at hl 2 rfl) ?_
      refine lv_iload_n hx hb dX2_placeFrom_13 rfl (lv_at hl 3 rfl) ?_
      refine dk_callv (wr := []) (va_runV (As := [.int x, .int g]) (rest := []) ⟨hx, hb, hml, hown, hT⟩ (c_X2_keepTrial l dC dI cI cII aS F (st.1) (st.2.1) li en (st.2.2.1) (st.2.2.2.1) (st.2.2.2.2.1) (st.2.2.2.2.2.1) (st.2.2.2.2.2.2) aN fr le fi ne fl ar pr (nI z) sp d x g _ hd1) (cwV 2 hT (dk_gV mw_222 mw_224 mw_4 mw_26 mw_225) rfl rfl rfl (by decide +kernel) ⟨(by dsimp only; omega), (by dsimp only; omega)⟩) (dk_preV hK hP hD [0, 1, 2, 3, 4, 5, 6, 7, 8, 9, 10, 11, 12, 13, 14, 15, 16, 17, 18, 19, 20] rfl rfl (q0 := 0) (ci := 2) rfl rfl) rfl rfl hl.1 rfl (lv_room (Nat.le_of_ble_eq_true rfl)) dX2_placeFrom_14 ⟨Nat.le_of_ble_eq_true rfl, Nat.le_of_ble_eq_true rfl⟩) hP hD hS hA [0, 1, 2, 3, 4, 5, 6, 7, 8, 9, 10, 11, 12, 13, 14, 15, 16, 17, 18, 19, 20] [] rfl rfl rfl (by decide) (fun _ H locs h9 hP hD hS => ?_)
      have hP : va_P (dC, dI) vwCl (dk_S cI cII aS (aN 0) F (st.1) (st.2.1) li en (dk_cpL (st.1) d 1 (st.2.2.1)) (dk_cpL (st.2.1) d 1 (st.2.2.2.1)) 1 (x + (en * g)) g ++ dk_N cI cII aN fr le fi ne fl (nI d) ar pr (nI z) sp) H := hP
      have hD : va_D A (dk_S cI cII aS (aN 0) F (st.1) (st.2.1) li en (dk_cpL (st.1) d 1 (st.2.2.1)) (dk_cpL (st.2.1) d 1 (st.2.2.2.1)) 1 (x + (en * g)) g ++ dk_N cI cII aN fr le fi ne fl (nI d) ar pr (nI z) sp) := hD
      exact hret () _ _ _ _ trivial hP hD hS dX2_placeFrom_17
  | succ k ih =>
    intro i st x g hz hik hi1
    refine dk_ofMv (cc := cX2_placeFrom) (maxL := 5) (by decide) rfl (Nat.le_of_ble_eq_true rfl) ?_
    intro p e s m args below meth c A ls Q ⟨hx, hb, hml, hts, hown, hnm⟩ hsz hK hP hD hA hS hl hret
    have hT : ∀ w ∈ dk_tbl, w.before args s = true := fun w h => hts w (List.mem_cons_of_mem _ h)
    have hown : s.vm.findClass RX2 = some m.cls := hown
    have hl : lv_has ls 5 [(0, .ref (aS 0)), (1, .int (nI i)), (2, .int x), (3, .int g)] := hl
    refine lv_iload_n hx hb dX2_placeFrom_0 rfl (lv_at hl 1 rfl) ?_
    refine lv_aload_n hx hb dX2_placeFrom_1 rfl (lv_at hl 0 rfl) ?_
    refine va_get (D := (dC, dI)) (ci := 2) (v := .ref (aN 0)) (C := RX2) (T := TX2) (N := 11) hx hb hT in_X2 hown hK hP 0 rfl rfl 0 (by decide) (hT _ mw_113) (fun _ h9 => h9) rfl dX2_placeFrom_2 ?_
    refine va_get (D := (dC, dI)) (ci := 1) (v := .int (nI d)) (C := RX1) (T := TX1) (N := 10) hx hb hT in_X1 hown hK hP 13 rfl rfl 5 (by decide) (hT _ mw_59) (fun _ h9 => h9) rfl dX2_placeFrom_5 ?_
    refine lv_icmp_le (tgt := 18) hx hb dX2_placeFrom_8 (by decide) (fun c_8 => ?_) (fun c_8 => ?_)
    · refine lv_iconst (v := 0) hx hb dX2_placeFrom_18 (by decide) ?_
      refine lv_istore (lv' := [(4, .int 0), (0, .ref (aS 0)), (1, .int (nI i)), (2, .int x), (3, .int g)]) hx hb dX2_placeFrom_19 hl (by decide) rfl (fun ls hl => ?_)
      have lp21 : ∀ (n j : Nat) (st1 : dk_SS) (H : Heap) (locs : List Loc) (ls : Array Slot), j + n = z → dk_loop (dk_try fr le pr F li en (dk_place d z fr le pr F li en k (i + 1)) i x g) n j st1 = (dk_loop (dk_try fr le pr F li en (dk_place d z fr le pr F li en k (i + 1)) i x g) z 0 st) → va_P (dC, dI) vwCl (dk_SW cI cII aS (aN 0) F li en st1 ++ dk_N cI cII aN fr le fi ne fl (nI d) ar pr (nI z) sp) H → va_D A (dk_SW cI cII aS (aN 0) F li en st1 ++ dk_N cI cII aN fr le fi ne fl (nI d) ar pr (nI z) sp) → va_S A s.heap H locs → lv_has ls 5 [(4, .int (nI j)), (0, .ref (aS 0)), (1, .int (nI i)), (2, .int x), (3, .int g)] → W p l e ({ frames := 2 * (k + 1) + 1, cells := 0, slots := 0, locals := 51 * (k + 1) + 23 }) s m args below meth c H locs 0 0 Q (F0 m 21 ls []) := by
        intro n
        induction n with
        | zero =>
          intro j st1 H locs ls hin21 hf21_0 hP hD hS hl
          have hf21_0 : st1 = (dk_loop (dk_try fr le pr F li en (dk_place d z fr le pr F li en k (i + 1)) i x g) z 0 st) := hf21_0
          subst hf21_0
          refine lv_iload hx hb dX2_placeFrom_21 (lv_at hl 0 rfl) ?_
          refine lv_aload_n hx hb dX2_placeFrom_23 rfl (lv_at hl 1 rfl) ?_
          refine va_get (D := (dC, dI)) (ci := 2) (v := .ref (aN 0)) (C := RX2) (T := TX2) (N := 11) hx hb hT in_X2 hown hK hP 0 rfl rfl 0 (by decide) (hT _ mw_113) (fun _ h9 => h9) rfl dX2_placeFrom_24 ?_
          refine va_get (D := (dC, dI)) (ci := 1) (v := .int (nI z)) (C := RX1) (T := TX1) (N := 10) hx hb hT in_X1 hown hK hP 13 rfl rfl 8 (by decide) (hT _ mw_64) (fun _ h9 => h9) rfl dX2_placeFrom_27 ?_
          refine lv_icmp_ge (tgt := 61) hx hb dX2_placeFrom_30 (by decide) (fun c_30 => ?_) (fun c_30 => ?_)
          · exact hret () _ _ _ _ trivial hP hD hS dX2_placeFrom_61
          · exact absurd (nI_le (by omega) (by omega)) c_30
        | succ n ih21 =>
          intro j st1 H locs ls hin21 hf21_0 hP hD hS hl
          refine lv_iload hx hb dX2_placeFrom_21 (lv_at hl 0 rfl) ?_
          refine lv_aload_n hx hb dX2_placeFrom_23 rfl (lv_at hl 1 rfl) ?_
          refine va_get (D := (dC, dI)) (ci := 2) (v := .ref (aN 0)) (C := RX2) (T := TX2) (N := 11) hx hb hT in_X2 hown hK hP 0 rfl rfl 0 (by decide) (hT _ mw_113) (fun _ h9 => h9) rfl dX2_placeFrom_24 ?_
          refine va_get (D := (dC, dI)) (ci := 1) (v := .int (nI z)) (C := RX1) (T := TX1) (N := 10) hx hb hT in_X1 hown hK hP 13 rfl rfl 8 (by decide) (hT _ mw_64) (fun _ h9 => h9) rfl dX2_placeFrom_27 ?_
          refine lv_icmp_ge (tgt := 61) hx hb dX2_placeFrom_30 (by decide) (fun c_30 => ?_) (fun c_30 => ?_)
          · exact absurd c_30 (nI_ge (by omega) (by omega))
          · refine lv_aload_n hx hb dX2_placeFrom_33 rfl (lv_at hl 1 rfl) ?_
            refine va_get (D := (dC, dI)) (ci := 2) (v := .ref (aS 1)) (C := RX2) (T := TX2) (N := 11) hx hb hT in_X2 hown hK hP 0 rfl rfl 1 (by decide) (hT _ mw_114) (fun _ h9 => h9) rfl dX2_placeFrom_34 ?_
            refine lv_iload_n hx hb dX2_placeFrom_37 rfl (lv_at hl 2 rfl) ?_
            refine dk_aald (q0 := 1) (t0 := 1) (i := i) (r := aS (i + 6)) hx hb hK hP rfl rfl rfl (by omega) (by decide) (if_pos (by omega)) dX2_placeFrom_38 ?_
            refine lv_iload hx hb dX2_placeFrom_39 (lv_at hl 0 rfl) ?_
            refine dk_iald (q0 := 6 + i) (t0 := 0) (i := j) hx hb hK hP (dk_rowA (by omega)) rfl rfl (by omega) (by decide) dX2_placeFrom_41 ?_
            refine lv_iconst (v := (-1)) hx hb dX2_placeFrom_42 (by decide) ?_
            refine lv_icmp_eq (tgt := 55) hx hb dX2_placeFrom_43 (by decide) (fun c_43 => ?_) (fun c_43 => ?_)
            · refine lv_iinc (v := (nI (j + 1))) (lv' := [(4, .int (nI (j + 1))), (0, .ref (aS 0)), (1, .int (nI i)), (2, .int x), (3, .int g)]) hx hb dX2_placeFrom_55 hl (k := 0) rfl (nI_1 j) (by decide) rfl (fun ls hl => ?_)
              refine lv_goto (tgt := 21) hx hb dX2_placeFrom_58 (by decide) ?_
              exact ih21 (j + 1) st1 _ _ _ (by omega) (by rw [← hf21_0]; show _ = dk_loop (dk_try fr le pr F li en (dk_place d z fr le pr F li en k (i + 1)) i x g) n (j + 1) ((dk_try fr le pr F li en (dk_place d z fr le pr F li en k (i + 1)) i x g) j st1); rw [show (dk_try fr le pr F li en (dk_place d z fr le pr F li en k (i + 1)) i x g) j st1 = _ from if_pos c_43]) hP hD hS (lv_sub hl [0, 1, 2, 3, 4] rfl)
            · refine lv_aload_n hx hb dX2_placeFrom_46 rfl (lv_at hl 1 rfl) ?_
              refine lv_iload_n hx hb dX2_placeFrom_47 rfl (lv_at hl 2 rfl) ?_
              refine lv_iload hx hb dX2_placeFrom_48 (lv_at hl 0 rfl) ?_
              refine lv_iload_n hx hb dX2_placeFrom_50 rfl (lv_at hl 3 rfl) ?_
              refine lv_iload_n hx hb dX2_placeFrom_51 rfl (lv_at hl 4 rfl) ?_
              refine dk_callv (wr := []) (va_runV (As := [.int (nI i), .int (nI j), .int x, .int g]) (rest := []) ⟨hx, hb, hml, hown, hT⟩ (c_X2_placeSize l dC dI cI cII aS F li en aN fr le fi ne fl ar pr sp d z st1 k i j x g _ hz1 hd1 hfr (by omega) hi1 (by omega) (fun st x g hz => ih (i + 1) st x g hz (by omega) (by omega))) (cwV 4 hT (dk_gV mw_226 mw_228 mw_5 mw_26 mw_229) rfl rfl rfl (by decide +kernel) ⟨(by dsimp only; omega), (by dsimp only; omega)⟩) (dk_preV hK hP hD [0, 1, 2, 3, 4, 5, 6, 7, 8, 9, 10, 11, 12, 13, 14, 15, 16, 17, 18, 19, 20] rfl rfl (q0 := 0) (ci := 2) rfl rfl) rfl rfl hl.1 rfl (lv_room (Nat.le_of_ble_eq_true rfl)) dX2_placeFrom_52 ⟨Nat.le_of_ble_eq_true rfl, Nat.le_of_ble_eq_true rfl⟩) hP hD hS hA [0, 1, 2, 3, 4, 5, 6, 7, 8, 9, 10, 11, 12, 13, 14, 15, 16, 17, 18, 19, 20] [] rfl rfl rfl (by decide) (fun _ H locs h9 hP hD hS => ?_)
              have hP : va_P (dC, dI) vwCl (dk_SW cI cII aS (aN 0) F li en (dk_step fr le pr F li en (dk_place d z fr le pr F li en k (i + 1)) i x g j st1) ++ dk_N cI cII aN fr le fi ne fl (nI d) ar pr (nI z) sp) H := hP
              have hD : va_D A (dk_SW cI cII aS (aN 0) F li en (dk_step fr le pr F li en (dk_place d z fr le pr F li en k (i + 1)) i x g j st1) ++ dk_N cI cII aN fr le fi ne fl (nI d) ar pr (nI z) sp) := hD
              refine lv_iinc (v := (nI (j + 1))) (lv' := [(4, .int (nI (j + 1))), (0, .ref (aS 0)), (1, .int (nI i)), (2, .int x), (3, .int g)]) hx hb dX2_placeFrom_55 hl (k := 0) rfl (nI_1 j) (by decide) rfl (fun ls hl => ?_)
              refine lv_goto (tgt := 21) hx hb dX2_placeFrom_58 (by decide) ?_
              exact ih21 (j + 1) (dk_step fr le pr F li en (dk_place d z fr le pr F li en k (i + 1)) i x g j st1) _ _ _ (by omega) (by rw [← hf21_0]; show _ = dk_loop (dk_try fr le pr F li en (dk_place d z fr le pr F li en k (i + 1)) i x g) n (j + 1) ((dk_try fr le pr F li en (dk_place d z fr le pr F li en k (i + 1)) i x g) j st1); rw [show (dk_try fr le pr F li en (dk_place d z fr le pr F li en k (i + 1)) i x g) j st1 = _ from if_neg c_43]) hP hD hS (lv_sub hl [0, 1, 2, 3, 4] rfl)
      exact lp21 z 0 st _ _ _ (by omega) rfl hP hD hS (lv_sub hl [0, 1, 2, 3, 4] rfl)
    · exact absurd (nI_le (by omega) (by omega)) c_8
end
section
set_option maxHeartbeats 4000000 in
set_option maxRecDepth 100000 in
/-- DuctSizes$Search.run -/
theorem c_X2_run (l : Launch) (dC : Nat → ClassId) (dI : Nat → Nat → Nat) (cI cII : ClassId) (aS : Nat → Nat) (F : Nat → Nat → Int32) (ts : Nat → Int32) (tp : Nat → Int32) (li : Int32) (en : Int32) (so : Nat → Int32) (pa : Nat → Int32) (fd : Int32) (co : Int32) (ps : Int32) (aN : Nat → Nat) (fr : Nat → Int32) (le : Nat → Int32) (fi : Nat → Int32) (ne : Nat → Int32) (fl : Nat → Int32) (ar : Nat → Int32) (pr : Nat → Int32) (sp : Int32) (d : Nat) (z : Nat) (x0 : Int32) (x1 : Int32) (hz : Nat) (hz1 : z ≤ 4) (hd1 : d ≤ 6) (hfr : ∀ k, k < 7 → vp_in (fr k) 7) (har : ∀ j, j < z → ¬ ar j = 0) (har2 : ∀ j, j < z → ¬ (ar j).toInt64 * (ar j).toInt64 = 0) : dk_Mv l yX2_run wsX2_run ({ frames := 14, cells := 0, slots := 0, locals := 353 }) (dC, dI) (dk_T cI cII) [.ref (aS 0), .int x0, .int x1] (dk_S cI cII aS (aN 0) F ts tp li en so pa fd co ps ++ dk_N cI cII aN fr le fi ne fl (nI d) ar pr (nI z) sp) hz (fun (_ : Unit) => True) (fun _ => dk_SW cI cII aS (aN 0) (dk_nr le fi fl ar sp z d 1 F) x0 x1 (dk_place d z fr le pr (dk_nr le fi fl ar sp z d 1 F) x0 x1 d 1 0 0 (ts, tp, so, pa, 0, co, ps)) ++ dk_N cI cII aN fr le fi ne fl (nI d) ar pr (nI z) sp) 0 0 := by
  refine dk_ofMv (cc := cX2_run) (maxL := 3) (by decide) rfl (Nat.le_of_ble_eq_true rfl) ?_
  intro p e s m args below meth c A ls Q ⟨hx, hb, hml, hts, hown, hnm⟩ hsz hK hP hD hA hS hl hret
  have hT : ∀ w ∈ dk_tbl, w.before args s = true := fun w h => hts w (List.mem_cons_of_mem _ h)
  have hown : s.vm.findClass RX2 = some m.cls := hown
  have hl : lv_has ls 3 [(0, .ref (aS 0)), (1, .int x0), (2, .int x1)] := hl
  refine lv_aload_n hx hb dX2_run_0 rfl (lv_at hl 0 rfl) ?_
  refine lv_iload_n hx hb dX2_run_1 rfl (lv_at hl 1 rfl) ?_
  refine va_put (D := (dC, dI)) (ci := 2) (v := .int x0) (ty := .int) (C := RX2) (T := TX2) (N := 11) hx hb hT in_X2 tyX2 tyX2_ok nmX2 hown hK hP hD hS 0 rfl rfl 4 (by decide) (hT _ mw_117) (fun _ h9 => h9) rfl (by decide +kernel) rfl rfl (Nat.le_of_ble_eq_true rfl) dX2_run_2 (fun H locs hP hD hS => ?_)
  have hP : va_P (dC, dI) vwCl (dk_S cI cII aS (aN 0) F ts tp x0 en so pa fd co ps ++ dk_N cI cII aN fr le fi ne fl (nI d) ar pr (nI z) sp) H := hP
  have hD : va_D A (dk_S cI cII aS (aN 0) F ts tp x0 en so pa fd co ps ++ dk_N cI cII aN fr le fi ne fl (nI d) ar pr (nI z) sp) := hD
  refine lv_aload_n hx hb dX2_run_5 rfl (lv_at hl 0 rfl) ?_
  refine lv_iload_n hx hb dX2_run_6 rfl (lv_at hl 2 rfl) ?_
  refine va_put (D := (dC, dI)) (ci := 2) (v := .int x1) (ty := .int) (C := RX2) (T := TX2) (N := 11) hx hb hT in_X2 tyX2 tyX2_ok nmX2 hown hK hP hD hS 0 rfl rfl 5 (by decide) (hT _ mw_118) (fun _ h9 => h9) rfl (by decide +kernel) rfl rfl (Nat.le_of_ble_eq_true rfl) dX2_run_7 (fun H locs hP hD hS => ?_)
  have hP : va_P (dC, dI) vwCl (dk_S cI cII aS (aN 0) F ts tp x0 x1 so pa fd co ps ++ dk_N cI cII aN fr le fi ne fl (nI d) ar pr (nI z) sp) H := hP
  have hD : va_D A (dk_S cI cII aS (aN 0) F ts tp x0 x1 so pa fd co ps ++ dk_N cI cII aN fr le fi ne fl (nI d) ar pr (nI z) sp) := hD
  refine lv_aload_n hx hb dX2_run_10 rfl (lv_at hl 0 rfl) ?_
  refine lv_iconst (v := 0) hx hb dX2_run_11 (by decide) ?_
  refine va_put (D := (dC, dI)) (ci := 2) (v := .int 0) (ty := .boolean) (C := RX2) (T := TX2) (N := 11) hx hb hT in_X2 tyX2 tyX2_ok nmX2 hown hK hP hD hS 0 rfl rfl 8 (by decide) (hT _ mw_123) (fun _ h9 => h9) rfl (by decide +kernel) rfl rfl (Nat.le_of_ble_eq_true rfl) dX2_run_12 (fun H locs hP hD hS => ?_)
  have hP : va_P (dC, dI) vwCl (dk_S cI cII aS (aN 0) F ts tp x0 x1 so pa 0 co ps ++ dk_N cI cII aN fr le fi ne fl (nI d) ar pr (nI z) sp) H := hP
  have hD : va_D A (dk_S cI cII aS (aN 0) F ts tp x0 x1 so pa 0 co ps ++ dk_N cI cII aN fr le fi ne fl (nI d) ar pr (nI z) sp) := hD
  refine lv_aload_n hx hb dX2_run_15 rfl (lv_at hl 0 rfl) ?_
  refine dk_callv (wr := []) (va_runV (As := []) (rest := []) ⟨hx, hb, hml, hown, hT⟩ (c_X2_noteFalls l dC dI cI cII aS F ts tp x0 x1 so pa 0 co ps aN fr le fi ne fl ar pr sp d z _ hz1 hd1 hfr har har2) (cwV 0 hT (dk_gV mw_196 mw_198 mw_2 mw_26 mw_199) rfl rfl rfl (by decide +kernel) ⟨(by first | exact Nat.le_of_ble_eq_true rfl | (dsimp only; omega)), (by first | exact Nat.le_of_ble_eq_true rfl | (dsimp only; omega))⟩) (dk_preV hK hP hD [0, 1, 2, 3, 4, 5, 6, 7, 8, 9, 10, 11, 12, 13, 14, 15, 16, 17, 18, 19, 20] rfl rfl (q0 := 0) (ci := 2) rfl rfl) rfl rfl hl.1 rfl (lv_room (Nat.le_of_ble_eq_true rfl)) dX2_run_16 ⟨Nat.le_of_ble_eq_true rfl, Nat.le_of_ble_eq_true rfl⟩) hP hD hS hA [0, 1, 2, 3, 4, 5, 6, 7, 8, 9, 10, 11, 12, 13, 14, 15, 16, 17, 18, 19, 20] [] rfl rfl rfl (by decide) (fun _ H locs h9 hP hD hS => ?_)
  have hP : va_P (dC, dI) vwCl (dk_S cI cII aS (aN 0) (dk_nr le fi fl ar sp z d 1 F) ts tp x0 x1 so pa 0 co ps ++ dk_N cI cII aN fr le fi ne fl (nI d) ar pr (nI z) sp) H := hP
  have hD : va_D A (dk_S cI cII aS (aN 0) (dk_nr le fi fl ar sp z d 1 F) ts tp x0 x1 so pa 0 co ps ++ dk_N cI cII aN fr le fi ne fl (nI d) ar pr (nI z) sp) := hD
  refine lv_aload_n hx hb dX2_run_19 rfl (lv_at hl 0 rfl) ?_
  refine lv_iconst (v := 1) hx hb dX2_run_20 (by decide) ?_
  refine lv_iconst (v := 0) hx hb dX2_run_21 (by decide) ?_
  refine lv_iconst (v := 0) hx hb dX2_run_22 (by decide) ?_
  refine dk_callv (wr := []) (va_runV (As := [.int 1, .int 0, .int 0]) (rest := []) ⟨hx, hb, hml, hown, hT⟩ (c_X2_placeFrom_all l dC dI cI cII aS (dk_nr le fi fl ar sp z d 1 F) x0 x1 aN fr le fi ne fl ar pr sp d z hz1 hd1 hfr d 1 (ts, tp, so, pa, 0, co, ps) 0 0 _ (by omega) (by omega)) (cwV 3 hT (dk_gV mw_218 mw_220 mw_3 mw_26 mw_221) rfl rfl rfl (by decide +kernel) ⟨(by first | exact Nat.le_of_ble_eq_true rfl | (dsimp only; omega)), (by first | exact Nat.le_of_ble_eq_true rfl | (dsimp only; omega))⟩) (dk_preV hK hP hD [0, 1, 2, 3, 4, 5, 6, 7, 8, 9, 10, 11, 12, 13, 14, 15, 16, 17, 18, 19, 20] rfl rfl (q0 := 0) (ci := 2) rfl rfl) rfl rfl hl.1 rfl (lv_room (Nat.le_of_ble_eq_true rfl)) dX2_run_23 ⟨Nat.le_of_ble_eq_true rfl, Nat.le_of_ble_eq_true rfl⟩) hP hD hS hA [0, 1, 2, 3, 4, 5, 6, 7, 8, 9, 10, 11, 12, 13, 14, 15, 16, 17, 18, 19, 20] [] rfl rfl rfl (by decide) (fun _ H locs h9 hP hD hS => ?_)
  have hP : va_P (dC, dI) vwCl (dk_SW cI cII aS (aN 0) (dk_nr le fi fl ar sp z d 1 F) x0 x1 (dk_place d z fr le pr (dk_nr le fi fl ar sp z d 1 F) x0 x1 d 1 0 0 (ts, tp, so, pa, 0, co, ps)) ++ dk_N cI cII aN fr le fi ne fl (nI d) ar pr (nI z) sp) H := hP
  have hD : va_D A (dk_SW cI cII aS (aN 0) (dk_nr le fi fl ar sp z d 1 F) x0 x1 (dk_place d z fr le pr (dk_nr le fi fl ar sp z d 1 F) x0 x1 d 1 0 0 (ts, tp, so, pa, 0, co, ps)) ++ dk_N cI cII aN fr le fi ne fl (nI d) ar pr (nI z) sp) := hD
  exact hret () _ _ _ _ trivial hP hD hS dX2_run_26
end
section
set_option maxHeartbeats 4000000 in
set_option maxRecDepth 100000 in
/-- new DuctSizes -/
theorem c_X3_init (l : Launch) (dC : Nat → ClassId) (dI : Nat → Nat → Nat) (cI cII : ClassId) (h0 : Nat)  (hz : Nat) : dk_Iv l yX3_init wsX3_init ({ frames := 2, cells := 37, slots := 214, locals := 33 }) (dC, dI) (dk_T cI cII) [.ref h0] ([(h0, .inr (3, [.null, .null, .null, .null, .int 0, .int 0]))]) hz (fun U => va_AOA .int U ∧ va_Nw (.methodLinkNest RX3 9 yX1_init "DuctSizes") U ∧ va_Nw (.methodLinkNest RX3 18 yX0_init "DuctSizes") U) (fun (u : (Nat → Nat) × (Nat → Nat) × (Nat → Nat) × (Nat → Nat)) => True) (fun u => dk_X cI cII (fun _ => h0) (u.1 0) (u.2.1 0) (u.2.2.1 0) (u.2.2.2 0) 0 1 ++ dk_N cI cII (u.1) (fun _ => 0) (fun _ => 0) (fun _ => 0) (fun _ => 0) (fun _ => 0) (nI 0) (fun _ => 0) (fun _ => 0) (nI 0) 100000 ++ dk_C cI cII (u.2.1) (fun _ => 0) (fun _ => 0) (nI 0) ++ dk_S cI cII (u.2.2.1) (u.1 0) (fun _ _ => 0) (fun _ => 0) (fun _ => 0) 0 0 (fun _ => 0) (fun _ => 0) 0 0 0 ++ dk_S cI cII (u.2.2.2) (u.1 0) (fun _ _ => 0) (fun _ => 0) (fun _ => 0) 0 0 (fun _ => 0) (fun _ => 0) 0 0 0) 37 214 := by
  refine dk_ofIv (cc := cX3_init) (maxL := 1) (by decide) rfl (Nat.le_of_ble_eq_true rfl) ?_
  intro p e s m args below meth c A ls Q ⟨hx, hb, hml, hts, hown, hnm⟩ hsz hK hP hD hA hS hl hE hret
  have hT : ∀ w ∈ dk_tbl, w.before args s = true := fun w h => hts w (List.mem_cons_of_mem _ h)
  have hown : s.vm.findClass RX3 = some m.cls := hown
  have hin : meth.name = "<init>" := hnm
  have hl : lv_has ls 1 [(0, .ref h0)] := hl
  refine lv_aload_n hx hb dX3_init_0 rfl (lv_at hl 0 rfl) ?_
  refine W.objInit hx hb hown (hT _ mw_39) (hT _ mw_40) (hT _ mw_41) rfl (by rw [hml]; exact hl.1) rfl dX3_init_1 (Nat.le_of_ble_eq_true rfl) (Nat.le_of_ble_eq_true rfl) ?_
  refine W.eq (g2 := F0 m 4 ls []) rfl ?_
  refine lv_aload_n hx hb dX3_init_4 rfl (lv_at hl 0 rfl) ?_
  refine va_new (ci := 1) (fs := [.null, .null, .null, .null, .null, .int 0, .null, .null, .int 0, .int 0]) (C := RX1) (T := TX1) (N := 10) hx hb hT in_X1 tyX1 tyX1_ok hown (hT _ mw_42) (hT _ mw_43) (hT _ mw_24) hK hP hD hS hA rfl (fun j hj => by rcases (show j = 0 ∨ j = 1 ∨ j = 2 ∨ j = 3 ∨ j = 4 ∨ j = 5 ∨ j = 6 ∨ j = 7 ∨ j = 8 ∨ j = 9 by omega) with rfl | rfl | rfl | rfl | rfl | rfl | rfl | rfl | rfl | rfl <;> rfl) (Nat.le_of_ble_eq_true rfl) (Nat.le_of_ble_eq_true rfl) dX3_init_5 (fun q5 H hP hD hS => ?_)
  have hP : va_P (dC, dI) vwCl ([(h0, .inr (3, [.null, .null, .null, .null, .int 0, .int 0])), (q5, .inr (1, [.null, .null, .null, .null, .null, .int 0, .null, .null, .int 0, .int 0]))]) H := hP
  have hD : va_D A ([(h0, .inr (3, [.null, .null, .null, .null, .int 0, .int 0])), (q5, .inr (1, [.null, .null, .null, .null, .null, .int 0, .null, .null, .int 0, .int 0]))]) := hD
  refine lv_dup hx hb dX3_init_8 rfl ?_
  refine dk_callv (wr := [(h0, .inr (3, [.null, .null, .null, .null, .int 0, .int 0]))]) (va_runIN (As := []) (rest := [.ref q5, .ref h0]) ⟨hx, hb, hml, hown, hT⟩ (c_X1_init l dC dI cI cII q5 _) ⟨va_cnB 0 hT (dk_gC mw_46) rfl rfl rfl hE.2.1 (hT _ mw_24) (by decide +kernel) ⟨Nat.le_of_ble_eq_true rfl, Nat.le_of_ble_eq_true rfl⟩, rfl, hT _ mw_45⟩ (dk_preI hK hP hD [1] rfl rfl (fun _ _ => trivial) (fun _ _ _ _ _ => trivial)) rfl rfl hl.1 rfl (lv_room (Nat.le_of_ble_eq_true rfl)) dX3_init_9 ⟨Nat.le_of_ble_eq_true rfl, Nat.le_of_ble_eq_true rfl⟩) hP hD hS hA [1] [0] rfl rfl rfl (by decide) (fun aN H locs hu hP hD hS => ?_)
  revert hP hD hS
  subst hu
  intro hP hD hS
  refine va_putF (D := (dC, dI)) (ci := 3) (v := .ref (aN 0)) (ty := (.object "DuctSizes$Network")) (C := RX3) (T := TX3) (N := 6) hx hb hT in_X3 tyX3 tyX3_ok nmX3 hown hK hP hD hS 0 rfl rfl 0 (by decide) (hT _ mw_152) (fun _ h9 => h9) rfl hin rfl (by decide +kernel) rfl rfl (Nat.le_of_ble_eq_true rfl) dX3_init_12 (fun H locs hP hD hS => ?_)
  have hP : va_P (dC, dI) vwCl ([(h0, .inr (3, [.ref (aN 0), .null, .null, .null, .int 0, .int 0]))] ++ dk_N cI cII aN (fun _ => 0) (fun _ => 0) (fun _ => 0) (fun _ => 0) (fun _ => 0) (nI 0) (fun _ => 0) (fun _ => 0) (nI 0) 100000) H := hP
  have hD : va_D A ([(h0, .inr (3, [.ref (aN 0), .null, .null, .null, .int 0, .int 0]))] ++ dk_N cI cII aN (fun _ => 0) (fun _ => 0) (fun _ => 0) (fun _ => 0) (fun _ => 0) (nI 0) (fun _ => 0) (fun _ => 0) (nI 0) 100000) := hD
  refine lv_aload_n hx hb dX3_init_15 rfl (lv_at hl 0 rfl) ?_
  refine va_new (ci := 0) (fs := [.null, .null, .int 0]) (C := RX0) (T := TX0) (N := 3) hx hb hT in_X0 tyX0 tyX0_ok hown (hT _ mw_89) (hT _ mw_90) (hT _ mw_25) hK hP hD hS hA rfl (fun j hj => by rcases (show j = 0 ∨ j = 1 ∨ j = 2 by omega) with rfl | rfl | rfl <;> rfl) (Nat.le_of_ble_eq_true rfl) (Nat.le_of_ble_eq_true rfl) dX3_init_16 (fun q16 H hP hD hS => ?_)
  have hP : va_P (dC, dI) vwCl ([(h0, .inr (3, [.ref (aN 0), .null, .null, .null, .int 0, .int 0]))] ++ dk_N cI cII aN (fun _ => 0) (fun _ => 0) (fun _ => 0) (fun _ => 0) (fun _ => 0) (nI 0) (fun _ => 0) (fun _ => 0) (nI 0) 100000 ++ [(q16, .inr (0, [.null, .null, .int 0]))]) H := hP
  have hD : va_D A ([(h0, .inr (3, [.ref (aN 0), .null, .null, .null, .int 0, .int 0]))] ++ dk_N cI cII aN (fun _ => 0) (fun _ => 0) (fun _ => 0) (fun _ => 0) (fun _ => 0) (nI 0) (fun _ => 0) (fun _ => 0) (nI 0) 100000 ++ [(q16, .inr (0, [.null, .null, .int 0]))]) := hD
  refine lv_dup hx hb dX3_init_19 rfl ?_
  refine dk_callv (wr := [(h0, .inr (3, [.ref (aN 0), .null, .null, .null, .int 0, .int 0]))] ++ dk_N cI cII aN (fun _ => 0) (fun _ => 0) (fun _ => 0) (fun _ => 0) (fun _ => 0) (nI 0) (fun _ => 0) (fun _ => 0) (nI 0) 100000) (va_runIN (As := []) (rest := [.ref q16, .ref h0]) ⟨hx, hb, hml, hown, hT⟩ (c_X0_init l dC dI cI cII q16 _) ⟨va_cnB 0 hT (dk_gC mw_93) rfl rfl rfl hE.2.2 (hT _ mw_25) (by decide +kernel) ⟨Nat.le_of_ble_eq_true rfl, Nat.le_of_ble_eq_true rfl⟩, rfl, hT _ mw_92⟩ (dk_preI hK hP hD [9] rfl rfl (fun _ _ => trivial) (fun _ _ _ _ _ => trivial)) rfl rfl hl.1 rfl (lv_room (Nat.le_of_ble_eq_true rfl)) dX3_init_20 ⟨Nat.le_of_ble_eq_true rfl, Nat.le_of_ble_eq_true rfl⟩) hP hD hS hA [9] [0, 1, 2, 3, 4, 5, 6, 7, 8] rfl rfl rfl (by decide) (fun aC H locs hu hP hD hS => ?_)
  revert hP hD hS
  subst hu
  intro hP hD hS
  refine va_putF (D := (dC, dI)) (ci := 3) (v := .ref (aC 0)) (ty := (.object "DuctSizes$Curve")) (C := RX3) (T := TX3) (N := 6) hx hb hT in_X3 tyX3 tyX3_ok nmX3 hown hK hP hD hS 0 rfl rfl 1 (by decide) (hT _ mw_153) (fun _ h9 => h9) rfl hin rfl (by decide +kernel) rfl rfl (Nat.le_of_ble_eq_true rfl) dX3_init_23 (fun H locs hP hD hS => ?_)
  have hP : va_P (dC, dI) vwCl ([(h0, .inr (3, [.ref (aN 0), .ref (aC 0), .null, .null, .int 0, .int 0]))] ++ dk_N cI cII aN (fun _ => 0) (fun _ => 0) (fun _ => 0) (fun _ => 0) (fun _ => 0) (nI 0) (fun _ => 0) (fun _ => 0) (nI 0) 100000 ++ dk_C cI cII aC (fun _ => 0) (fun _ => 0) (nI 0)) H := hP
  have hD : va_D A ([(h0, .inr (3, [.ref (aN 0), .ref (aC 0), .null, .null, .int 0, .int 0]))] ++ dk_N cI cII aN (fun _ => 0) (fun _ => 0) (fun _ => 0) (fun _ => 0) (fun _ => 0) (nI 0) (fun _ => 0) (fun _ => 0) (nI 0) 100000 ++ dk_C cI cII aC (fun _ => 0) (fun _ => 0) (nI 0)) := hD
  refine lv_aload_n hx hb dX3_init_26 rfl (lv_at hl 0 rfl) ?_
  refine va_new (ci := 2) (fs := [.null, .null, .null, .null, .int 0, .int 0, .null, .null, .int 0, .int 0, .int 0]) (C := RX2) (T := TX2) (N := 11) hx hb hT in_X2 tyX2 tyX2_ok hown (hT _ mw_105) (hT _ mw_106) (hT _ mw_26) hK hP hD hS hA rfl (fun j hj => by rcases (show j = 0 ∨ j = 1 ∨ j = 2 ∨ j = 3 ∨ j = 4 ∨ j = 5 ∨ j = 6 ∨ j = 7 ∨ j = 8 ∨ j = 9 ∨ j = 10 by omega) with rfl | rfl | rfl | rfl | rfl | rfl | rfl | rfl | rfl | rfl | rfl <;> rfl) (Nat.le_of_ble_eq_true rfl) (Nat.le_of_ble_eq_true rfl) dX3_init_27 (fun q27 H hP hD hS => ?_)
  have hP : va_P (dC, dI) vwCl ([(h0, .inr (3, [.ref (aN 0), .ref (aC 0), .null, .null, .int 0, .int 0]))] ++ dk_N cI cII aN (fun _ => 0) (fun _ => 0) (fun _ => 0) (fun _ => 0) (fun _ => 0) (nI 0) (fun _ => 0) (fun _ => 0) (nI 0) 100000 ++ dk_C cI cII aC (fun _ => 0) (fun _ => 0) (nI 0) ++ [(q27, .inr (2, [.null, .null, .null, .null, .int 0, .int 0, .null, .null, .int 0, .int 0, .int 0]))]) H := hP
  have hD : va_D A ([(h0, .inr (3, [.ref (aN 0), .ref (aC 0), .null, .null, .int 0, .int 0]))] ++ dk_N cI cII aN (fun _ => 0) (fun _ => 0) (fun _ => 0) (fun _ => 0) (fun _ => 0) (nI 0) (fun _ => 0) (fun _ => 0) (nI 0) 100000 ++ dk_C cI cII aC (fun _ => 0) (fun _ => 0) (nI 0) ++ [(q27, .inr (2, [.null, .null, .null, .null, .int 0, .int 0, .null, .null, .int 0, .int 0, .int 0]))]) := hD
  refine lv_dup hx hb dX3_init_30 rfl ?_
  refine lv_aload_n hx hb dX3_init_31 rfl (lv_at hl 0 rfl) ?_
  refine va_get (D := (dC, dI)) (ci := 3) (v := .ref (aN 0)) (C := RX3) (T := TX3) (N := 6) hx hb hT in_X3 hown hK hP 0 rfl rfl 0 (by decide) (hT _ mw_152) (fun _ h9 => h9) rfl dX3_init_32 ?_
  refine dk_callv (wr := [(h0, .inr (3, [.ref (aN 0), .ref (aC 0), .null, .null, .int 0, .int 0]))] ++ dk_N cI cII aN (fun _ => 0) (fun _ => 0) (fun _ => 0) (fun _ => 0) (fun _ => 0) (nI 0) (fun _ => 0) (fun _ => 0) (nI 0) 100000 ++ dk_C cI cII aC (fun _ => 0) (fun _ => 0) (nI 0)) (va_runI (As := [.ref (aN 0)]) (rest := [.ref q27, .ref h0]) ⟨hx, hb, hml, hown, hT⟩ (c_X2_init l dC dI cI cII q27 (aN 0) _) (cwI 1 hT (dk_gC mw_109) rfl rfl rfl (hT _ mw_26) (hT _ mw_107) (hT _ mw_108) rfl (by decide +kernel) ⟨Nat.le_of_ble_eq_true rfl, Nat.le_of_ble_eq_true rfl⟩) (dk_preI hK hP hD [12] rfl rfl (fun U hW => dk_aoaMoved hW.alike hE.1) (fun U g mk a h => h)) rfl rfl hl.1 rfl (lv_room (Nat.le_of_ble_eq_true rfl)) dX3_init_35 ⟨Nat.le_of_ble_eq_true rfl, Nat.le_of_ble_eq_true rfl⟩) hP hD hS hA [12] [0, 1, 2, 3, 4, 5, 6, 7, 8, 9, 10, 11] rfl rfl rfl (by decide) (fun aB H locs hu hP hD hS => ?_)
  revert hP hD hS
  subst hu
  intro hP hD hS
  refine va_putF (D := (dC, dI)) (ci := 3) (v := .ref (aB 0)) (ty := (.object "DuctSizes$Search")) (C := RX3) (T := TX3) (N := 6) hx hb hT in_X3 tyX3 tyX3_ok nmX3 hown hK hP hD hS 0 rfl rfl 2 (by decide) (hT _ mw_154) (fun _ h9 => h9) rfl hin rfl (by decide +kernel) rfl rfl (Nat.le_of_ble_eq_true rfl) dX3_init_38 (fun H locs hP hD hS => ?_)
  have hP : va_P (dC, dI) vwCl ([(h0, .inr (3, [.ref (aN 0), .ref (aC 0), .ref (aB 0), .null, .int 0, .int 0]))] ++ dk_N cI cII aN (fun _ => 0) (fun _ => 0) (fun _ => 0) (fun _ => 0) (fun _ => 0) (nI 0) (fun _ => 0) (fun _ => 0) (nI 0) 100000 ++ dk_C cI cII aC (fun _ => 0) (fun _ => 0) (nI 0) ++ dk_S cI cII aB (aN 0) (fun _ _ => 0) (fun _ => 0) (fun _ => 0) 0 0 (fun _ => 0) (fun _ => 0) 0 0 0) H := hP
  have hD : va_D A ([(h0, .inr (3, [.ref (aN 0), .ref (aC 0), .ref (aB 0), .null, .int 0, .int 0]))] ++ dk_N cI cII aN (fun _ => 0) (fun _ => 0) (fun _ => 0) (fun _ => 0) (fun _ => 0) (nI 0) (fun _ => 0) (fun _ => 0) (nI 0) 100000 ++ dk_C cI cII aC (fun _ => 0) (fun _ => 0) (nI 0) ++ dk_S cI cII aB (aN 0) (fun _ _ => 0) (fun _ => 0) (fun _ => 0) 0 0 (fun _ => 0) (fun _ => 0) 0 0 0) := hD
  refine lv_aload_n hx hb dX3_init_41 rfl (lv_at hl 0 rfl) ?_
  refine va_new (ci := 2) (fs := [.null, .null, .null, .null, .int 0, .int 0, .null, .null, .int 0, .int 0, .int 0]) (C := RX2) (T := TX2) (N := 11) hx hb hT in_X2 tyX2 tyX2_ok hown (hT _ mw_105) (hT _ mw_106) (hT _ mw_26) hK hP hD hS hA rfl (fun j hj => by rcases (show j = 0 ∨ j = 1 ∨ j = 2 ∨ j = 3 ∨ j = 4 ∨ j = 5 ∨ j = 6 ∨ j = 7 ∨ j = 8 ∨ j = 9 ∨ j = 10 by omega) with rfl | rfl | rfl | rfl | rfl | rfl | rfl | rfl | rfl | rfl | rfl <;> rfl) (Nat.le_of_ble_eq_true rfl) (Nat.le_of_ble_eq_true rfl) dX3_init_42 (fun q42 H hP hD hS => ?_)
  have hP : va_P (dC, dI) vwCl ([(h0, .inr (3, [.ref (aN 0), .ref (aC 0), .ref (aB 0), .null, .int 0, .int 0]))] ++ dk_N cI cII aN (fun _ => 0) (fun _ => 0) (fun _ => 0) (fun _ => 0) (fun _ => 0) (nI 0) (fun _ => 0) (fun _ => 0) (nI 0) 100000 ++ dk_C cI cII aC (fun _ => 0) (fun _ => 0) (nI 0) ++ dk_S cI cII aB (aN 0) (fun _ _ => 0) (fun _ => 0) (fun _ => 0) 0 0 (fun _ => 0) (fun _ => 0) 0 0 0 ++ [(q42, .inr (2, [.null, .null, .null, .null, .int 0, .int 0, .null, .null, .int 0, .int 0, .int 0]))]) H := hP
  have hD : va_D A ([(h0, .inr (3, [.ref (aN 0), .ref (aC 0), .ref (aB 0), .null, .int 0, .int 0]))] ++ dk_N cI cII aN (fun _ => 0) (fun _ => 0) (fun _ => 0) (fun _ => 0) (fun _ => 0) (nI 0) (fun _ => 0) (fun _ => 0) (nI 0) 100000 ++ dk_C cI cII aC (fun _ => 0) (fun _ => 0) (nI 0) ++ dk_S cI cII aB (aN 0) (fun _ _ => 0) (fun _ => 0) (fun _ => 0) 0 0 (fun _ => 0) (fun _ => 0) 0 0 0 ++ [(q42, .inr (2, [.null, .null, .null, .null, .int 0, .int 0, .null, .null, .int 0, .int 0, .int 0]))]) := hD
  refine lv_dup hx hb dX3_init_45 rfl ?_
  refine lv_aload_n hx hb dX3_init_46 rfl (lv_at hl 0 rfl) ?_
  refine va_get (D := (dC, dI)) (ci := 3) (v := .ref (aN 0)) (C := RX3) (T := TX3) (N := 6) hx hb hT in_X3 hown hK hP 0 rfl rfl 0 (by decide) (hT _ mw_152) (fun _ h9 => h9) rfl dX3_init_47 ?_
  refine dk_callv (wr := [(h0, .inr (3, [.ref (aN 0), .ref (aC 0), .ref (aB 0), .null, .int 0, .int 0]))] ++ dk_N cI cII aN (fun _ => 0) (fun _ => 0) (fun _ => 0) (fun _ => 0) (fun _ => 0) (nI 0) (fun _ => 0) (fun _ => 0) (nI 0) 100000 ++ dk_C cI cII aC (fun _ => 0) (fun _ => 0) (nI 0) ++ dk_S cI cII aB (aN 0) (fun _ _ => 0) (fun _ => 0) (fun _ => 0) 0 0 (fun _ => 0) (fun _ => 0) 0 0 0) (va_runI (As := [.ref (aN 0)]) (rest := [.ref q42, .ref h0]) ⟨hx, hb, hml, hown, hT⟩ (c_X2_init l dC dI cI cII q42 (aN 0) _) (cwI 1 hT (dk_gC mw_109) rfl rfl rfl (hT _ mw_26) (hT _ mw_107) (hT _ mw_108) rfl (by decide +kernel) ⟨Nat.le_of_ble_eq_true rfl, Nat.le_of_ble_eq_true rfl⟩) (dk_preI hK hP hD [25] rfl rfl (fun U hW => dk_aoaMoved hW.alike hE.1) (fun U g mk a h => h)) rfl rfl hl.1 rfl (lv_room (Nat.le_of_ble_eq_true rfl)) dX3_init_50 ⟨Nat.le_of_ble_eq_true rfl, Nat.le_of_ble_eq_true rfl⟩) hP hD hS hA [25] [0, 1, 2, 3, 4, 5, 6, 7, 8, 9, 10, 11, 12, 13, 14, 15, 16, 17, 18, 19, 20, 21, 22, 23, 24] rfl rfl rfl (by decide) (fun aH H locs hu hP hD hS => ?_)
  revert hP hD hS
  subst hu
  intro hP hD hS
  refine va_putF (D := (dC, dI)) (ci := 3) (v := .ref (aH 0)) (ty := (.object "DuctSizes$Search")) (C := RX3) (T := TX3) (N := 6) hx hb hT in_X3 tyX3 tyX3_ok nmX3 hown hK hP hD hS 0 rfl rfl 3 (by decide) (hT _ mw_155) (fun _ h9 => h9) rfl hin rfl (by decide +kernel) rfl rfl (Nat.le_of_ble_eq_true rfl) dX3_init_53 (fun H locs hP hD hS => ?_)
  have hP : va_P (dC, dI) vwCl ([(h0, .inr (3, [.ref (aN 0), .ref (aC 0), .ref (aB 0), .ref (aH 0), .int 0, .int 0]))] ++ dk_N cI cII aN (fun _ => 0) (fun _ => 0) (fun _ => 0) (fun _ => 0) (fun _ => 0) (nI 0) (fun _ => 0) (fun _ => 0) (nI 0) 100000 ++ dk_C cI cII aC (fun _ => 0) (fun _ => 0) (nI 0) ++ dk_S cI cII aB (aN 0) (fun _ _ => 0) (fun _ => 0) (fun _ => 0) 0 0 (fun _ => 0) (fun _ => 0) 0 0 0 ++ dk_S cI cII aH (aN 0) (fun _ _ => 0) (fun _ => 0) (fun _ => 0) 0 0 (fun _ => 0) (fun _ => 0) 0 0 0) H := hP
  have hD : va_D A ([(h0, .inr (3, [.ref (aN 0), .ref (aC 0), .ref (aB 0), .ref (aH 0), .int 0, .int 0]))] ++ dk_N cI cII aN (fun _ => 0) (fun _ => 0) (fun _ => 0) (fun _ => 0) (fun _ => 0) (nI 0) (fun _ => 0) (fun _ => 0) (nI 0) 100000 ++ dk_C cI cII aC (fun _ => 0) (fun _ => 0) (nI 0) ++ dk_S cI cII aB (aN 0) (fun _ _ => 0) (fun _ => 0) (fun _ => 0) 0 0 (fun _ => 0) (fun _ => 0) 0 0 0 ++ dk_S cI cII aH (aN 0) (fun _ _ => 0) (fun _ => 0) (fun _ => 0) 0 0 (fun _ => 0) (fun _ => 0) 0 0 0) := hD
  refine lv_aload_n hx hb dX3_init_56 rfl (lv_at hl 0 rfl) ?_
  refine lv_iconst (v := 0) hx hb dX3_init_57 (by decide) ?_
  refine va_put (D := (dC, dI)) (ci := 3) (v := .int 0) (ty := .int) (C := RX3) (T := TX3) (N := 6) hx hb hT in_X3 tyX3 tyX3_ok nmX3 hown hK hP hD hS 0 rfl rfl 4 (by decide) (hT _ mw_156) (fun _ h9 => h9) rfl (by decide +kernel) rfl rfl (Nat.le_of_ble_eq_true rfl) dX3_init_58 (fun H locs hP hD hS => ?_)
  have hP : va_P (dC, dI) vwCl ([(h0, .inr (3, [.ref (aN 0), .ref (aC 0), .ref (aB 0), .ref (aH 0), .int 0, .int 0]))] ++ dk_N cI cII aN (fun _ => 0) (fun _ => 0) (fun _ => 0) (fun _ => 0) (fun _ => 0) (nI 0) (fun _ => 0) (fun _ => 0) (nI 0) 100000 ++ dk_C cI cII aC (fun _ => 0) (fun _ => 0) (nI 0) ++ dk_S cI cII aB (aN 0) (fun _ _ => 0) (fun _ => 0) (fun _ => 0) 0 0 (fun _ => 0) (fun _ => 0) 0 0 0 ++ dk_S cI cII aH (aN 0) (fun _ _ => 0) (fun _ => 0) (fun _ => 0) 0 0 (fun _ => 0) (fun _ => 0) 0 0 0) H := hP
  have hD : va_D A ([(h0, .inr (3, [.ref (aN 0), .ref (aC 0), .ref (aB 0), .ref (aH 0), .int 0, .int 0]))] ++ dk_N cI cII aN (fun _ => 0) (fun _ => 0) (fun _ => 0) (fun _ => 0) (fun _ => 0) (nI 0) (fun _ => 0) (fun _ => 0) (nI 0) 100000 ++ dk_C cI cII aC (fun _ => 0) (fun _ => 0) (nI 0) ++ dk_S cI cII aB (aN 0) (fun _ _ => 0) (fun _ => 0) (fun _ => 0) 0 0 (fun _ => 0) (fun _ => 0) 0 0 0 ++ dk_S cI cII aH (aN 0) (fun _ _ => 0) (fun _ => 0) (fun _ => 0) 0 0 (fun _ => 0) (fun _ => 0) 0 0 0) := hD
  refine lv_aload_n hx hb dX3_init_61 rfl (lv_at hl 0 rfl) ?_
  refine lv_iconst (v := 1) hx hb dX3_init_62 (by decide) ?_
  refine va_put (D := (dC, dI)) (ci := 3) (v := .int 1) (ty := .boolean) (C := RX3) (T := TX3) (N := 6) hx hb hT in_X3 tyX3 tyX3_ok nmX3 hown hK hP hD hS 0 rfl rfl 5 (by decide) (hT _ mw_157) (fun _ h9 => h9) rfl (by decide +kernel) rfl rfl (Nat.le_of_ble_eq_true rfl) dX3_init_63 (fun H locs hP hD hS => ?_)
  have hP : va_P (dC, dI) vwCl ([(h0, .inr (3, [.ref (aN 0), .ref (aC 0), .ref (aB 0), .ref (aH 0), .int 0, .int 1]))] ++ dk_N cI cII aN (fun _ => 0) (fun _ => 0) (fun _ => 0) (fun _ => 0) (fun _ => 0) (nI 0) (fun _ => 0) (fun _ => 0) (nI 0) 100000 ++ dk_C cI cII aC (fun _ => 0) (fun _ => 0) (nI 0) ++ dk_S cI cII aB (aN 0) (fun _ _ => 0) (fun _ => 0) (fun _ => 0) 0 0 (fun _ => 0) (fun _ => 0) 0 0 0 ++ dk_S cI cII aH (aN 0) (fun _ _ => 0) (fun _ => 0) (fun _ => 0) 0 0 (fun _ => 0) (fun _ => 0) 0 0 0) H := hP
  have hD : va_D A ([(h0, .inr (3, [.ref (aN 0), .ref (aC 0), .ref (aB 0), .ref (aH 0), .int 0, .int 1]))] ++ dk_N cI cII aN (fun _ => 0) (fun _ => 0) (fun _ => 0) (fun _ => 0) (fun _ => 0) (nI 0) (fun _ => 0) (fun _ => 0) (nI 0) 100000 ++ dk_C cI cII aC (fun _ => 0) (fun _ => 0) (nI 0) ++ dk_S cI cII aB (aN 0) (fun _ _ => 0) (fun _ => 0) (fun _ => 0) 0 0 (fun _ => 0) (fun _ => 0) 0 0 0 ++ dk_S cI cII aH (aN 0) (fun _ _ => 0) (fun _ => 0) (fun _ => 0) 0 0 (fun _ => 0) (fun _ => 0) 0 0 0) := hD
  exact hret (aN, aC, aB, aH) _ _ _ _ trivial (hP.sub (ws' := dk_X cI cII (fun _ => h0) (aN 0) (aC 0) (aB 0) (aH 0) 0 1 ++ dk_N cI cII aN (fun _ => 0) (fun _ => 0) (fun _ => 0) (fun _ => 0) (fun _ => 0) (nI 0) (fun _ => 0) (fun _ => 0) (nI 0) 100000 ++ dk_C cI cII aC (fun _ => 0) (fun _ => 0) (nI 0) ++ dk_S cI cII aB (aN 0) (fun _ _ => 0) (fun _ => 0) (fun _ => 0) 0 0 (fun _ => 0) (fun _ => 0) 0 0 0 ++ dk_S cI cII aH (aN 0) (fun _ _ => 0) (fun _ => 0) (fun _ => 0) 0 0 (fun _ => 0) (fun _ => 0) 0 0 0) [0, 1, 2, 3, 4, 5, 6, 7, 8, 9, 10, 11, 12, 13, 14, 15, 16, 17, 18, 19, 20, 21, 22, 23, 24, 25, 26, 27, 28, 29, 30, 31, 32, 33, 34, 35, 36, 37] rfl) (hD.sub (ws' := dk_X cI cII (fun _ => h0) (aN 0) (aC 0) (aB 0) (aH 0) 0 1 ++ dk_N cI cII aN (fun _ => 0) (fun _ => 0) (fun _ => 0) (fun _ => 0) (fun _ => 0) (nI 0) (fun _ => 0) (fun _ => 0) (nI 0) 100000 ++ dk_C cI cII aC (fun _ => 0) (fun _ => 0) (nI 0) ++ dk_S cI cII aB (aN 0) (fun _ _ => 0) (fun _ => 0) (fun _ => 0) 0 0 (fun _ => 0) (fun _ => 0) 0 0 0 ++ dk_S cI cII aH (aN 0) (fun _ _ => 0) (fun _ => 0) (fun _ => 0) 0 0 (fun _ => 0) (fun _ => 0) 0 0 0) [0, 1, 2, 3, 4, 5, 6, 7, 8, 9, 10, 11, 12, 13, 14, 15, 16, 17, 18, 19, 20, 21, 22, 23, 24, 25, 26, 27, 28, 29, 30, 31, 32, 33, 34, 35, 36, 37] (by decide) rfl) hS dX3_init_66
end
section
set_option maxHeartbeats 4000000 in
set_option maxRecDepth 100000 in
/-- demand(n, lo, hi) -/
theorem c_X3_demand (l : Launch) (hlt : l.stackTraces = false) (n lo hi : Int32) : dk_Dem l yX3_demand wsX3_demand ({ frames := 6, cells := 1, slots := 6, locals := 82 }) n lo hi := by
  refine dk_ofD (cc := cX3_demand) (by decide) rfl ?_
  intro p e s m args below meth c ls Q ⟨hx, hb, hml, hts, hown, hnm⟩ hlocks hno hl hE hQ hret
  have hT : ∀ w ∈ dk_tbl, w.before args s = true := fun w h => hts w (List.mem_cons_of_mem _ h)
  have hown : s.vm.findClass RX3 = some m.cls := hown
  have hl : lv_has ls 3 [(0, .int n), (1, .int lo), (2, .int hi)] := hl
  have hthrow : (n < lo ∨ hi < n) → W p l e ({ frames := 6, cells := 1, slots := 6, locals := 82 }) s m args below meth c s.heap [] 0 0 Q (F0 m 10 ls []) := by
    intro hc
    subst hQ
    obtain ⟨sa, hsa⟩ := hE.2.2.1 (133, "a number is out of its bounds") (by decide +kernel)
    exact vx_throwS (own := RX3) (cls := dk_IAE) (names := dk_ups) (A := (fun q => s.heap.size ≤ q)) hx hb hlt hown (by decide +kernel) (by decide +kernel) (hT _ mw_257) (hT _ mw_31) hsa (vx_hat (L := vx_atS RX3 135 dk_IAE dk_ups) (B := dk_badA) (fun w hw => hT w ((by decide +kernel : ∀ w ∈ (vx_atS RX3 135 dk_IAE dk_ups).filter goodWord, w ∈ dk_tbl) w hw)) (by decide +kernel) (fun w hw => va_Nw.use ((by decide +kernel : ∀ w ∈ dk_badA, w.onTables = true) w hw) (hE.2.2.2 w ((by decide +kernel : ∀ w ∈ dk_badA, w ∈ dk_badA ++ dk_badS) w hw)))) (by decide +kernel) hE.1 hE.2.1 va_S.rf (hl.1.trans hml.symm) dX3_demand_10 dX3_demand_13 dX3_demand_14 dX3_demand_16 dX3_demand_19 (fun x hx => (hno x hx).elim) (Nat.le_of_ble_eq_true rfl) (Nat.le_of_ble_eq_true rfl) (Nat.le_of_ble_eq_true rfl) (Nat.le_of_ble_eq_true rfl) hlocks (fun t ha hsz hk => ⟨rfl, hc, hsz, hk⟩) (fun _ h => by cases h) (Nat.le_of_ble_eq_true rfl) (Nat.le_of_ble_eq_true rfl)
  refine lv_iload_n hx hb dX3_demand_0 rfl (lv_at hl 0 rfl) ?_
  refine lv_iload_n hx hb dX3_demand_1 rfl (lv_at hl 1 rfl) ?_
  refine lv_icmp_lt (tgt := 10) hx hb dX3_demand_2 (by decide) (fun c_2 => ?_) (fun c_2 => ?_)
  · exact hthrow (Or.inl c_2)
  · refine lv_iload_n hx hb dX3_demand_5 rfl (lv_at hl 0 rfl) ?_
    refine lv_iload_n hx hb dX3_demand_6 rfl (lv_at hl 2 rfl) ?_
    refine lv_icmp_le (tgt := 20) hx hb dX3_demand_7 (by decide) (fun c_7 => ?_) (fun c_7 => ?_)
    · refine W.widen (k := 1) (n := 6) (by decide) (by decide) ?_
      exact hret _ _ (fun h => h.elim c_2 (fun h => Int32.not_lt.mpr c_7 h)) dX3_demand_20
    · exact hthrow (Or.inr (Int32.not_le.mp c_7))
end
section
set_option maxHeartbeats 4000000 in
set_option maxRecDepth 100000 in
/-- duct -/
theorem c_X3_duct (l : Launch) (hlt : l.stackTraces = false) (dC : Nat → ClassId) (dI : Nat → Nat → Nat) (cI cII : ClassId) (aX : Nat → Nat) (cv : Nat) (bs : Nat) (ch : Nat) (ep : Int32) (ol : Int32) (aN : Nat → Nat) (fr : Nat → Int32) (le : Nat → Int32) (fi : Nat → Int32) (ne : Nat → Int32) (fl : Nat → Int32) (ar : Nat → Int32) (pr : Nat → Int32) (sz : Int32) (sp : Int32) (d : Nat) (x0 : Int32) (x1 : Int32) (x2 : Int32) (hz : Nat) (h1 : d ≤ 6) : dk_Xi l yX3_duct wsX3_duct ({ frames := 7, cells := 4, slots := 24, locals := 104 }) (dC, dI) (dk_T cI cII) [.ref (aX 0), .int x0, .int x1, .int x2] (dk_X cI cII aX (aN 0) cv bs ch ep ol ++ dk_N cI cII aN fr le fi ne fl (nI d) ar pr sz sp) hz (fun (r : Int32) (_ : Unit) => dk_kDuct d x0 x1 x2 = 0 ∧ r = (nI (d + 1))) (fun _ => dk_X cI cII aX (aN 0) cv bs ch ep 1 ++ dk_N cI cII aN (upd fr (d + 1) x0) (upd le (d + 1) x1) (upd fi (d + 1) x2) ne fl (nI (d + 1)) ar pr sz sp) (dk_px (dk_kDuct d x0 x1 x2)) 4 24 := by
  refine dk_ofXi (cc := cX3_duct) (maxL := 4) (by decide) rfl (Nat.le_of_ble_eq_true rfl) ?_
  intro p e s m args below meth c A ls Q ⟨hx, hb, hml, hts, hown, hnm⟩ hlocks hno hsz hK hP hD hA hS hl hE hQ hret hthr
  have hT : ∀ w ∈ dk_tbl, w.before args s = true := fun w h => hts w (List.mem_cons_of_mem _ h)
  have hown : s.vm.findClass RX3 = some m.cls := hown
  have hl : lv_has ls 4 [(0, .ref (aX 0)), (1, .int x0), (2, .int x1), (3, .int x2)] := hl
  refine lv_iload_n hx hb dX3_duct_0 rfl (lv_at hl 1 rfl) ?_
  refine lv_iconst (v := 0) hx hb dX3_duct_1 (by decide) ?_
  refine lv_aload_n hx hb dX3_duct_2 rfl (lv_at hl 0 rfl) ?_
  refine va_get (D := (dC, dI)) (ci := 3) (v := .ref (aN 0)) (C := RX3) (T := TX3) (N := 6) hx hb hT in_X3 hown hK hP 0 rfl rfl 0 (by decide) (hT _ mw_152) (fun _ h9 => h9) rfl dX3_duct_3 ?_
  refine va_get (D := (dC, dI)) (ci := 1) (v := .int (nI d)) (C := RX1) (T := TX1) (N := 10) hx hb hT in_X1 hown hK hP 1 rfl rfl 5 (by decide) (hT _ mw_58) (fun _ h9 => h9) rfl dX3_duct_6 ?_
  refine dk_xdem (vx_runS (As := [.int x0, .int 0, .int (nI d)]) (rest := []) ⟨hx, hb, hml, hown, hT⟩ (c_X3_demand l hlt x0 0 (nI d)) (va_cwS 3 hT (dk_gS mw_254 mw_255 mw_23 mw_256) rfl rfl rfl (by decide +kernel) ⟨Nat.le_of_ble_eq_true rfl, Nat.le_of_ble_eq_true rfl⟩) (dk_preD hE hS hA) rfl rfl hl.1 rfl (lv_room (Nat.le_of_ble_eq_true rfl)) dX3_duct_9 ⟨Nat.le_of_ble_eq_true rfl, Nat.le_of_ble_eq_true rfl⟩) (fun ce q9 H1 hc hz hk h1 h2 h3 => hthr dk_IAE ce q9 H1 _ _ _ _ _ _ (Or.inl ⟨rfl, by unfold dk_kDuct; rw [if_pos hc]⟩) (hP.kept (fun k q hq => hk q.1 (hP k q hq).lt)) hD ⟨Nat.le_trans hS.1 hz, fun q h1 h2 => (hk q (Nat.lt_of_lt_of_le h1 hS.1)).trans (hS.2.1 q h1 h2), hS.2.2⟩ h1 h2 h3 (Nat.le_of_ble_eq_true rfl) (Nat.le_of_ble_eq_true rfl)) (fun hd_9 => ?_)
  refine lv_iload_n hx hb dX3_duct_12 rfl (lv_at hl 2 rfl) ?_
  refine lv_iconst (v := 1) hx hb dX3_duct_13 (by decide) ?_
  refine lv_bipush (v := 100) hx hb dX3_duct_14 (by decide) ?_
  refine dk_xdem (vx_runS (As := [.int x1, .int 1, .int 100]) (rest := []) ⟨hx, hb, hml, hown, hT⟩ (c_X3_demand l hlt x1 1 100) (va_cwS 3 hT (dk_gS mw_254 mw_255 mw_23 mw_256) rfl rfl rfl (by decide +kernel) ⟨Nat.le_of_ble_eq_true rfl, Nat.le_of_ble_eq_true rfl⟩) (dk_preD hE hS hA) rfl rfl hl.1 rfl (lv_room (Nat.le_of_ble_eq_true rfl)) dX3_duct_16 ⟨Nat.le_of_ble_eq_true rfl, Nat.le_of_ble_eq_true rfl⟩) (fun ce q9 H1 hc hz hk h1 h2 h3 => hthr dk_IAE ce q9 H1 _ _ _ _ _ _ (Or.inl ⟨rfl, by unfold dk_kDuct; rw [if_neg hd_9, if_pos hc]⟩) (hP.kept (fun k q hq => hk q.1 (hP k q hq).lt)) hD ⟨Nat.le_trans hS.1 hz, fun q h1 h2 => (hk q (Nat.lt_of_lt_of_le h1 hS.1)).trans (hS.2.1 q h1 h2), hS.2.2⟩ h1 h2 h3 (Nat.le_of_ble_eq_true rfl) (Nat.le_of_ble_eq_true rfl)) (fun hd_16 => ?_)
  refine lv_iload_n hx hb dX3_duct_19 rfl (lv_at hl 3 rfl) ?_
  refine lv_iconst (v := 0) hx hb dX3_duct_20 (by decide) ?_
  refine lv_bipush (v := 50) hx hb dX3_duct_21 (by decide) ?_
  refine dk_xdem (vx_runS (As := [.int x2, .int 0, .int 50]) (rest := []) ⟨hx, hb, hml, hown, hT⟩ (c_X3_demand l hlt x2 0 50) (va_cwS 3 hT (dk_gS mw_254 mw_255 mw_23 mw_256) rfl rfl rfl (by decide +kernel) ⟨Nat.le_of_ble_eq_true rfl, Nat.le_of_ble_eq_true rfl⟩) (dk_preD hE hS hA) rfl rfl hl.1 rfl (lv_room (Nat.le_of_ble_eq_true rfl)) dX3_duct_23 ⟨Nat.le_of_ble_eq_true rfl, Nat.le_of_ble_eq_true rfl⟩) (fun ce q9 H1 hc hz hk h1 h2 h3 => hthr dk_IAE ce q9 H1 _ _ _ _ _ _ (Or.inl ⟨rfl, by unfold dk_kDuct; rw [if_neg hd_9, if_neg hd_16, if_pos hc]⟩) (hP.kept (fun k q hq => hk q.1 (hP k q hq).lt)) hD ⟨Nat.le_trans hS.1 hz, fun q h1 h2 => (hk q (Nat.lt_of_lt_of_le h1 hS.1)).trans (hS.2.1 q h1 h2), hS.2.2⟩ h1 h2 h3 (Nat.le_of_ble_eq_true rfl) (Nat.le_of_ble_eq_true rfl)) (fun hd_23 => ?_)
  refine lv_aload_n hx hb dX3_duct_26 rfl (lv_at hl 0 rfl) ?_
  refine va_get (D := (dC, dI)) (ci := 3) (v := .ref (aN 0)) (C := RX3) (T := TX3) (N := 6) hx hb hT in_X3 hown hK hP 0 rfl rfl 0 (by decide) (hT _ mw_152) (fun _ h9 => h9) rfl dX3_duct_27 ?_
  refine va_get (D := (dC, dI)) (ci := 1) (v := .int (nI d)) (C := RX1) (T := TX1) (N := 10) hx hb hT in_X1 hown hK hP 1 rfl rfl 5 (by decide) (hT _ mw_58) (fun _ h9 => h9) rfl dX3_duct_30 ?_
  refine lv_bipush (v := 6) hx hb dX3_duct_33 (by decide) ?_
  refine lv_icmp_lt (tgt := 48) hx hb dX3_duct_35 (by decide) (fun c_35 => ?_) (fun c_35 => ?_)
  · refine lv_aload_n hx hb dX3_duct_48 rfl (lv_at hl 0 rfl) ?_
    refine lv_iconst (v := 1) hx hb dX3_duct_49 (by decide) ?_
    refine va_put (D := (dC, dI)) (ci := 3) (v := .int 1) (ty := .boolean) (C := RX3) (T := TX3) (N := 6) hx hb hT in_X3 tyX3 tyX3_ok nmX3 hown hK hP hD hS 0 rfl rfl 5 (by decide) (hT _ mw_157) (fun _ h9 => h9) rfl (by decide +kernel) rfl rfl (Nat.le_of_ble_eq_true rfl) dX3_duct_50 (fun H locs hP hD hS => ?_)
    have hP : va_P (dC, dI) vwCl (dk_X cI cII aX (aN 0) cv bs ch ep 1 ++ dk_N cI cII aN fr le fi ne fl (nI d) ar pr sz sp) H := hP
    have hD : va_D A (dk_X cI cII aX (aN 0) cv bs ch ep 1 ++ dk_N cI cII aN fr le fi ne fl (nI d) ar pr sz sp) := hD
    refine lv_aload_n hx hb dX3_duct_53 rfl (lv_at hl 0 rfl) ?_
    refine va_get (D := (dC, dI)) (ci := 3) (v := .ref (aN 0)) (C := RX3) (T := TX3) (N := 6) hx hb hT in_X3 hown hK hP 0 rfl rfl 0 (by decide) (hT _ mw_152) (fun _ h9 => h9) rfl dX3_duct_54 ?_
    refine lv_iload_n hx hb dX3_duct_57 rfl (lv_at hl 1 rfl) ?_
    refine lv_iload_n hx hb dX3_duct_58 rfl (lv_at hl 2 rfl) ?_
    refine lv_iload_n hx hb dX3_duct_59 rfl (lv_at hl 3 rfl) ?_
    refine dk_calli (wr := dk_X cI cII aX (aN 0) cv bs ch ep 1) (va_runV (As := [.int x0, .int x1, .int x2]) (rest := []) ⟨hx, hb, hml, hown, hT⟩ (c_X1_addDuct l dC dI cI cII aN fr le fi ne fl ar pr sz sp d x0 x1 x2 _ ((nI_ltI (by omega) (by omega)).mp c_35)) (cwV 3 hT (dk_gV mw_340 mw_341 mw_342 mw_24 mw_343) rfl rfl rfl (by decide +kernel) ⟨(Nat.le_of_ble_eq_true rfl), (Nat.le_of_ble_eq_true rfl)⟩) (dk_preV hK hP hD [1, 2, 3, 4, 5, 6, 7, 8] rfl rfl (q0 := 1) (ci := 1) rfl rfl) rfl rfl hl.1 rfl (lv_room (Nat.le_of_ble_eq_true rfl)) dX3_duct_60 ⟨Nat.le_of_ble_eq_true rfl, Nat.le_of_ble_eq_true rfl⟩) hP hD hS hA [1, 2, 3, 4, 5, 6, 7, 8] [0] rfl rfl rfl (by decide) (fun r9 _ H locs h9 hP hD hS => ?_)
    subst h9
    have hP : va_P (dC, dI) vwCl (dk_X cI cII aX (aN 0) cv bs ch ep 1 ++ dk_N cI cII aN (upd fr (d + 1) x0) (upd le (d + 1) x1) (upd fi (d + 1) x2) ne fl (nI (d + 1)) ar pr sz sp) H := hP
    have hD : va_D A (dk_X cI cII aX (aN 0) cv bs ch ep 1 ++ dk_N cI cII aN (upd fr (d + 1) x0) (upd le (d + 1) x1) (upd fi (d + 1) x2) ne fl (nI (d + 1)) ar pr sz sp) := hD
    refine W.widen (k := 4) (n := 24) (Nat.le_of_ble_eq_true rfl) (Nat.le_of_ble_eq_true rfl) ?_
    exact hret _ () _ _ _ _ ⟨(by unfold dk_kDuct; rw [if_neg hd_9, if_neg hd_16, if_neg hd_23, if_pos c_35]), rfl⟩ hP hD hS dX3_duct_63
  · subst hQ
    obtain ⟨sa, hsa⟩ := hE.2.2.1 (52, "there are all the ducts that there can be") (by decide +kernel)
    exact vx_throwS (own := RX3) (cls := dk_ISE) (names := dk_ups) (A := A) hx hb hlt hown (by decide +kernel) (by decide +kernel) (hT _ mw_324) (hT _ mw_32) hsa (vx_hat (L := vx_atS RX3 54 dk_ISE dk_ups) (B := dk_badS) (fun w hw => hT w ((by decide +kernel : ∀ w ∈ (vx_atS RX3 54 dk_ISE dk_ups).filter goodWord, w ∈ dk_tbl) w hw)) (by decide +kernel) (fun w hw => va_Nw.use ((by decide +kernel : ∀ w ∈ dk_badS, w.onTables = true) w hw) (hE.2.2.2 w ((by decide +kernel : ∀ w ∈ dk_badS, w ∈ dk_badA ++ dk_badS) w hw)))) (by decide +kernel) hE.1 hE.2.1 hS (hl.1.trans hml.symm) dX3_duct_38 dX3_duct_41 dX3_duct_42 dX3_duct_44 dX3_duct_47 (fun x hx => (hno x hx).elim) (Nat.le_of_ble_eq_true rfl) (Nat.le_of_ble_eq_true rfl) (Nat.le_of_ble_eq_true rfl) (Nat.le_of_ble_eq_true rfl) hlocks (fun t ha hsz hk => ⟨dk_ISE, (Or.inr ⟨rfl, (by unfold dk_kDuct; rw [if_neg hd_9, if_neg hd_16, if_neg hd_23, if_neg c_35])⟩), ⟨rfl, hP.kept (fun k q hq => hk q.1 (hP k q hq).lt), va_K.moved ha hK, hD⟩, Nat.le_trans hS.1 hsz, fun q h1 h2 => (hk q (Nat.lt_of_lt_of_le h1 hS.1)).trans (hS.2.1 q h1 h2)⟩) hS.2.2 (Nat.le_of_ble_eq_true rfl) (Nat.le_of_ble_eq_true rfl)
end
section
set_option maxHeartbeats 4000000 in
set_option maxRecDepth 100000 in
/-- need -/
theorem c_X3_need (l : Launch) (hlt : l.stackTraces = false) (dC : Nat → ClassId) (dI : Nat → Nat → Nat) (cI cII : ClassId) (aX : Nat → Nat) (cv : Nat) (bs : Nat) (ch : Nat) (ep : Int32) (ol : Int32) (aN : Nat → Nat) (fr : Nat → Int32) (le : Nat → Int32) (fi : Nat → Int32) (ne : Nat → Int32) (fl : Nat → Int32) (ar : Nat → Int32) (pr : Nat → Int32) (sz : Int32) (sp : Int32) (d : Nat) (x0 : Int32) (x1 : Int32) (hz : Nat) (h1 : d ≤ 6) (h2 : ∀ k, k < 7 → vp_in (fr k) 7) : dk_Xi l yX3_need wsX3_need ({ frames := 7, cells := 2, slots := 12, locals := 104 }) (dC, dI) (dk_T cI cII) [.ref (aX 0), .int x0, .int x1] (dk_X cI cII aX (aN 0) cv bs ch ep ol ++ dk_N cI cII aN fr le fi ne fl (nI d) ar pr sz sp) hz (fun (r : Int32) (_ : Unit) => dk_kNeed d x0 x1 = 0 ∧ r = (ne x0.toNatClampNeg)) (fun _ => dk_X cI cII aX (aN 0) cv bs ch ep 1 ++ dk_N cI cII aN fr le fi (upd ne x0.toNatClampNeg x1) (dk_up fr d (dk_cpL (upd ne x0.toNatClampNeg x1) (d + 1) 0 fl)) (nI d) ar pr sz sp) (dk_px (dk_kNeed d x0 x1)) 2 12 := by
  refine dk_ofXi (cc := cX3_need) (maxL := 3) (by decide) rfl (Nat.le_of_ble_eq_true rfl) ?_
  intro p e s m args below meth c A ls Q ⟨hx, hb, hml, hts, hown, hnm⟩ hlocks hno hsz hK hP hD hA hS hl hE hQ hret hthr
  have hT : ∀ w ∈ dk_tbl, w.before args s = true := fun w h => hts w (List.mem_cons_of_mem _ h)
  have hown : s.vm.findClass RX3 = some m.cls := hown
  have hl : lv_has ls 3 [(0, .ref (aX 0)), (1, .int x0), (2, .int x1)] := hl
  refine lv_iload_n hx hb dX3_need_0 rfl (lv_at hl 1 rfl) ?_
  refine lv_iconst (v := 1) hx hb dX3_need_1 (by decide) ?_
  refine lv_aload_n hx hb dX3_need_2 rfl (lv_at hl 0 rfl) ?_
  refine va_get (D := (dC, dI)) (ci := 3) (v := .ref (aN 0)) (C := RX3) (T := TX3) (N := 6) hx hb hT in_X3 hown hK hP 0 rfl rfl 0 (by decide) (hT _ mw_152) (fun _ h9 => h9) rfl dX3_need_3 ?_
  refine va_get (D := (dC, dI)) (ci := 1) (v := .int (nI d)) (C := RX1) (T := TX1) (N := 10) hx hb hT in_X1 hown hK hP 1 rfl rfl 5 (by decide) (hT _ mw_58) (fun _ h9 => h9) rfl dX3_need_6 ?_
  refine dk_xdem (vx_runS (As := [.int x0, .int 1, .int (nI d)]) (rest := []) ⟨hx, hb, hml, hown, hT⟩ (c_X3_demand l hlt x0 1 (nI d)) (va_cwS 3 hT (dk_gS mw_254 mw_255 mw_23 mw_256) rfl rfl rfl (by decide +kernel) ⟨Nat.le_of_ble_eq_true rfl, Nat.le_of_ble_eq_true rfl⟩) (dk_preD hE hS hA) rfl rfl hl.1 rfl (lv_room (Nat.le_of_ble_eq_true rfl)) dX3_need_9 ⟨Nat.le_of_ble_eq_true rfl, Nat.le_of_ble_eq_true rfl⟩) (fun ce q9 H1 hc hz hk h1 h2 h3 => hthr dk_IAE ce q9 H1 _ _ _ _ _ _ (Or.inl ⟨rfl, by unfold dk_kNeed; rw [if_pos hc]⟩) (hP.kept (fun k q hq => hk q.1 (hP k q hq).lt)) hD ⟨Nat.le_trans hS.1 hz, fun q h1 h2 => (hk q (Nat.lt_of_lt_of_le h1 hS.1)).trans (hS.2.1 q h1 h2), hS.2.2⟩ h1 h2 h3 (Nat.le_of_ble_eq_true rfl) (Nat.le_of_ble_eq_true rfl)) (fun hd_9 => ?_)
  obtain ⟨j, hj1, hj2, rfl⟩ := dk_of (lo := 1) hd_9 rfl (by omega) (by omega)
  simp only [nI_clamp (show j < 2 ^ 31 by omega)] at hret
  refine lv_iload_n hx hb dX3_need_12 rfl (lv_at hl 2 rfl) ?_
  refine lv_iconst (v := 0) hx hb dX3_need_13 (by decide) ?_
  refine lv_sipush (v := 1000) hx hb dX3_need_14 (by decide) ?_
  refine dk_xdem (vx_runS (As := [.int x1, .int 0, .int 1000]) (rest := []) ⟨hx, hb, hml, hown, hT⟩ (c_X3_demand l hlt x1 0 1000) (va_cwS 3 hT (dk_gS mw_254 mw_255 mw_23 mw_256) rfl rfl rfl (by decide +kernel) ⟨Nat.le_of_ble_eq_true rfl, Nat.le_of_ble_eq_true rfl⟩) (dk_preD hE hS hA) rfl rfl hl.1 rfl (lv_room (Nat.le_of_ble_eq_true rfl)) dX3_need_17 ⟨Nat.le_of_ble_eq_true rfl, Nat.le_of_ble_eq_true rfl⟩) (fun ce q9 H1 hc hz hk h1 h2 h3 => hthr dk_IAE ce q9 H1 _ _ _ _ _ _ (Or.inl ⟨rfl, by unfold dk_kNeed; rw [if_neg hd_9, if_pos hc]⟩) (hP.kept (fun k q hq => hk q.1 (hP k q hq).lt)) hD ⟨Nat.le_trans hS.1 hz, fun q h1 h2 => (hk q (Nat.lt_of_lt_of_le h1 hS.1)).trans (hS.2.1 q h1 h2), hS.2.2⟩ h1 h2 h3 (Nat.le_of_ble_eq_true rfl) (Nat.le_of_ble_eq_true rfl)) (fun hd_17 => ?_)
  refine lv_aload_n hx hb dX3_need_20 rfl (lv_at hl 0 rfl) ?_
  refine lv_iconst (v := 1) hx hb dX3_need_21 (by decide) ?_
  refine va_put (D := (dC, dI)) (ci := 3) (v := .int 1) (ty := .boolean) (C := RX3) (T := TX3) (N := 6) hx hb hT in_X3 tyX3 tyX3_ok nmX3 hown hK hP hD hS 0 rfl rfl 5 (by decide) (hT _ mw_157) (fun _ h9 => h9) rfl (by decide +kernel) rfl rfl (Nat.le_of_ble_eq_true rfl) dX3_need_22 (fun H locs hP hD hS => ?_)
  have hP : va_P (dC, dI) vwCl (dk_X cI cII aX (aN 0) cv bs ch ep 1 ++ dk_N cI cII aN fr le fi ne fl (nI d) ar pr sz sp) H := hP
  have hD : va_D A (dk_X cI cII aX (aN 0) cv bs ch ep 1 ++ dk_N cI cII aN fr le fi ne fl (nI d) ar pr sz sp) := hD
  refine lv_aload_n hx hb dX3_need_25 rfl (lv_at hl 0 rfl) ?_
  refine va_get (D := (dC, dI)) (ci := 3) (v := .ref (aN 0)) (C := RX3) (T := TX3) (N := 6) hx hb hT in_X3 hown hK hP 0 rfl rfl 0 (by decide) (hT _ mw_152) (fun _ h9 => h9) rfl dX3_need_26 ?_
  refine lv_iload_n hx hb dX3_need_29 rfl (lv_at hl 1 rfl) ?_
  refine lv_iload_n hx hb dX3_need_30 rfl (lv_at hl 2 rfl) ?_
  refine dk_calli (wr := dk_X cI cII aX (aN 0) cv bs ch ep 1) (va_runV (As := [.int (nI j), .int x1]) (rest := []) ⟨hx, hb, hml, hown, hT⟩ (c_X1_changeNeed l dC dI cI cII aN fr le fi ne fl ar pr sz sp d j x1 _ (by omega) h2 (by omega)) (cwV 2 hT (dk_gV mw_351 mw_352 mw_353 mw_24 mw_354) rfl rfl rfl (by decide +kernel) ⟨(Nat.le_of_ble_eq_true rfl), (Nat.le_of_ble_eq_true rfl)⟩) (dk_preV hK hP hD [1, 2, 3, 4, 5, 6, 7, 8] rfl rfl (q0 := 1) (ci := 1) rfl rfl) rfl rfl hl.1 rfl (lv_room (Nat.le_of_ble_eq_true rfl)) dX3_need_31 ⟨Nat.le_of_ble_eq_true rfl, Nat.le_of_ble_eq_true rfl⟩) hP hD hS hA [1, 2, 3, 4, 5, 6, 7, 8] [0] rfl rfl rfl (by decide) (fun r9 _ H locs h9 hP hD hS => ?_)
  subst h9
  have hP : va_P (dC, dI) vwCl (dk_X cI cII aX (aN 0) cv bs ch ep 1 ++ dk_N cI cII aN fr le fi (upd ne j x1) (dk_up fr d (dk_cpL (upd ne j x1) (d + 1) 0 fl)) (nI d) ar pr sz sp) H := hP
  have hD : va_D A (dk_X cI cII aX (aN 0) cv bs ch ep 1 ++ dk_N cI cII aN fr le fi (upd ne j x1) (dk_up fr d (dk_cpL (upd ne j x1) (d + 1) 0 fl)) (nI d) ar pr sz sp) := hD
  refine W.widen (k := 2) (n := 12) (Nat.le_of_ble_eq_true rfl) (Nat.le_of_ble_eq_true rfl) ?_
  exact hret _ () _ _ _ _ ⟨(by unfold dk_kNeed; rw [if_neg hd_9, if_neg hd_17]), rfl⟩ hP hD hS dX3_need_34
end
section
set_option maxHeartbeats 4000000 in
set_option maxRecDepth 100000 in
/-- size -/
theorem c_X3_size (l : Launch) (hlt : l.stackTraces = false) (dC : Nat → ClassId) (dI : Nat → Nat → Nat) (cI cII : ClassId) (aX : Nat → Nat) (cv : Nat) (bs : Nat) (ch : Nat) (ep : Int32) (ol : Int32) (aN : Nat → Nat) (fr : Nat → Int32) (le : Nat → Int32) (fi : Nat → Int32) (ne : Nat → Int32) (fl : Nat → Int32) (du : Int32) (ar : Nat → Int32) (pr : Nat → Int32) (sp : Int32) (z : Nat) (x0 : Int32) (x1 : Int32) (hz : Nat) (h1 : z ≤ 4) : dk_Xi l yX3_size wsX3_size ({ frames := 7, cells := 3, slots := 18, locals := 104 }) (dC, dI) (dk_T cI cII) [.ref (aX 0), .int x0, .int x1] (dk_X cI cII aX (aN 0) cv bs ch ep ol ++ dk_N cI cII aN fr le fi ne fl du ar pr (nI z) sp) hz (fun (r : Int32) (_ : Unit) => dk_kSize z x0 x1 = 0 ∧ r = (nI z)) (fun _ => dk_X cI cII aX (aN 0) cv bs ch ep 1 ++ dk_N cI cII aN fr le fi ne fl du (upd ar z x0) (upd pr z x1) (nI (z + 1)) sp) (dk_px (dk_kSize z x0 x1)) 3 18 := by
  refine dk_ofXi (cc := cX3_size) (maxL := 3) (by decide) rfl (Nat.le_of_ble_eq_true rfl) ?_
  intro p e s m args below meth c A ls Q ⟨hx, hb, hml, hts, hown, hnm⟩ hlocks hno hsz hK hP hD hA hS hl hE hQ hret hthr
  have hT : ∀ w ∈ dk_tbl, w.before args s = true := fun w h => hts w (List.mem_cons_of_mem _ h)
  have hown : s.vm.findClass RX3 = some m.cls := hown
  have hl : lv_has ls 3 [(0, .ref (aX 0)), (1, .int x0), (2, .int x1)] := hl
  refine lv_iload_n hx hb dX3_size_0 rfl (lv_at hl 1 rfl) ?_
  refine lv_iconst (v := 1) hx hb dX3_size_1 (by decide) ?_
  refine lv_sipush (v := 1000) hx hb dX3_size_2 (by decide) ?_
  refine dk_xdem (vx_runS (As := [.int x0, .int 1, .int 1000]) (rest := []) ⟨hx, hb, hml, hown, hT⟩ (c_X3_demand l hlt x0 1 1000) (va_cwS 3 hT (dk_gS mw_254 mw_255 mw_23 mw_256) rfl rfl rfl (by decide +kernel) ⟨Nat.le_of_ble_eq_true rfl, Nat.le_of_ble_eq_true rfl⟩) (dk_preD hE hS hA) rfl rfl hl.1 rfl (lv_room (Nat.le_of_ble_eq_true rfl)) dX3_size_5 ⟨Nat.le_of_ble_eq_true rfl, Nat.le_of_ble_eq_true rfl⟩) (fun ce q9 H1 hc hz hk h1 h2 h3 => hthr dk_IAE ce q9 H1 _ _ _ _ _ _ (Or.inl ⟨rfl, by unfold dk_kSize; rw [if_pos hc]⟩) (hP.kept (fun k q hq => hk q.1 (hP k q hq).lt)) hD ⟨Nat.le_trans hS.1 hz, fun q h1 h2 => (hk q (Nat.lt_of_lt_of_le h1 hS.1)).trans (hS.2.1 q h1 h2), hS.2.2⟩ h1 h2 h3 (Nat.le_of_ble_eq_true rfl) (Nat.le_of_ble_eq_true rfl)) (fun hd_5 => ?_)
  refine lv_iload_n hx hb dX3_size_8 rfl (lv_at hl 2 rfl) ?_
  refine lv_iconst (v := 1) hx hb dX3_size_9 (by decide) ?_
  refine lv_sipush (v := 1000) hx hb dX3_size_10 (by decide) ?_
  refine dk_xdem (vx_runS (As := [.int x1, .int 1, .int 1000]) (rest := []) ⟨hx, hb, hml, hown, hT⟩ (c_X3_demand l hlt x1 1 1000) (va_cwS 3 hT (dk_gS mw_254 mw_255 mw_23 mw_256) rfl rfl rfl (by decide +kernel) ⟨Nat.le_of_ble_eq_true rfl, Nat.le_of_ble_eq_true rfl⟩) (dk_preD hE hS hA) rfl rfl hl.1 rfl (lv_room (Nat.le_of_ble_eq_true rfl)) dX3_size_13 ⟨Nat.le_of_ble_eq_true rfl, Nat.le_of_ble_eq_true rfl⟩) (fun ce q9 H1 hc hz hk h1 h2 h3 => hthr dk_IAE ce q9 H1 _ _ _ _ _ _ (Or.inl ⟨rfl, by unfold dk_kSize; rw [if_neg hd_5, if_pos hc]⟩) (hP.kept (fun k q hq => hk q.1 (hP k q hq).lt)) hD ⟨Nat.le_trans hS.1 hz, fun q h1 h2 => (hk q (Nat.lt_of_lt_of_le h1 hS.1)).trans (hS.2.1 q h1 h2), hS.2.2⟩ h1 h2 h3 (Nat.le_of_ble_eq_true rfl) (Nat.le_of_ble_eq_true rfl)) (fun hd_13 => ?_)
  refine lv_aload_n hx hb dX3_size_16 rfl (lv_at hl 0 rfl) ?_
  refine va_get (D := (dC, dI)) (ci := 3) (v := .ref (aN 0)) (C := RX3) (T := TX3) (N := 6) hx hb hT in_X3 hown hK hP 0 rfl rfl 0 (by decide) (hT _ mw_152) (fun _ h9 => h9) rfl dX3_size_17 ?_
  refine va_get (D := (dC, dI)) (ci := 1) (v := .int (nI z)) (C := RX1) (T := TX1) (N := 10) hx hb hT in_X1 hown hK hP 1 rfl rfl 8 (by decide) (hT _ mw_63) (fun _ h9 => h9) rfl dX3_size_20 ?_
  refine lv_iconst (v := 4) hx hb dX3_size_23 (by decide) ?_
  refine lv_icmp_lt (tgt := 37) hx hb dX3_size_24 (by decide) (fun c_24 => ?_) (fun c_24 => ?_)
  · refine lv_aload_n hx hb dX3_size_37 rfl (lv_at hl 0 rfl) ?_
    refine lv_iconst (v := 1) hx hb dX3_size_38 (by decide) ?_
    refine va_put (D := (dC, dI)) (ci := 3) (v := .int 1) (ty := .boolean) (C := RX3) (T := TX3) (N := 6) hx hb hT in_X3 tyX3 tyX3_ok nmX3 hown hK hP hD hS 0 rfl rfl 5 (by decide) (hT _ mw_157) (fun _ h9 => h9) rfl (by decide +kernel) rfl rfl (Nat.le_of_ble_eq_true rfl) dX3_size_39 (fun H locs hP hD hS => ?_)
    have hP : va_P (dC, dI) vwCl (dk_X cI cII aX (aN 0) cv bs ch ep 1 ++ dk_N cI cII aN fr le fi ne fl du ar pr (nI z) sp) H := hP
    have hD : va_D A (dk_X cI cII aX (aN 0) cv bs ch ep 1 ++ dk_N cI cII aN fr le fi ne fl du ar pr (nI z) sp) := hD
    refine lv_aload_n hx hb dX3_size_42 rfl (lv_at hl 0 rfl) ?_
    refine va_get (D := (dC, dI)) (ci := 3) (v := .ref (aN 0)) (C := RX3) (T := TX3) (N := 6) hx hb hT in_X3 hown hK hP 0 rfl rfl 0 (by decide) (hT _ mw_152) (fun _ h9 => h9) rfl dX3_size_43 ?_
    refine lv_iload_n hx hb dX3_size_46 rfl (lv_at hl 1 rfl) ?_
    refine lv_iload_n hx hb dX3_size_47 rfl (lv_at hl 2 rfl) ?_
    refine dk_calli (wr := dk_X cI cII aX (aN 0) cv bs ch ep 1) (va_runV (As := [.int x0, .int x1]) (rest := []) ⟨hx, hb, hml, hown, hT⟩ (c_X1_addSize l dC dI cI cII aN fr le fi ne fl du ar pr sp z x0 x1 _ ((nI_ltI (by omega) (by omega)).mp c_24)) (cwV 2 hT (dk_gV mw_367 mw_368 mw_369 mw_24 mw_370) rfl rfl rfl (by decide +kernel) ⟨(Nat.le_of_ble_eq_true rfl), (Nat.le_of_ble_eq_true rfl)⟩) (dk_preV hK hP hD [1, 2, 3, 4, 5, 6, 7, 8] rfl rfl (q0 := 1) (ci := 1) rfl rfl) rfl rfl hl.1 rfl (lv_room (Nat.le_of_ble_eq_true rfl)) dX3_size_48 ⟨Nat.le_of_ble_eq_true rfl, Nat.le_of_ble_eq_true rfl⟩) hP hD hS hA [1, 2, 3, 4, 5, 6, 7, 8] [0] rfl rfl rfl (by decide) (fun r9 _ H locs h9 hP hD hS => ?_)
    subst h9
    have hP : va_P (dC, dI) vwCl (dk_X cI cII aX (aN 0) cv bs ch ep 1 ++ dk_N cI cII aN fr le fi ne fl du (upd ar z x0) (upd pr z x1) (nI (z + 1)) sp) H := hP
    have hD : va_D A (dk_X cI cII aX (aN 0) cv bs ch ep 1 ++ dk_N cI cII aN fr le fi ne fl du (upd ar z x0) (upd pr z x1) (nI (z + 1)) sp) := hD
    refine W.widen (k := 3) (n := 18) (Nat.le_of_ble_eq_true rfl) (Nat.le_of_ble_eq_true rfl) ?_
    exact hret _ () _ _ _ _ ⟨(by unfold dk_kSize; rw [if_neg hd_5, if_neg hd_13, if_pos c_24]), rfl⟩ hP hD hS dX3_size_51
  · subst hQ
    obtain ⟨sa, hsa⟩ := hE.2.2.1 (68, "there are all the sizes that there can be") (by decide +kernel)
    exact vx_throwS (own := RX3) (cls := dk_ISE) (names := dk_ups) (A := A) hx hb hlt hown (by decide +kernel) (by decide +kernel) (hT _ mw_324) (hT _ mw_32) hsa (vx_hat (L := vx_atS RX3 54 dk_ISE dk_ups) (B := dk_badS) (fun w hw => hT w ((by decide +kernel : ∀ w ∈ (vx_atS RX3 54 dk_ISE dk_ups).filter goodWord, w ∈ dk_tbl) w hw)) (by decide +kernel) (fun w hw => va_Nw.use ((by decide +kernel : ∀ w ∈ dk_badS, w.onTables = true) w hw) (hE.2.2.2 w ((by decide +kernel : ∀ w ∈ dk_badS, w ∈ dk_badA ++ dk_badS) w hw)))) (by decide +kernel) hE.1 hE.2.1 hS (hl.1.trans hml.symm) dX3_size_27 dX3_size_30 dX3_size_31 dX3_size_33 dX3_size_36 (fun x hx => (hno x hx).elim) (Nat.le_of_ble_eq_true rfl) (Nat.le_of_ble_eq_true rfl) (Nat.le_of_ble_eq_true rfl) (Nat.le_of_ble_eq_true rfl) hlocks (fun t ha hsz hk => ⟨dk_ISE, (Or.inr ⟨rfl, (by unfold dk_kSize; rw [if_neg hd_5, if_neg hd_13, if_neg c_24])⟩), ⟨rfl, hP.kept (fun k q hq => hk q.1 (hP k q hq).lt), va_K.moved ha hK, hD⟩, Nat.le_trans hS.1 hsz, fun q h1 h2 => (hk q (Nat.lt_of_lt_of_le h1 hS.1)).trans (hS.2.1 q h1 h2)⟩) hS.2.2 (Nat.le_of_ble_eq_true rfl) (Nat.le_of_ble_eq_true rfl)
end
section
set_option maxHeartbeats 4000000 in
set_option maxRecDepth 100000 in
/-- changeSpeedLimit -/
theorem c_X3_changeSpeedLimit (l : Launch) (hlt : l.stackTraces = false) (dC : Nat → ClassId) (dI : Nat → Nat → Nat) (cI cII : ClassId) (aX : Nat → Nat) (cv : Nat) (bs : Nat) (ch : Nat) (ep : Int32) (ol : Int32) (aN : Nat → Nat) (fr : Nat → Int32) (le : Nat → Int32) (fi : Nat → Int32) (ne : Nat → Int32) (fl : Nat → Int32) (du : Int32) (ar : Nat → Int32) (pr : Nat → Int32) (sz : Int32) (sp : Int32) (x0 : Int32) (hz : Nat) : dk_Xi l yX3_changeSpeedLimit wsX3_changeSpeedLimit ({ frames := 7, cells := 1, slots := 6, locals := 104 }) (dC, dI) (dk_T cI cII) [.ref (aX 0), .int x0] (dk_X cI cII aX (aN 0) cv bs ch ep ol ++ dk_N cI cII aN fr le fi ne fl du ar pr sz sp) hz (fun (r : Int32) (_ : Unit) => dk_kSpeed x0 = 0 ∧ r = sp) (fun _ => dk_X cI cII aX (aN 0) cv bs ch ep 1 ++ dk_N cI cII aN fr le fi ne fl du ar pr sz x0) (dk_px (dk_kSpeed x0)) 1 6 := by
  refine dk_ofXi (cc := cX3_changeSpeedLimit) (maxL := 3) (by decide) rfl (Nat.le_of_ble_eq_true rfl) ?_
  intro p e s m args below meth c A ls Q ⟨hx, hb, hml, hts, hown, hnm⟩ hlocks hno hsz hK hP hD hA hS hl hE hQ hret hthr
  have hT : ∀ w ∈ dk_tbl, w.before args s = true := fun w h => hts w (List.mem_cons_of_mem _ h)
  have hown : s.vm.findClass RX3 = some m.cls := hown
  have hl : lv_has ls 3 [(0, .ref (aX 0)), (1, .int x0)] := hl
  refine lv_iload_n hx hb dX3_changeSpeedLimit_0 rfl (lv_at hl 1 rfl) ?_
  refine lv_iconst (v := 1) hx hb dX3_changeSpeedLimit_1 (by decide) ?_
  refine lv_ldc (v := 100000) hx hb hown (hT _ mw_382) dX3_changeSpeedLimit_2 ?_
  refine dk_xdem (vx_runS (As := [.int x0, .int 1, .int 100000]) (rest := []) ⟨hx, hb, hml, hown, hT⟩ (c_X3_demand l hlt x0 1 100000) (va_cwS 3 hT (dk_gS mw_254 mw_255 mw_23 mw_256) rfl rfl rfl (by decide +kernel) ⟨Nat.le_of_ble_eq_true rfl, Nat.le_of_ble_eq_true rfl⟩) (dk_preD hE hS hA) rfl rfl hl.1 rfl (lv_room (Nat.le_of_ble_eq_true rfl)) dX3_changeSpeedLimit_4 ⟨Nat.le_of_ble_eq_true rfl, Nat.le_of_ble_eq_true rfl⟩) (fun ce q9 H1 hc hz hk h1 h2 h3 => hthr dk_IAE ce q9 H1 _ _ _ _ _ _ (Or.inl ⟨rfl, by unfold dk_kSpeed; rw [if_pos hc]⟩) (hP.kept (fun k q hq => hk q.1 (hP k q hq).lt)) hD ⟨Nat.le_trans hS.1 hz, fun q h1 h2 => (hk q (Nat.lt_of_lt_of_le h1 hS.1)).trans (hS.2.1 q h1 h2), hS.2.2⟩ h1 h2 h3 (Nat.le_of_ble_eq_true rfl) (Nat.le_of_ble_eq_true rfl)) (fun hd_4 => ?_)
  refine lv_aload_n hx hb dX3_changeSpeedLimit_7 rfl (lv_at hl 0 rfl) ?_
  refine va_get (D := (dC, dI)) (ci := 3) (v := .ref (aN 0)) (C := RX3) (T := TX3) (N := 6) hx hb hT in_X3 hown hK hP 0 rfl rfl 0 (by decide) (hT _ mw_152) (fun _ h9 => h9) rfl dX3_changeSpeedLimit_8 ?_
  refine va_get (D := (dC, dI)) (ci := 1) (v := .int sp) (C := RX1) (T := TX1) (N := 10) hx hb hT in_X1 hown hK hP 1 rfl rfl 9 (by decide) (hT _ mw_66) (fun _ h9 => h9) rfl dX3_changeSpeedLimit_11 ?_
  refine lv_istore_n (lv' := [(2, .int sp), (0, .ref (aX 0)), (1, .int x0)]) hx hb dX3_changeSpeedLimit_14 rfl hl (by decide) rfl (fun ls hl => ?_)
  refine lv_aload_n hx hb dX3_changeSpeedLimit_15 rfl (lv_at hl 1 rfl) ?_
  refine va_get (D := (dC, dI)) (ci := 3) (v := .ref (aN 0)) (C := RX3) (T := TX3) (N := 6) hx hb hT in_X3 hown hK hP 0 rfl rfl 0 (by decide) (hT _ mw_152) (fun _ h9 => h9) rfl dX3_changeSpeedLimit_16 ?_
  refine lv_iload_n hx hb dX3_changeSpeedLimit_19 rfl (lv_at hl 2 rfl) ?_
  refine va_put (D := (dC, dI)) (ci := 1) (v := .int x0) (ty := .int) (C := RX1) (T := TX1) (N := 10) hx hb hT in_X1 tyX1 tyX1_ok nmX1 hown hK hP hD hS 1 rfl rfl 9 (by decide) (hT _ mw_66) (fun _ h9 => h9) rfl (by decide +kernel) rfl rfl (Nat.le_of_ble_eq_true rfl) dX3_changeSpeedLimit_20 (fun H locs hP hD hS => ?_)
  have hP : va_P (dC, dI) vwCl (dk_X cI cII aX (aN 0) cv bs ch ep ol ++ dk_N cI cII aN fr le fi ne fl du ar pr sz x0) H := hP
  have hD : va_D A (dk_X cI cII aX (aN 0) cv bs ch ep ol ++ dk_N cI cII aN fr le fi ne fl du ar pr sz x0) := hD
  refine lv_aload_n hx hb dX3_changeSpeedLimit_23 rfl (lv_at hl 1 rfl) ?_
  refine lv_iconst (v := 1) hx hb dX3_changeSpeedLimit_24 (by decide) ?_
  refine va_put (D := (dC, dI)) (ci := 3) (v := .int 1) (ty := .boolean) (C := RX3) (T := TX3) (N := 6) hx hb hT in_X3 tyX3 tyX3_ok nmX3 hown hK hP hD hS 0 rfl rfl 5 (by decide) (hT _ mw_157) (fun _ h9 => h9) rfl (by decide +kernel) rfl rfl (Nat.le_of_ble_eq_true rfl) dX3_changeSpeedLimit_25 (fun H locs hP hD hS => ?_)
  have hP : va_P (dC, dI) vwCl (dk_X cI cII aX (aN 0) cv bs ch ep 1 ++ dk_N cI cII aN fr le fi ne fl du ar pr sz x0) H := hP
  have hD : va_D A (dk_X cI cII aX (aN 0) cv bs ch ep 1 ++ dk_N cI cII aN fr le fi ne fl du ar pr sz x0) := hD
  refine lv_iload_n hx hb dX3_changeSpeedLimit_28 rfl (lv_at hl 0 rfl) ?_
  refine W.widen (k := 1) (n := 6) (Nat.le_of_ble_eq_true rfl) (Nat.le_of_ble_eq_true rfl) ?_
  exact hret _ () _ _ _ _ ⟨(by unfold dk_kSpeed; rw [if_neg hd_4]), rfl⟩ hP hD hS dX3_changeSpeedLimit_29
end
section
set_option maxHeartbeats 4000000 in
set_option maxRecDepth 100000 in
/-- changeEnergyPrice -/
theorem c_X3_changeEnergyPrice (l : Launch) (hlt : l.stackTraces = false) (dC : Nat → ClassId) (dI : Nat → Nat → Nat) (cI cII : ClassId) (aX : Nat → Nat) (cv : Nat) (bs : Nat) (ch : Nat) (ep : Int32) (ol : Int32) (aN : Nat → Nat) (fr : Nat → Int32) (le : Nat → Int32) (fi : Nat → Int32) (ne : Nat → Int32) (fl : Nat → Int32) (du : Int32) (ar : Nat → Int32) (pr : Nat → Int32) (sz : Int32) (sp : Int32) (x0 : Int32) (hz : Nat) : dk_Xi l yX3_changeEnergyPrice wsX3_changeEnergyPrice ({ frames := 7, cells := 1, slots := 6, locals := 104 }) (dC, dI) (dk_T cI cII) [.ref (aX 0), .int x0] (dk_X cI cII aX (aN 0) cv bs ch ep ol ++ dk_N cI cII aN fr le fi ne fl du ar pr sz sp) hz (fun (r : Int32) (_ : Unit) => dk_kEnergy x0 = 0 ∧ r = ep) (fun _ => dk_X cI cII aX (aN 0) cv bs ch x0 1 ++ dk_N cI cII aN fr le fi ne fl du ar pr sz sp) (dk_px (dk_kEnergy x0)) 1 6 := by
  refine dk_ofXi (cc := cX3_changeEnergyPrice) (maxL := 3) (by decide) rfl (Nat.le_of_ble_eq_true rfl) ?_
  intro p e s m args below meth c A ls Q ⟨hx, hb, hml, hts, hown, hnm⟩ hlocks hno hsz hK hP hD hA hS hl hE hQ hret hthr
  have hT : ∀ w ∈ dk_tbl, w.before args s = true := fun w h => hts w (List.mem_cons_of_mem _ h)
  have hown : s.vm.findClass RX3 = some m.cls := hown
  have hl : lv_has ls 3 [(0, .ref (aX 0)), (1, .int x0)] := hl
  refine lv_iload_n hx hb dX3_changeEnergyPrice_0 rfl (lv_at hl 1 rfl) ?_
  refine lv_iconst (v := 0) hx hb dX3_changeEnergyPrice_1 (by decide) ?_
  refine lv_sipush (v := 1000) hx hb dX3_changeEnergyPrice_2 (by decide) ?_
  refine dk_xdem (vx_runS (As := [.int x0, .int 0, .int 1000]) (rest := []) ⟨hx, hb, hml, hown, hT⟩ (c_X3_demand l hlt x0 0 1000) (va_cwS 3 hT (dk_gS mw_254 mw_255 mw_23 mw_256) rfl rfl rfl (by decide +kernel) ⟨Nat.le_of_ble_eq_true rfl, Nat.le_of_ble_eq_true rfl⟩) (dk_preD hE hS hA) rfl rfl hl.1 rfl (lv_room (Nat.le_of_ble_eq_true rfl)) dX3_changeEnergyPrice_5 ⟨Nat.le_of_ble_eq_true rfl, Nat.le_of_ble_eq_true rfl⟩) (fun ce q9 H1 hc hz hk h1 h2 h3 => hthr dk_IAE ce q9 H1 _ _ _ _ _ _ (Or.inl ⟨rfl, by unfold dk_kEnergy; rw [if_pos hc]⟩) (hP.kept (fun k q hq => hk q.1 (hP k q hq).lt)) hD ⟨Nat.le_trans hS.1 hz, fun q h1 h2 => (hk q (Nat.lt_of_lt_of_le h1 hS.1)).trans (hS.2.1 q h1 h2), hS.2.2⟩ h1 h2 h3 (Nat.le_of_ble_eq_true rfl) (Nat.le_of_ble_eq_true rfl)) (fun hd_5 => ?_)
  refine lv_aload_n hx hb dX3_changeEnergyPrice_8 rfl (lv_at hl 0 rfl) ?_
  refine va_get (D := (dC, dI)) (ci := 3) (v := .int ep) (C := RX3) (T := TX3) (N := 6) hx hb hT in_X3 hown hK hP 0 rfl rfl 4 (by decide) (hT _ mw_156) (fun _ h9 => h9) rfl dX3_changeEnergyPrice_9 ?_
  refine lv_istore_n (lv' := [(2, .int ep), (0, .ref (aX 0)), (1, .int x0)]) hx hb dX3_changeEnergyPrice_12 rfl hl (by decide) rfl (fun ls hl => ?_)
  refine lv_aload_n hx hb dX3_changeEnergyPrice_13 rfl (lv_at hl 1 rfl) ?_
  refine lv_iload_n hx hb dX3_changeEnergyPrice_14 rfl (lv_at hl 2 rfl) ?_
  refine va_put (D := (dC, dI)) (ci := 3) (v := .int x0) (ty := .int) (C := RX3) (T := TX3) (N := 6) hx hb hT in_X3 tyX3 tyX3_ok nmX3 hown hK hP hD hS 0 rfl rfl 4 (by decide) (hT _ mw_156) (fun _ h9 => h9) rfl (by decide +kernel) rfl rfl (Nat.le_of_ble_eq_true rfl) dX3_changeEnergyPrice_15 (fun H locs hP hD hS => ?_)
  have hP : va_P (dC, dI) vwCl (dk_X cI cII aX (aN 0) cv bs ch x0 ol ++ dk_N cI cII aN fr le fi ne fl du ar pr sz sp) H := hP
  have hD : va_D A (dk_X cI cII aX (aN 0) cv bs ch x0 ol ++ dk_N cI cII aN fr le fi ne fl du ar pr sz sp) := hD
  refine lv_aload_n hx hb dX3_changeEnergyPrice_18 rfl (lv_at hl 1 rfl) ?_
  refine lv_iconst (v := 1) hx hb dX3_changeEnergyPrice_19 (by decide) ?_
  refine va_put (D := (dC, dI)) (ci := 3) (v := .int 1) (ty := .boolean) (C := RX3) (T := TX3) (N := 6) hx hb hT in_X3 tyX3 tyX3_ok nmX3 hown hK hP hD hS 0 rfl rfl 5 (by decide) (hT _ mw_157) (fun _ h9 => h9) rfl (by decide +kernel) rfl rfl (Nat.le_of_ble_eq_true rfl) dX3_changeEnergyPrice_20 (fun H locs hP hD hS => ?_)
  have hP : va_P (dC, dI) vwCl (dk_X cI cII aX (aN 0) cv bs ch x0 1 ++ dk_N cI cII aN fr le fi ne fl du ar pr sz sp) H := hP
  have hD : va_D A (dk_X cI cII aX (aN 0) cv bs ch x0 1 ++ dk_N cI cII aN fr le fi ne fl du ar pr sz sp) := hD
  refine lv_iload_n hx hb dX3_changeEnergyPrice_23 rfl (lv_at hl 0 rfl) ?_
  refine W.widen (k := 1) (n := 6) (Nat.le_of_ble_eq_true rfl) (Nat.le_of_ble_eq_true rfl) ?_
  exact hret _ () _ _ _ _ ⟨(by unfold dk_kEnergy; rw [if_neg hd_5]), rfl⟩ hP hD hS dX3_changeEnergyPrice_24
end
section
set_option maxHeartbeats 4000000 in
set_option maxRecDepth 100000 in
/-- set -/
theorem c_X3_set (l : Launch) (hlt : l.stackTraces = false) (dC : Nat → ClassId) (dI : Nat → Nat → Nat) (cI cII : ClassId) (aX : Nat → Nat) (cv : Nat) (bs : Nat) (ch : Nat) (ep : Int32) (ol : Int32) (aN : Nat → Nat) (fr : Nat → Int32) (le : Nat → Int32) (fi : Nat → Int32) (ne : Nat → Int32) (fl : Nat → Int32) (du : Int32) (ar : Nat → Int32) (pr : Nat → Int32) (sz : Int32) (sp : Int32) (x0 : Int32) (x1 : Int32) (hz : Nat) : dk_Xi l yX3_set wsX3_set ({ frames := 8, cells := 2, slots := 12, locals := 126 }) (dC, dI) (dk_T cI cII) [.ref (aX 0), .int x0, .int x1] (dk_X cI cII aX (aN 0) cv bs ch ep ol ++ dk_N cI cII aN fr le fi ne fl du ar pr sz sp) hz (fun (r : Int32) (_ : Unit) => dk_kSet x0 x1 = 0 ∧ r = (if x0 = 0 then sp else ep)) (fun _ => dk_X cI cII aX (aN 0) cv bs ch (if x0 = 0 then ep else x1) 1 ++ dk_N cI cII aN fr le fi ne fl du ar pr sz (if x0 = 0 then x1 else sp)) (dk_px (dk_kSet x0 x1)) 2 12 := by
  refine dk_ofXi (cc := cX3_set) (maxL := 3) (by decide) rfl (Nat.le_of_ble_eq_true rfl) ?_
  intro p e s m args below meth c A ls Q ⟨hx, hb, hml, hts, hown, hnm⟩ hlocks hno hsz hK hP hD hA hS hl hE hQ hret hthr
  have hT : ∀ w ∈ dk_tbl, w.before args s = true := fun w h => hts w (List.mem_cons_of_mem _ h)
  have hown : s.vm.findClass RX3 = some m.cls := hown
  have hl : lv_has ls 3 [(0, .ref (aX 0)), (1, .int x0), (2, .int x1)] := hl
  refine lv_iload_n hx hb dX3_set_0 rfl (lv_at hl 1 rfl) ?_
  refine lv_iconst (v := 0) hx hb dX3_set_1 (by decide) ?_
  refine lv_iconst (v := 1) hx hb dX3_set_2 (by decide) ?_
  refine dk_xdem (vx_runS (As := [.int x0, .int 0, .int 1]) (rest := []) ⟨hx, hb, hml, hown, hT⟩ (c_X3_demand l hlt x0 0 1) (va_cwS 3 hT (dk_gS mw_254 mw_255 mw_23 mw_256) rfl rfl rfl (by decide +kernel) ⟨Nat.le_of_ble_eq_true rfl, Nat.le_of_ble_eq_true rfl⟩) (dk_preD hE hS hA) rfl rfl hl.1 rfl (lv_room (Nat.le_of_ble_eq_true rfl)) dX3_set_3 ⟨Nat.le_of_ble_eq_true rfl, Nat.le_of_ble_eq_true rfl⟩) (fun ce q9 H1 hc hz hk h1 h2 h3 => hthr dk_IAE ce q9 H1 _ _ _ _ _ _ (Or.inl ⟨rfl, by unfold dk_kSet; rw [if_pos hc]⟩) (hP.kept (fun k q hq => hk q.1 (hP k q hq).lt)) hD ⟨Nat.le_trans hS.1 hz, fun q h1 h2 => (hk q (Nat.lt_of_lt_of_le h1 hS.1)).trans (hS.2.1 q h1 h2), hS.2.2⟩ h1 h2 h3 (Nat.le_of_ble_eq_true rfl) (Nat.le_of_ble_eq_true rfl)) (fun hd_3 => ?_)
  refine lv_iload_n hx hb dX3_set_6 rfl (lv_at hl 1 rfl) ?_
  refine lv_if_ne (tgt := 18) hx hb dX3_set_7 (by decide) (fun c_7 => ?_) (fun c_7 => ?_)
  · refine lv_aload_n hx hb dX3_set_18 rfl (lv_at hl 0 rfl) ?_
    refine lv_iload_n hx hb dX3_set_19 rfl (lv_at hl 2 rfl) ?_
    refine dk_xcalli (wr := []) (vx_runV (As := [.int x1]) (rest := []) ⟨hx, hb, hml, hown, hT⟩ (c_X3_changeEnergyPrice l hlt dC dI cI cII aX cv bs ch ep ol aN fr le fi ne fl du ar pr sz sp x1 _) (cwV 1 hT (dk_gV mw_383 mw_385 mw_10 mw_23 mw_386) rfl rfl rfl (by decide +kernel) ⟨Nat.le_of_ble_eq_true rfl, Nat.le_of_ble_eq_true rfl⟩) (dk_preXV hK hP hD hE hS hA [0, 1, 2, 3, 4, 5, 6, 7, 8] rfl rfl (q0 := 0) (ci := 3) rfl rfl) rfl rfl hl.1 rfl (lv_room (Nat.le_of_ble_eq_true rfl)) dX3_set_20 ⟨Nat.le_of_ble_eq_true rfl, Nat.le_of_ble_eq_true rfl⟩) hP hD hS hA [0, 1, 2, 3, 4, 5, 6, 7, 8] [] rfl rfl rfl (by decide) (fun E ce q9 H1 locs1 hpx hP1 hD1 hS1 h1 h2 h3 => hthr E ce q9 H1 locs1 _ _ _ _ _ (by unfold dk_kSet; rw [if_neg hd_3, if_neg c_7]; exact hpx) hP1 hD1 hS1 h1 h2 h3 (Nat.le_of_ble_eq_true rfl) (Nat.le_of_ble_eq_true rfl)) (fun r9 _ H locs h9 hP hD hS => ?_)
    obtain ⟨h8_20, h7⟩ := h9
    rw [h7]
    have hP : va_P (dC, dI) vwCl (dk_X cI cII aX (aN 0) cv bs ch x1 1 ++ dk_N cI cII aN fr le fi ne fl du ar pr sz sp) H := hP
    have hD : va_D A (dk_X cI cII aX (aN 0) cv bs ch x1 1 ++ dk_N cI cII aN fr le fi ne fl du ar pr sz sp) := hD
    simp only [if_neg c_7] at hret
    refine W.widen (k := 2) (n := 12) (Nat.le_of_ble_eq_true rfl) (Nat.le_of_ble_eq_true rfl) ?_
    exact hret _ () _ _ _ _ ⟨(by unfold dk_kSet; rw [if_neg hd_3, if_neg c_7]; exact h8_20), rfl⟩ hP hD hS dX3_set_23
  · refine lv_aload_n hx hb dX3_set_10 rfl (lv_at hl 0 rfl) ?_
    refine lv_iload_n hx hb dX3_set_11 rfl (lv_at hl 2 rfl) ?_
    refine dk_xcalli (wr := []) (vx_runV (As := [.int x1]) (rest := []) ⟨hx, hb, hml, hown, hT⟩ (c_X3_changeSpeedLimit l hlt dC dI cI cII aX cv bs ch ep ol aN fr le fi ne fl du ar pr sz sp x1 _) (cwV 1 hT (dk_gV mw_378 mw_380 mw_9 mw_23 mw_381) rfl rfl rfl (by decide +kernel) ⟨Nat.le_of_ble_eq_true rfl, Nat.le_of_ble_eq_true rfl⟩) (dk_preXV hK hP hD hE hS hA [0, 1, 2, 3, 4, 5, 6, 7, 8] rfl rfl (q0 := 0) (ci := 3) rfl rfl) rfl rfl hl.1 rfl (lv_room (Nat.le_of_ble_eq_true rfl)) dX3_set_12 ⟨Nat.le_of_ble_eq_true rfl, Nat.le_of_ble_eq_true rfl⟩) hP hD hS hA [0, 1, 2, 3, 4, 5, 6, 7, 8] [] rfl rfl rfl (by decide) (fun E ce q9 H1 locs1 hpx hP1 hD1 hS1 h1 h2 h3 => hthr E ce q9 H1 locs1 _ _ _ _ _ (by unfold dk_kSet; rw [if_neg hd_3, if_pos c_7]; exact hpx) hP1 hD1 hS1 h1 h2 h3 (Nat.le_of_ble_eq_true rfl) (Nat.le_of_ble_eq_true rfl)) (fun r9 _ H locs h9 hP hD hS => ?_)
    obtain ⟨h8_12, h7⟩ := h9
    rw [h7]
    have hP : va_P (dC, dI) vwCl (dk_X cI cII aX (aN 0) cv bs ch ep 1 ++ dk_N cI cII aN fr le fi ne fl du ar pr sz x1) H := hP
    have hD : va_D A (dk_X cI cII aX (aN 0) cv bs ch ep 1 ++ dk_N cI cII aN fr le fi ne fl du ar pr sz x1) := hD
    refine lv_goto (tgt := 23) hx hb dX3_set_15 (by decide) ?_
    simp only [if_pos c_7] at hret
    refine W.widen (k := 2) (n := 12) (Nat.le_of_ble_eq_true rfl) (Nat.le_of_ble_eq_true rfl) ?_
    exact hret _ () _ _ _ _ ⟨(by unfold dk_kSet; rw [if_neg hd_3, if_pos c_7]; exact h8_12), rfl⟩ hP hD hS dX3_set_23
end
section
set_option maxHeartbeats 4000000 in
set_option maxRecDepth 100000 in
/-- fan -/
theorem c_X3_fan (l : Launch) (hlt : l.stackTraces = false) (dC : Nat → ClassId) (dI : Nat → Nat → Nat) (cI cII : ClassId) (aX : Nat → Nat) (nw : Nat) (bs : Nat) (ch : Nat) (ep : Int32) (ol : Int32) (aC : Nat → Nat) (cf : Nat → Int32) (cp : Nat → Int32) (k : Nat) (x0 : Int32) (x1 : Int32) (hz : Nat) (hk1 : k ≤ 5) : dk_Xi l yX3_fan wsX3_fan ({ frames := 7, cells := 3, slots := 18, locals := 104 }) (dC, dI) (dk_T cI cII) [.ref (aX 0), .int x0, .int x1] (dk_X cI cII aX nw (aC 0) bs ch ep ol ++ dk_C cI cII aC cf cp (nI k)) hz (fun (r : Int32) (_ : Unit) => dk_kFan cf cp k x0 x1 = 0 ∧ r = (nI (k + 1))) (fun _ => dk_X cI cII aX nw (aC 0) bs ch ep 1 ++ dk_C cI cII aC (upd cf k x0) (upd cp k x1) (nI (k + 1))) (dk_px (dk_kFan cf cp k x0 x1)) 3 18 := by
  refine dk_ofXi (cc := cX3_fan) (maxL := 3) (by decide) rfl (Nat.le_of_ble_eq_true rfl) ?_
  intro p e s m args below meth c A ls Q ⟨hx, hb, hml, hts, hown, hnm⟩ hlocks hno hsz hK hP hD hA hS hl hE hQ hret hthr
  have hT : ∀ w ∈ dk_tbl, w.before args s = true := fun w h => hts w (List.mem_cons_of_mem _ h)
  have hown : s.vm.findClass RX3 = some m.cls := hown
  have hl : lv_has ls 3 [(0, .ref (aX 0)), (1, .int x0), (2, .int x1)] := hl
  refine lv_iload_n hx hb dX3_fan_0 rfl (lv_at hl 1 rfl) ?_
  refine lv_iconst (v := 0) hx hb dX3_fan_1 (by decide) ?_
  refine lv_sipush (v := 10000) hx hb dX3_fan_2 (by decide) ?_
  refine dk_xdem (vx_runS (As := [.int x0, .int 0, .int 10000]) (rest := []) ⟨hx, hb, hml, hown, hT⟩ (c_X3_demand l hlt x0 0 10000) (va_cwS 3 hT (dk_gS mw_254 mw_255 mw_23 mw_256) rfl rfl rfl (by decide +kernel) ⟨Nat.le_of_ble_eq_true rfl, Nat.le_of_ble_eq_true rfl⟩) (dk_preD hE hS hA) rfl rfl hl.1 rfl (lv_room (Nat.le_of_ble_eq_true rfl)) dX3_fan_5 ⟨Nat.le_of_ble_eq_true rfl, Nat.le_of_ble_eq_true rfl⟩) (fun ce q9 H1 hc hz hk h1 h2 h3 => hthr dk_IAE ce q9 H1 _ _ _ _ _ _ (Or.inl ⟨rfl, by unfold dk_kFan; rw [if_pos hc]⟩) (hP.kept (fun k q hq => hk q.1 (hP k q hq).lt)) hD ⟨Nat.le_trans hS.1 hz, fun q h1 h2 => (hk q (Nat.lt_of_lt_of_le h1 hS.1)).trans (hS.2.1 q h1 h2), hS.2.2⟩ h1 h2 h3 (Nat.le_of_ble_eq_true rfl) (Nat.le_of_ble_eq_true rfl)) (fun hd_5 => ?_)
  refine lv_iload_n hx hb dX3_fan_8 rfl (lv_at hl 2 rfl) ?_
  refine lv_iconst (v := 0) hx hb dX3_fan_9 (by decide) ?_
  refine lv_sipush (v := 300) hx hb dX3_fan_10 (by decide) ?_
  refine dk_xdem (vx_runS (As := [.int x1, .int 0, .int 300]) (rest := []) ⟨hx, hb, hml, hown, hT⟩ (c_X3_demand l hlt x1 0 300) (va_cwS 3 hT (dk_gS mw_254 mw_255 mw_23 mw_256) rfl rfl rfl (by decide +kernel) ⟨Nat.le_of_ble_eq_true rfl, Nat.le_of_ble_eq_true rfl⟩) (dk_preD hE hS hA) rfl rfl hl.1 rfl (lv_room (Nat.le_of_ble_eq_true rfl)) dX3_fan_13 ⟨Nat.le_of_ble_eq_true rfl, Nat.le_of_ble_eq_true rfl⟩) (fun ce q9 H1 hc hz hk h1 h2 h3 => hthr dk_IAE ce q9 H1 _ _ _ _ _ _ (Or.inl ⟨rfl, by unfold dk_kFan; rw [if_neg hd_5, if_pos hc]⟩) (hP.kept (fun k q hq => hk q.1 (hP k q hq).lt)) hD ⟨Nat.le_trans hS.1 hz, fun q h1 h2 => (hk q (Nat.lt_of_lt_of_le h1 hS.1)).trans (hS.2.1 q h1 h2), hS.2.2⟩ h1 h2 h3 (Nat.le_of_ble_eq_true rfl) (Nat.le_of_ble_eq_true rfl)) (fun hd_13 => ?_)
  refine lv_aload_n hx hb dX3_fan_16 rfl (lv_at hl 0 rfl) ?_
  refine va_get (D := (dC, dI)) (ci := 3) (v := .ref (aC 0)) (C := RX3) (T := TX3) (N := 6) hx hb hT in_X3 hown hK hP 0 rfl rfl 1 (by decide) (hT _ mw_153) (fun _ h9 => h9) rfl dX3_fan_17 ?_
  refine lv_iload_n hx hb dX3_fan_20 rfl (lv_at hl 1 rfl) ?_
  refine lv_iload_n hx hb dX3_fan_21 rfl (lv_at hl 2 rfl) ?_
  refine dk_csi (va_runV (As := [.int x0, .int x1]) (rest := []) ⟨hx, hb, hml, hown, hT⟩ (c_X0_takes l dC dI cI cII aC cf cp k x0 x1 hk1) (cwV 2 hT (dk_gV mw_394 mw_395 mw_396 mw_25 mw_397) rfl rfl rfl (by decide +kernel) ⟨(Nat.le_of_ble_eq_true rfl), (Nat.le_of_ble_eq_true rfl)⟩) (dk_preRV hK hP [1, 2, 3] rfl (q0 := 1) (ci := 0) rfl rfl) rfl rfl hl.1 rfl (lv_room (Nat.le_of_ble_eq_true rfl)) dX3_fan_22 ⟨Nat.le_of_ble_eq_true rfl, Nat.le_of_ble_eq_true rfl⟩) (fun r9 h9 => ?_)
  subst h9
  refine lv_if_ne (tgt := 38) hx hb dX3_fan_25 (by decide) (fun c_25 => ?_) (fun c_25 => ?_)
  · refine lv_aload_n hx hb dX3_fan_38 rfl (lv_at hl 0 rfl) ?_
    refine lv_iconst (v := 1) hx hb dX3_fan_39 (by decide) ?_
    refine va_put (D := (dC, dI)) (ci := 3) (v := .int 1) (ty := .boolean) (C := RX3) (T := TX3) (N := 6) hx hb hT in_X3 tyX3 tyX3_ok nmX3 hown hK hP hD hS 0 rfl rfl 5 (by decide) (hT _ mw_157) (fun _ h9 => h9) rfl (by decide +kernel) rfl rfl (Nat.le_of_ble_eq_true rfl) dX3_fan_40 (fun H locs hP hD hS => ?_)
    have hP : va_P (dC, dI) vwCl (dk_X cI cII aX nw (aC 0) bs ch ep 1 ++ dk_C cI cII aC cf cp (nI k)) H := hP
    have hD : va_D A (dk_X cI cII aX nw (aC 0) bs ch ep 1 ++ dk_C cI cII aC cf cp (nI k)) := hD
    refine lv_aload_n hx hb dX3_fan_43 rfl (lv_at hl 0 rfl) ?_
    refine va_get (D := (dC, dI)) (ci := 3) (v := .ref (aC 0)) (C := RX3) (T := TX3) (N := 6) hx hb hT in_X3 hown hK hP 0 rfl rfl 1 (by decide) (hT _ mw_153) (fun _ h9 => h9) rfl dX3_fan_44 ?_
    refine lv_iload_n hx hb dX3_fan_47 rfl (lv_at hl 1 rfl) ?_
    refine lv_iload_n hx hb dX3_fan_48 rfl (lv_at hl 2 rfl) ?_
    refine dk_calli (wr := dk_X cI cII aX nw (aC 0) bs ch ep 1) (va_runV (As := [.int x0, .int x1]) (rest := []) ⟨hx, hb, hml, hown, hT⟩ (c_X0_addPoint l dC dI cI cII aC cf cp k x0 x1 _ (dk_takesLt hk1 c_25)) (cwV 2 hT (dk_gV mw_399 mw_400 mw_401 mw_25 mw_402) rfl rfl rfl (by decide +kernel) ⟨(Nat.le_of_ble_eq_true rfl), (Nat.le_of_ble_eq_true rfl)⟩) (dk_preV hK hP hD [1, 2, 3] rfl rfl (q0 := 1) (ci := 0) rfl rfl) rfl rfl hl.1 rfl (lv_room (Nat.le_of_ble_eq_true rfl)) dX3_fan_49 ⟨Nat.le_of_ble_eq_true rfl, Nat.le_of_ble_eq_true rfl⟩) hP hD hS hA [1, 2, 3] [0] rfl rfl rfl (by decide) (fun r9 _ H locs h9 hP hD hS => ?_)
    subst h9
    have hP : va_P (dC, dI) vwCl (dk_X cI cII aX nw (aC 0) bs ch ep 1 ++ dk_C cI cII aC (upd cf k x0) (upd cp k x1) (nI (k + 1))) H := hP
    have hD : va_D A (dk_X cI cII aX nw (aC 0) bs ch ep 1 ++ dk_C cI cII aC (upd cf k x0) (upd cp k x1) (nI (k + 1))) := hD
    refine W.widen (k := 3) (n := 18) (Nat.le_of_ble_eq_true rfl) (Nat.le_of_ble_eq_true rfl) ?_
    exact hret _ () _ _ _ _ ⟨(by unfold dk_kFan; rw [if_neg hd_5, if_neg hd_13, if_neg c_25]), rfl⟩ hP hD hS dX3_fan_52
  · subst hQ
    obtain ⟨sa, hsa⟩ := hE.2.2.1 (84, "the fan can not have this point behind its others") (by decide +kernel)
    exact vx_throwS (own := RX3) (cls := dk_ISE) (names := dk_ups) (A := A) hx hb hlt hown (by decide +kernel) (by decide +kernel) (hT _ mw_324) (hT _ mw_32) hsa (vx_hat (L := vx_atS RX3 54 dk_ISE dk_ups) (B := dk_badS) (fun w hw => hT w ((by decide +kernel : ∀ w ∈ (vx_atS RX3 54 dk_ISE dk_ups).filter goodWord, w ∈ dk_tbl) w hw)) (by decide +kernel) (fun w hw => va_Nw.use ((by decide +kernel : ∀ w ∈ dk_badS, w.onTables = true) w hw) (hE.2.2.2 w ((by decide +kernel : ∀ w ∈ dk_badS, w ∈ dk_badA ++ dk_badS) w hw)))) (by decide +kernel) hE.1 hE.2.1 hS (hl.1.trans hml.symm) dX3_fan_28 dX3_fan_31 dX3_fan_32 dX3_fan_34 dX3_fan_37 (fun x hx => (hno x hx).elim) (Nat.le_of_ble_eq_true rfl) (Nat.le_of_ble_eq_true rfl) (Nat.le_of_ble_eq_true rfl) (Nat.le_of_ble_eq_true rfl) hlocks (fun t ha hsz hk => ⟨dk_ISE, (Or.inr ⟨rfl, (by unfold dk_kFan; rw [if_neg hd_5, if_neg hd_13, if_pos c_25])⟩), ⟨rfl, hP.kept (fun k q hq => hk q.1 (hP k q hq).lt), va_K.moved ha hK, hD⟩, Nat.le_trans hS.1 hsz, fun q h1 h2 => (hk q (Nat.lt_of_lt_of_le h1 hS.1)).trans (hS.2.1 q h1 h2)⟩) hS.2.2 (Nat.le_of_ble_eq_true rfl) (Nat.le_of_ble_eq_true rfl)
end
section
set_option maxHeartbeats 4000000 in
set_option maxRecDepth 100000 in
/-- DuctSizes.gives -/
theorem c_X3_gives (l : Launch) (dC : Nat → ClassId) (dI : Nat → Nat → Nat) (cI cII : ClassId) (aX : Nat → Nat) (bs : Nat) (ch : Nat) (ep : Int32) (ol : Int32) (aN : Nat → Nat) (fr : Nat → Int32) (le : Nat → Int32) (fi : Nat → Int32) (ne : Nat → Int32) (fl : Nat → Int32) (du : Int32) (ar : Nat → Int32) (pr : Nat → Int32) (sz : Int32) (sp : Int32) (aC : Nat → Nat) (cf : Nat → Int32) (cp : Nat → Int32) (k : Nat) (hk1 : k ≤ 5) (hcv : ∀ i, 0 < i → i < k → ¬ cf i - cf (i - 1) = 0) : dk_Ri l yX3_gives wsX3_gives ({ frames := 2, cells := 0, slots := 0, locals := 47 }) (dC, dI) (dk_T cI cII) [.ref (aX 0)] (dk_X cI cII aX (aN 0) (aC 0) bs ch ep ol ++ dk_N cI cII aN fr le fi ne fl du ar pr sz sp ++ dk_C cI cII aC cf cp (nI k)) (fun r => r = dk_gives cf cp k (fl 0)) := by
  refine dk_ofRi (cc := cX3_gives) (maxL := 1) (by decide) rfl (Nat.le_of_ble_eq_true rfl) ?_
  intro p e s m args below meth c ls Q H ⟨hx, hb, hml, hts, hown, hnm⟩ hK hP hl hret
  have hT : ∀ w ∈ dk_tbl, w.before args s = true := fun w h => hts w (List.mem_cons_of_mem _ h)
  have hown : s.vm.findClass RX3 = some m.cls := hown
  have hl : lv_has ls 1 [(0, .ref (aX 0))] := hl
  refine lv_aload_n hx hb dX3_gives_0 rfl (lv_at hl 0 rfl) ?_
  refine va_get (D := (dC, dI)) (ci := 3) (v := .ref (aC 0)) (C := RX3) (T := TX3) (N := 6) hx hb hT in_X3 hown hK hP 0 rfl rfl 1 (by decide) (hT _ mw_153) (fun _ h9 => h9) rfl dX3_gives_1 ?_
  refine lv_aload_n hx hb dX3_gives_4 rfl (lv_at hl 0 rfl) ?_
  refine va_get (D := (dC, dI)) (ci := 3) (v := .ref (aN 0)) (C := RX3) (T := TX3) (N := 6) hx hb hT in_X3 hown hK hP 0 rfl rfl 0 (by decide) (hT _ mw_152) (fun _ h9 => h9) rfl dX3_gives_5 ?_
  refine va_get (D := (dC, dI)) (ci := 1) (v := .ref (aN 5)) (C := RX1) (T := TX1) (N := 10) hx hb hT in_X1 hown hK hP 1 rfl rfl 4 (by decide) (hT _ mw_56) (fun _ h9 => h9) rfl dX3_gives_8 ?_
  refine lv_iconst (v := 0) hx hb dX3_gives_11 (by decide) ?_
  refine dk_iald (q0 := 6) (t0 := 0) (i := 0) hx hb hK hP rfl rfl (by decide) (by omega) (by decide) dX3_gives_12 ?_
  refine dk_csi (va_runV (As := [.int (fl 0)]) (rest := []) ⟨hx, hb, hml, hown, hT⟩ (c_X0_pressureAt l dC dI cI cII aC cf cp k (fl 0) hk1 hcv) (cwV 1 hT (dk_gV mw_175 mw_176 mw_177 mw_25 mw_178) rfl rfl rfl (by decide +kernel) ⟨(Nat.le_of_ble_eq_true rfl), (Nat.le_of_ble_eq_true rfl)⟩) (dk_preRV hK hP [9, 10, 11] rfl (q0 := 9) (ci := 0) rfl rfl) rfl rfl hl.1 rfl (lv_room (Nat.le_of_ble_eq_true rfl)) dX3_gives_13 ⟨Nat.le_of_ble_eq_true rfl, Nat.le_of_ble_eq_true rfl⟩) (fun r9 h9 => ?_)
  subst h9
  exact hret _ _ _ rfl dX3_gives_16
end
section
set_option maxHeartbeats 4000000 in
set_option maxRecDepth 100000 in
/-- flow -/
theorem c_X3_flow (l : Launch) (hlt : l.stackTraces = false) (dC : Nat → ClassId) (dI : Nat → Nat → Nat) (cI cII : ClassId) (aX : Nat → Nat) (cv : Nat) (bs : Nat) (ch : Nat) (ep : Int32) (ol : Int32) (aN : Nat → Nat) (fr : Nat → Int32) (le : Nat → Int32) (fi : Nat → Int32) (ne : Nat → Int32) (fl : Nat → Int32) (ar : Nat → Int32) (pr : Nat → Int32) (sz : Int32) (sp : Int32) (d : Nat) (x0 : Int32) (hz : Nat) (h1 : d ≤ 6) : dk_Xi l yX3_flow wsX3_flow ({ frames := 7, cells := 1, slots := 6, locals := 104 }) (dC, dI) (dk_T cI cII) [.ref (aX 0), .int x0] (dk_X cI cII aX (aN 0) cv bs ch ep ol ++ dk_N cI cII aN fr le fi ne fl (nI d) ar pr sz sp) hz (fun (r : Int32) (_ : Unit) => dk_kIn 1 d x0 = 0 ∧ r = (fl x0.toNatClampNeg)) (fun _ => dk_X cI cII aX (aN 0) cv bs ch ep ol ++ dk_N cI cII aN fr le fi ne fl (nI d) ar pr sz sp) (dk_px (dk_kIn 1 d x0)) 1 6 := by
  refine dk_ofXi (cc := cX3_flow) (maxL := 2) (by decide) rfl (Nat.le_of_ble_eq_true rfl) ?_
  intro p e s m args below meth c A ls Q ⟨hx, hb, hml, hts, hown, hnm⟩ hlocks hno hsz hK hP hD hA hS hl hE hQ hret hthr
  have hT : ∀ w ∈ dk_tbl, w.before args s = true := fun w h => hts w (List.mem_cons_of_mem _ h)
  have hown : s.vm.findClass RX3 = some m.cls := hown
  have hl : lv_has ls 2 [(0, .ref (aX 0)), (1, .int x0)] := hl
  refine lv_iload_n hx hb dX3_flow_0 rfl (lv_at hl 1 rfl) ?_
  refine lv_iconst (v := 1) hx hb dX3_flow_1 (by decide) ?_
  refine lv_aload_n hx hb dX3_flow_2 rfl (lv_at hl 0 rfl) ?_
  refine va_get (D := (dC, dI)) (ci := 3) (v := .ref (aN 0)) (C := RX3) (T := TX3) (N := 6) hx hb hT in_X3 hown hK hP 0 rfl rfl 0 (by decide) (hT _ mw_152) (fun _ h9 => h9) rfl dX3_flow_3 ?_
  refine va_get (D := (dC, dI)) (ci := 1) (v := .int (nI d)) (C := RX1) (T := TX1) (N := 10) hx hb hT in_X1 hown hK hP 1 rfl rfl 5 (by decide) (hT _ mw_58) (fun _ h9 => h9) rfl dX3_flow_6 ?_
  refine dk_xdem (vx_runS (As := [.int x0, .int 1, .int (nI d)]) (rest := []) ⟨hx, hb, hml, hown, hT⟩ (c_X3_demand l hlt x0 1 (nI d)) (va_cwS 3 hT (dk_gS mw_254 mw_255 mw_23 mw_256) rfl rfl rfl (by decide +kernel) ⟨Nat.le_of_ble_eq_true rfl, Nat.le_of_ble_eq_true rfl⟩) (dk_preD hE hS hA) rfl rfl hl.1 rfl (lv_room (Nat.le_of_ble_eq_true rfl)) dX3_flow_9 ⟨Nat.le_of_ble_eq_true rfl, Nat.le_of_ble_eq_true rfl⟩) (fun ce q9 H1 hc hz hk h1 h2 h3 => hthr dk_IAE ce q9 H1 _ _ _ _ _ _ (Or.inl ⟨rfl, by unfold dk_kIn; rw [if_pos hc]⟩) (hP.kept (fun k q hq => hk q.1 (hP k q hq).lt)) hD ⟨Nat.le_trans hS.1 hz, fun q h1 h2 => (hk q (Nat.lt_of_lt_of_le h1 hS.1)).trans (hS.2.1 q h1 h2), hS.2.2⟩ h1 h2 h3 (Nat.le_of_ble_eq_true rfl) (Nat.le_of_ble_eq_true rfl)) (fun hd_9 => ?_)
  obtain ⟨j, hj1, hj2, rfl⟩ := dk_of (lo := 1) hd_9 rfl (by omega) (by omega)
  simp only [nI_clamp (show j < 2 ^ 31 by omega)] at hret
  refine lv_aload_n hx hb dX3_flow_12 rfl (lv_at hl 0 rfl) ?_
  refine va_get (D := (dC, dI)) (ci := 3) (v := .ref (aN 0)) (C := RX3) (T := TX3) (N := 6) hx hb hT in_X3 hown hK hP 0 rfl rfl 0 (by decide) (hT _ mw_152) (fun _ h9 => h9) rfl dX3_flow_13 ?_
  refine va_get (D := (dC, dI)) (ci := 1) (v := .ref (aN 5)) (C := RX1) (T := TX1) (N := 10) hx hb hT in_X1 hown hK hP 1 rfl rfl 4 (by decide) (hT _ mw_56) (fun _ h9 => h9) rfl dX3_flow_16 ?_
  refine lv_iload_n hx hb dX3_flow_19 rfl (lv_at hl 1 rfl) ?_
  refine dk_iald (q0 := 6) (t0 := 0) (i := j) hx hb hK hP rfl rfl rfl (by omega) (by decide) dX3_flow_20 ?_
  refine W.widen (k := 1) (n := 6) (Nat.le_of_ble_eq_true rfl) (Nat.le_of_ble_eq_true rfl) ?_
  exact hret _ () _ _ _ _ ⟨(by unfold dk_kIn; rw [if_neg hd_9]), rfl⟩ hP hD hS dX3_flow_21
end
section
set_option maxHeartbeats 4000000 in
set_option maxRecDepth 100000 in
/-- told -/
theorem c_X3_told (l : Launch) (hlt : l.stackTraces = false) (dC : Nat → ClassId) (dI : Nat → Nat → Nat) (cI cII : ClassId) (aX : Nat → Nat) (cv : Nat) (bs : Nat) (ch : Nat) (ep : Int32) (ol : Int32) (aN : Nat → Nat) (fr : Nat → Int32) (le : Nat → Int32) (fi : Nat → Int32) (ne : Nat → Int32) (fl : Nat → Int32) (ar : Nat → Int32) (pr : Nat → Int32) (sp : Int32) (d : Nat) (z : Nat) (x0 : Int32) (x1 : Int32) (x2 : Int32) (hz : Nat) (h1 : d ≤ 6) (h2 : z ≤ 4) (har : ∀ j, j < z → ¬ ar j = 0) (har2 : ∀ j, j < z → ¬ (ar j).toInt64 * (ar j).toInt64 = 0) : dk_Xi l yX3_told wsX3_told ({ frames := 7, cells := 3, slots := 18, locals := 104 }) (dC, dI) (dk_T cI cII) [.ref (aX 0), .int x0, .int x1, .int x2] (dk_X cI cII aX (aN 0) cv bs ch ep ol ++ dk_N cI cII aN fr le fi ne fl (nI d) ar pr (nI z) sp) hz (fun (r : Int32) (_ : Unit) => dk_kTold d z x0 x1 x2 = 0 ∧ r = (if x2 = 0 then dk_speed fl ar x0.toNatClampNeg x1.toNatClampNeg else dk_fall le fi fl ar x0.toNatClampNeg x1.toNatClampNeg)) (fun _ => dk_X cI cII aX (aN 0) cv bs ch ep ol ++ dk_N cI cII aN fr le fi ne fl (nI d) ar pr (nI z) sp) (dk_px (dk_kTold d z x0 x1 x2)) 3 18 := by
  refine dk_ofXi (cc := cX3_told) (maxL := 4) (by decide) rfl (Nat.le_of_ble_eq_true rfl) ?_
  intro p e s m args below meth c A ls Q ⟨hx, hb, hml, hts, hown, hnm⟩ hlocks hno hsz hK hP hD hA hS hl hE hQ hret hthr
  have hT : ∀ w ∈ dk_tbl, w.before args s = true := fun w h => hts w (List.mem_cons_of_mem _ h)
  have hown : s.vm.findClass RX3 = some m.cls := hown
  have hl : lv_has ls 4 [(0, .ref (aX 0)), (1, .int x0), (2, .int x1), (3, .int x2)] := hl
  refine lv_iload_n hx hb dX3_told_0 rfl (lv_at hl 1 rfl) ?_
  refine lv_iconst (v := 1) hx hb dX3_told_1 (by decide) ?_
  refine lv_aload_n hx hb dX3_told_2 rfl (lv_at hl 0 rfl) ?_
  refine va_get (D := (dC, dI)) (ci := 3) (v := .ref (aN 0)) (C := RX3) (T := TX3) (N := 6) hx hb hT in_X3 hown hK hP 0 rfl rfl 0 (by decide) (hT _ mw_152) (fun _ h9 => h9) rfl dX3_told_3 ?_
  refine va_get (D := (dC, dI)) (ci := 1) (v := .int (nI d)) (C := RX1) (T := TX1) (N := 10) hx hb hT in_X1 hown hK hP 1 rfl rfl 5 (by decide) (hT _ mw_58) (fun _ h9 => h9) rfl dX3_told_6 ?_
  refine dk_xdem (vx_runS (As := [.int x0, .int 1, .int (nI d)]) (rest := []) ⟨hx, hb, hml, hown, hT⟩ (c_X3_demand l hlt x0 1 (nI d)) (va_cwS 3 hT (dk_gS mw_254 mw_255 mw_23 mw_256) rfl rfl rfl (by decide +kernel) ⟨Nat.le_of_ble_eq_true rfl, Nat.le_of_ble_eq_true rfl⟩) (dk_preD hE hS hA) rfl rfl hl.1 rfl (lv_room (Nat.le_of_ble_eq_true rfl)) dX3_told_9 ⟨Nat.le_of_ble_eq_true rfl, Nat.le_of_ble_eq_true rfl⟩) (fun ce q9 H1 hc hz hk h1 h2 h3 => hthr dk_IAE ce q9 H1 _ _ _ _ _ _ (Or.inl ⟨rfl, by unfold dk_kTold; rw [if_pos hc]⟩) (hP.kept (fun k q hq => hk q.1 (hP k q hq).lt)) hD ⟨Nat.le_trans hS.1 hz, fun q h1 h2 => (hk q (Nat.lt_of_lt_of_le h1 hS.1)).trans (hS.2.1 q h1 h2), hS.2.2⟩ h1 h2 h3 (Nat.le_of_ble_eq_true rfl) (Nat.le_of_ble_eq_true rfl)) (fun hd_9 => ?_)
  obtain ⟨j, hj1, hj2, rfl⟩ := dk_of (lo := 1) hd_9 rfl (by omega) (by omega)
  simp only [nI_clamp (show j < 2 ^ 31 by omega)] at hret
  refine lv_iload_n hx hb dX3_told_12 rfl (lv_at hl 2 rfl) ?_
  refine lv_iconst (v := 0) hx hb dX3_told_13 (by decide) ?_
  refine lv_aload_n hx hb dX3_told_14 rfl (lv_at hl 0 rfl) ?_
  refine va_get (D := (dC, dI)) (ci := 3) (v := .ref (aN 0)) (C := RX3) (T := TX3) (N := 6) hx hb hT in_X3 hown hK hP 0 rfl rfl 0 (by decide) (hT _ mw_152) (fun _ h9 => h9) rfl dX3_told_15 ?_
  refine va_get (D := (dC, dI)) (ci := 1) (v := .int (nI z)) (C := RX1) (T := TX1) (N := 10) hx hb hT in_X1 hown hK hP 1 rfl rfl 8 (by decide) (hT _ mw_63) (fun _ h9 => h9) rfl dX3_told_18 ?_
  refine lv_iconst (v := 1) hx hb dX3_told_21 (by decide) ?_
  refine lv_isub hx hb dX3_told_22 ?_
  refine dk_xdem (vx_runS (As := [.int x1, .int 0, .int ((nI z) - 1)]) (rest := []) ⟨hx, hb, hml, hown, hT⟩ (c_X3_demand l hlt x1 0 ((nI z) - 1)) (va_cwS 3 hT (dk_gS mw_254 mw_255 mw_23 mw_256) rfl rfl rfl (by decide +kernel) ⟨Nat.le_of_ble_eq_true rfl, Nat.le_of_ble_eq_true rfl⟩) (dk_preD hE hS hA) rfl rfl hl.1 rfl (lv_room (Nat.le_of_ble_eq_true rfl)) dX3_told_23 ⟨Nat.le_of_ble_eq_true rfl, Nat.le_of_ble_eq_true rfl⟩) (fun ce q9 H1 hc hz hk h1 h2 h3 => hthr dk_IAE ce q9 H1 _ _ _ _ _ _ (Or.inl ⟨rfl, by unfold dk_kTold; rw [if_neg hd_9, if_pos hc]⟩) (hP.kept (fun k q hq => hk q.1 (hP k q hq).lt)) hD ⟨Nat.le_trans hS.1 hz, fun q h1 h2 => (hk q (Nat.lt_of_lt_of_le h1 hS.1)).trans (hS.2.1 q h1 h2), hS.2.2⟩ h1 h2 h3 (Nat.le_of_ble_eq_true rfl) (Nat.le_of_ble_eq_true rfl)) (fun hd_23 => ?_)
  obtain ⟨i, hi1, rfl⟩ := dk_of1 hd_23 (by omega)
  simp only [nI_clamp (show i < 2 ^ 31 by omega)] at hret
  refine lv_iload_n hx hb dX3_told_26 rfl (lv_at hl 3 rfl) ?_
  refine lv_iconst (v := 0) hx hb dX3_told_27 (by decide) ?_
  refine lv_iconst (v := 1) hx hb dX3_told_28 (by decide) ?_
  refine dk_xdem (vx_runS (As := [.int x2, .int 0, .int 1]) (rest := []) ⟨hx, hb, hml, hown, hT⟩ (c_X3_demand l hlt x2 0 1) (va_cwS 3 hT (dk_gS mw_254 mw_255 mw_23 mw_256) rfl rfl rfl (by decide +kernel) ⟨Nat.le_of_ble_eq_true rfl, Nat.le_of_ble_eq_true rfl⟩) (dk_preD hE hS hA) rfl rfl hl.1 rfl (lv_room (Nat.le_of_ble_eq_true rfl)) dX3_told_29 ⟨Nat.le_of_ble_eq_true rfl, Nat.le_of_ble_eq_true rfl⟩) (fun ce q9 H1 hc hz hk h1 h2 h3 => hthr dk_IAE ce q9 H1 _ _ _ _ _ _ (Or.inl ⟨rfl, by unfold dk_kTold; rw [if_neg hd_9, if_neg hd_23, if_pos hc]⟩) (hP.kept (fun k q hq => hk q.1 (hP k q hq).lt)) hD ⟨Nat.le_trans hS.1 hz, fun q h1 h2 => (hk q (Nat.lt_of_lt_of_le h1 hS.1)).trans (hS.2.1 q h1 h2), hS.2.2⟩ h1 h2 h3 (Nat.le_of_ble_eq_true rfl) (Nat.le_of_ble_eq_true rfl)) (fun hd_29 => ?_)
  refine lv_iload_n hx hb dX3_told_32 rfl (lv_at hl 3 rfl) ?_
  refine lv_if_ne (tgt := 48) hx hb dX3_told_33 (by decide) (fun c_33 => ?_) (fun c_33 => ?_)
  · refine lv_aload_n hx hb dX3_told_48 rfl (lv_at hl 0 rfl) ?_
    refine va_get (D := (dC, dI)) (ci := 3) (v := .ref (aN 0)) (C := RX3) (T := TX3) (N := 6) hx hb hT in_X3 hown hK hP 0 rfl rfl 0 (by decide) (hT _ mw_152) (fun _ h9 => h9) rfl dX3_told_49 ?_
    refine lv_iload_n hx hb dX3_told_52 rfl (lv_at hl 1 rfl) ?_
    refine lv_iload_n hx hb dX3_told_53 rfl (lv_at hl 2 rfl) ?_
    refine dk_csi (va_runV (As := [.int (nI j), .int (nI i)]) (rest := []) ⟨hx, hb, hml, hown, hT⟩ (c_X1_fallOf l dC dI cI cII aN fr le fi ne fl (nI d) ar pr (nI z) sp j i (by omega) (by omega) (har2 i hi1)) (cwV 2 hT (dk_gV mw_418 mw_209 mw_210 mw_24 mw_211) rfl rfl rfl (by decide +kernel) ⟨(Nat.le_of_ble_eq_true rfl), (Nat.le_of_ble_eq_true rfl)⟩) (dk_preRV hK hP [1, 2, 3, 4, 5, 6, 7, 8] rfl (q0 := 1) (ci := 1) rfl rfl) rfl rfl hl.1 rfl (lv_room (Nat.le_of_ble_eq_true rfl)) dX3_told_54 ⟨Nat.le_of_ble_eq_true rfl, Nat.le_of_ble_eq_true rfl⟩) (fun r9 h9 => ?_)
    subst h9
    refine W.widen (k := 3) (n := 18) (Nat.le_of_ble_eq_true rfl) (Nat.le_of_ble_eq_true rfl) ?_
    exact hret _ () _ _ _ _ ⟨(by unfold dk_kTold; rw [if_neg hd_9, if_neg hd_23, if_neg hd_29]), (if_neg c_33).symm⟩ hP hD hS dX3_told_57
  · refine lv_aload_n hx hb dX3_told_36 rfl (lv_at hl 0 rfl) ?_
    refine va_get (D := (dC, dI)) (ci := 3) (v := .ref (aN 0)) (C := RX3) (T := TX3) (N := 6) hx hb hT in_X3 hown hK hP 0 rfl rfl 0 (by decide) (hT _ mw_152) (fun _ h9 => h9) rfl dX3_told_37 ?_
    refine lv_iload_n hx hb dX3_told_40 rfl (lv_at hl 1 rfl) ?_
    refine lv_iload_n hx hb dX3_told_41 rfl (lv_at hl 2 rfl) ?_
    refine dk_csi (va_runV (As := [.int (nI j), .int (nI i)]) (rest := []) ⟨hx, hb, hml, hown, hT⟩ (c_X1_speedOf l dC dI cI cII aN fr le fi ne fl (nI d) ar pr (nI z) sp j i (by omega) (by omega) (har i hi1)) (cwV 2 hT (dk_gV mw_417 mw_205 mw_206 mw_24 mw_207) rfl rfl rfl (by decide +kernel) ⟨(Nat.le_of_ble_eq_true rfl), (Nat.le_of_ble_eq_true rfl)⟩) (dk_preRV hK hP [1, 2, 3, 4, 5, 6, 7, 8] rfl (q0 := 1) (ci := 1) rfl rfl) rfl rfl hl.1 rfl (lv_room (Nat.le_of_ble_eq_true rfl)) dX3_told_42 ⟨Nat.le_of_ble_eq_true rfl, Nat.le_of_ble_eq_true rfl⟩) (fun r9 h9 => ?_)
    subst h9
    refine lv_goto (tgt := 57) hx hb dX3_told_45 (by decide) ?_
    refine W.widen (k := 3) (n := 18) (Nat.le_of_ble_eq_true rfl) (Nat.le_of_ble_eq_true rfl) ?_
    exact hret _ () _ _ _ _ ⟨(by unfold dk_kTold; rw [if_neg hd_9, if_neg hd_23, if_neg hd_29]), (if_pos c_33).symm⟩ hP hD hS dX3_told_57
end
section
set_option maxHeartbeats 4000000 in
set_option maxRecDepth 100000 in
/-- bestChoice -/
theorem c_X3_bestChoice (l : Launch) (dC : Nat → ClassId) (dI : Nat → Nat → Nat) (cI cII : ClassId) (aX : Nat → Nat) (ch : Nat) (ep : Int32) (ol : Int32) (aN : Nat → Nat) (fr : Nat → Int32) (le : Nat → Int32) (fi : Nat → Int32) (ne : Nat → Int32) (fl : Nat → Int32) (ar : Nat → Int32) (pr : Nat → Int32) (sp : Int32) (aC : Nat → Nat) (cf : Nat → Int32) (cp : Nat → Int32) (aB : Nat → Nat) (F : Nat → Nat → Int32) (li : Int32) (en : Int32) (d : Nat) (z : Nat) (k : Nat) (st : dk_SS) (hz : Nat) (hz1 : z ≤ 4) (hd1 : d ≤ 6) (hfr : ∀ k, k < 7 → vp_in (fr k) 7) (har : ∀ j, j < z → ¬ ar j = 0) (har2 : ∀ j, j < z → ¬ (ar j).toInt64 * (ar j).toInt64 = 0) (hk1 : k ≤ 5) (hcv : ∀ i, 0 < i → i < k → ¬ cf i - cf (i - 1) = 0) : dk_Mr l yX3_bestChoice wsX3_bestChoice ({ frames := 15, cells := 0, slots := 0, locals := 375 }) (dC, dI) (dk_T cI cII) [.ref (aX 0)] (dk_X cI cII aX (aN 0) (aC 0) (aB 0) ch ep ol ++ dk_N cI cII aN fr le fi ne fl (nI d) ar pr (nI z) sp ++ dk_C cI cII aC cf cp (nI k) ++ dk_SW cI cII aB (aN 0) F li en st) hz (aB 0) (dk_X cI cII aX (aN 0) (aC 0) (aB 0) ch ep 0 ++ dk_N cI cII aN fr le fi ne fl (nI d) ar pr (nI z) sp ++ dk_C cI cII aC cf cp (nI k) ++ dk_SW cI cII aB (aN 0) (dk_bF ol d z le fi fl ar sp F) (dk_bL ol cf cp k fl li) (dk_bE ol ep en) (dk_bS ol d z fr le fi fl ar pr sp cf cp k ep F st)) := by
  refine dk_ofMr (cc := cX3_bestChoice) (maxL := 1) (by decide) rfl (Nat.le_of_ble_eq_true rfl) ?_
  intro p e s m args below meth c A ls Q ⟨hx, hb, hml, hts, hown, hnm⟩ hsz hK hP hD hA hS hl hret
  have hT : ∀ w ∈ dk_tbl, w.before args s = true := fun w h => hts w (List.mem_cons_of_mem _ h)
  have hown : s.vm.findClass RX3 = some m.cls := hown
  have hl : lv_has ls 1 [(0, .ref (aX 0))] := hl
  refine lv_aload_n hx hb dX3_bestChoice_0 rfl (lv_at hl 0 rfl) ?_
  refine va_get (D := (dC, dI)) (ci := 3) (v := .int ol) (C := RX3) (T := TX3) (N := 6) hx hb hT in_X3 hown hK hP 0 rfl rfl 5 (by decide) (hT _ mw_157) (fun _ h9 => h9) rfl dX3_bestChoice_1 ?_
  refine lv_if_eq (tgt := 27) hx hb dX3_bestChoice_4 (by decide) (fun c_4 => ?_) (fun c_4 => ?_)
  · refine lv_aload_n hx hb dX3_bestChoice_27 rfl (lv_at hl 0 rfl) ?_
    refine va_get (D := (dC, dI)) (ci := 3) (v := .ref (aB 0)) (C := RX3) (T := TX3) (N := 6) hx hb hT in_X3 hown hK hP 0 rfl rfl 2 (by decide) (hT _ mw_154) (fun _ h9 => h9) rfl dX3_bestChoice_28 ?_
    simp only [dk_bF, dk_bL, dk_bE, dk_bS, if_pos c_4] at hret
    rw [c_4] at hP hD
    exact hret _ _ _ _ hP hD hS dX3_bestChoice_31
  · refine lv_aload_n hx hb dX3_bestChoice_7 rfl (lv_at hl 0 rfl) ?_
    refine va_get (D := (dC, dI)) (ci := 3) (v := .ref (aB 0)) (C := RX3) (T := TX3) (N := 6) hx hb hT in_X3 hown hK hP 0 rfl rfl 2 (by decide) (hT _ mw_154) (fun _ h9 => h9) rfl dX3_bestChoice_8 ?_
    refine lv_aload_n hx hb dX3_bestChoice_11 rfl (lv_at hl 0 rfl) ?_
    refine dk_csi (va_runV (As := []) (rest := [.ref (aB 0)]) ⟨hx, hb, hml, hown, hT⟩ (c_X3_gives l dC dI cI cII aX (aB 0) ch ep ol aN fr le fi ne fl (nI d) ar pr (nI z) sp aC cf cp k hk1 hcv) (cwV 0 hT (dk_gV mw_191 mw_172 mw_173 mw_23 mw_174) rfl rfl rfl (by decide +kernel) ⟨(Nat.le_of_ble_eq_true rfl), (Nat.le_of_ble_eq_true rfl)⟩) (dk_preRV hK hP [0, 1, 2, 3, 4, 5, 6, 7, 8, 9, 10, 11] rfl (q0 := 0) (ci := 3) rfl rfl) rfl rfl hl.1 rfl (lv_room (Nat.le_of_ble_eq_true rfl)) dX3_bestChoice_12 ⟨Nat.le_of_ble_eq_true rfl, Nat.le_of_ble_eq_true rfl⟩) (fun r9 h9 => ?_)
    subst h9
    refine lv_aload_n hx hb dX3_bestChoice_15 rfl (lv_at hl 0 rfl) ?_
    refine va_get (D := (dC, dI)) (ci := 3) (v := .int ep) (C := RX3) (T := TX3) (N := 6) hx hb hT in_X3 hown hK hP 0 rfl rfl 4 (by decide) (hT _ mw_156) (fun _ h9 => h9) rfl dX3_bestChoice_16 ?_
    refine dk_callv (wr := dk_X cI cII aX (aN 0) (aC 0) (aB 0) ch ep ol ++ dk_C cI cII aC cf cp (nI k)) (va_runV (As := [.int (dk_gives cf cp k (fl 0)), .int ep]) (rest := []) ⟨hx, hb, hml, hown, hT⟩ (c_X2_run l dC dI cI cII aB F (st.1) (st.2.1) li en (st.2.2.1) (st.2.2.2.1) (st.2.2.2.2.1) (st.2.2.2.2.2.1) (st.2.2.2.2.2.2) aN fr le fi ne fl ar pr sp d z (dk_gives cf cp k (fl 0)) ep _ hz1 hd1 hfr har har2) (cwV 2 hT (dk_gV mw_192 mw_193 mw_194 mw_26 mw_195) rfl rfl rfl (by decide +kernel) ⟨(Nat.le_of_ble_eq_true rfl), (Nat.le_of_ble_eq_true rfl)⟩) (dk_preV hK hP hD [12, 13, 14, 15, 16, 17, 18, 19, 20, 21, 22, 23, 24, 1, 2, 3, 4, 5, 6, 7, 8] rfl rfl (q0 := 12) (ci := 2) rfl rfl) rfl rfl hl.1 rfl (lv_room (Nat.le_of_ble_eq_true rfl)) dX3_bestChoice_19 ⟨Nat.le_of_ble_eq_true rfl, Nat.le_of_ble_eq_true rfl⟩) hP hD hS hA [12, 13, 14, 15, 16, 17, 18, 19, 20, 21, 22, 23, 24, 1, 2, 3, 4, 5, 6, 7, 8] [0, 9, 10, 11] rfl rfl rfl (by decide) (fun _ H locs h9 hP hD hS => ?_)
    have hP : va_P (dC, dI) vwCl (dk_X cI cII aX (aN 0) (aC 0) (aB 0) ch ep ol ++ dk_C cI cII aC cf cp (nI k) ++ (dk_SW cI cII aB (aN 0) (dk_nr le fi fl ar sp z d 1 F) (dk_gives cf cp k (fl 0)) ep (dk_place d z fr le pr (dk_nr le fi fl ar sp z d 1 F) (dk_gives cf cp k (fl 0)) ep d 1 0 0 ((st.1), (st.2.1), (st.2.2.1), (st.2.2.2.1), 0, (st.2.2.2.2.2.1), (st.2.2.2.2.2.2))) ++ dk_N cI cII aN fr le fi ne fl (nI d) ar pr (nI z) sp)) H := hP
    have hD : va_D A (dk_X cI cII aX (aN 0) (aC 0) (aB 0) ch ep ol ++ dk_C cI cII aC cf cp (nI k) ++ (dk_SW cI cII aB (aN 0) (dk_nr le fi fl ar sp z d 1 F) (dk_gives cf cp k (fl 0)) ep (dk_place d z fr le pr (dk_nr le fi fl ar sp z d 1 F) (dk_gives cf cp k (fl 0)) ep d 1 0 0 ((st.1), (st.2.1), (st.2.2.1), (st.2.2.2.1), 0, (st.2.2.2.2.2.1), (st.2.2.2.2.2.2))) ++ dk_N cI cII aN fr le fi ne fl (nI d) ar pr (nI z) sp)) := hD
    refine lv_aload_n hx hb dX3_bestChoice_22 rfl (lv_at hl 0 rfl) ?_
    refine lv_iconst (v := 0) hx hb dX3_bestChoice_23 (by decide) ?_
    refine va_put (D := (dC, dI)) (ci := 3) (v := .int 0) (ty := .boolean) (C := RX3) (T := TX3) (N := 6) hx hb hT in_X3 tyX3 tyX3_ok nmX3 hown hK hP hD hS 0 rfl rfl 5 (by decide) (hT _ mw_157) (fun _ h9 => h9) rfl (by decide +kernel) rfl rfl (Nat.le_of_ble_eq_true rfl) dX3_bestChoice_24 (fun H locs hP hD hS => ?_)
    have hP : va_P (dC, dI) vwCl (dk_X cI cII aX (aN 0) (aC 0) (aB 0) ch ep 0 ++ dk_C cI cII aC cf cp (nI k) ++ (dk_SW cI cII aB (aN 0) (dk_nr le fi fl ar sp z d 1 F) (dk_gives cf cp k (fl 0)) ep (dk_place d z fr le pr (dk_nr le fi fl ar sp z d 1 F) (dk_gives cf cp k (fl 0)) ep d 1 0 0 ((st.1), (st.2.1), (st.2.2.1), (st.2.2.2.1), 0, (st.2.2.2.2.2.1), (st.2.2.2.2.2.2))) ++ dk_N cI cII aN fr le fi ne fl (nI d) ar pr (nI z) sp)) H := hP
    have hD : va_D A (dk_X cI cII aX (aN 0) (aC 0) (aB 0) ch ep 0 ++ dk_C cI cII aC cf cp (nI k) ++ (dk_SW cI cII aB (aN 0) (dk_nr le fi fl ar sp z d 1 F) (dk_gives cf cp k (fl 0)) ep (dk_place d z fr le pr (dk_nr le fi fl ar sp z d 1 F) (dk_gives cf cp k (fl 0)) ep d 1 0 0 ((st.1), (st.2.1), (st.2.2.1), (st.2.2.2.1), 0, (st.2.2.2.2.2.1), (st.2.2.2.2.2.2))) ++ dk_N cI cII aN fr le fi ne fl (nI d) ar pr (nI z) sp)) := hD
    refine lv_aload_n hx hb dX3_bestChoice_27 rfl (lv_at hl 0 rfl) ?_
    refine va_get (D := (dC, dI)) (ci := 3) (v := .ref (aB 0)) (C := RX3) (T := TX3) (N := 6) hx hb hT in_X3 hown hK hP 0 rfl rfl 2 (by decide) (hT _ mw_154) (fun _ h9 => h9) rfl dX3_bestChoice_28 ?_
    simp only [dk_bF, dk_bL, dk_bE, dk_bS, if_neg c_4] at hret
    exact hret _ _ _ _ (hP.sub [0, 17, 18, 19, 20, 21, 22, 23, 24, 1, 2, 3, 4, 5, 6, 7, 8, 9, 10, 11, 12, 13, 14, 15, 16] rfl) (hD.sub [0, 17, 18, 19, 20, 21, 22, 23, 24, 1, 2, 3, 4, 5, 6, 7, 8, 9, 10, 11, 12, 13, 14, 15, 16] (by decide) rfl) hS dX3_bestChoice_31
end
section
set_option maxHeartbeats 4000000 in
set_option maxRecDepth 100000 in
/-- best -/
theorem c_X3_best (l : Launch) (hlt : l.stackTraces = false) (dC : Nat → ClassId) (dI : Nat → Nat → Nat) (cI cII : ClassId) (aX : Nat → Nat) (ch : Nat) (ep : Int32) (ol : Int32) (aN : Nat → Nat) (fr : Nat → Int32) (le : Nat → Int32) (fi : Nat → Int32) (ne : Nat → Int32) (fl : Nat → Int32) (ar : Nat → Int32) (pr : Nat → Int32) (sp : Int32) (aC : Nat → Nat) (cf : Nat → Int32) (cp : Nat → Int32) (aB : Nat → Nat) (F : Nat → Nat → Int32) (li : Int32) (en : Int32) (d : Nat) (z : Nat) (k : Nat) (st : dk_SS) (x0 : Int32) (hz : Nat) (hz1 : z ≤ 4) (hd1 : d ≤ 6) (hfr : ∀ k, k < 7 → vp_in (fr k) 7) (har : ∀ j, j < z → ¬ ar j = 0) (har2 : ∀ j, j < z → ¬ (ar j).toInt64 * (ar j).toInt64 = 0) (hk1 : k ≤ 5) (hcv : ∀ i, 0 < i → i < k → ¬ cf i - cf (i - 1) = 0) : dk_Xi l yX3_best wsX3_best ({ frames := 16, cells := 1, slots := 6, locals := 395 }) (dC, dI) (dk_T cI cII) [.ref (aX 0), .int x0] (dk_X cI cII aX (aN 0) (aC 0) (aB 0) ch ep ol ++ dk_N cI cII aN fr le fi ne fl (nI d) ar pr (nI z) sp ++ dk_C cI cII aC cf cp (nI k) ++ dk_SW cI cII aB (aN 0) F li en st) hz (fun (r : Int32) (_ : Unit) => dk_kBest x0 = 0 ∧ r = (if (dk_bS ol d z fr le fi fl ar pr sp cf cp k ep F st).2.2.2.2.1 = 0 then (-1) else if x0 = 0 then (dk_bS ol d z fr le fi fl ar pr sp cf cp k ep F st).2.2.2.2.2.1 else (dk_bS ol d z fr le fi fl ar pr sp cf cp k ep F st).2.2.2.2.2.2)) (fun _ => dk_X cI cII aX (aN 0) (aC 0) (aB 0) ch ep 0 ++ dk_N cI cII aN fr le fi ne fl (nI d) ar pr (nI z) sp ++ dk_C cI cII aC cf cp (nI k) ++ dk_SW cI cII aB (aN 0) (dk_bF ol d z le fi fl ar sp F) (dk_bL ol cf cp k fl li) (dk_bE ol ep en) (dk_bS ol d z fr le fi fl ar pr sp cf cp k ep F st)) (dk_px (dk_kBest x0)) 1 6 := by
  refine dk_ofXi (cc := cX3_best) (maxL := 3) (by decide) rfl (Nat.le_of_ble_eq_true rfl) ?_
  intro p e s m args below meth c A ls Q ⟨hx, hb, hml, hts, hown, hnm⟩ hlocks hno hsz hK hP hD hA hS hl hE hQ hret hthr
  have hT : ∀ w ∈ dk_tbl, w.before args s = true := fun w h => hts w (List.mem_cons_of_mem _ h)
  have hown : s.vm.findClass RX3 = some m.cls := hown
  have hl : lv_has ls 3 [(0, .ref (aX 0)), (1, .int x0)] := hl
  refine lv_iload_n hx hb dX3_best_0 rfl (lv_at hl 1 rfl) ?_
  refine lv_iconst (v := 0) hx hb dX3_best_1 (by decide) ?_
  refine lv_iconst (v := 1) hx hb dX3_best_2 (by decide) ?_
  refine dk_xdem (vx_runS (As := [.int x0, .int 0, .int 1]) (rest := []) ⟨hx, hb, hml, hown, hT⟩ (c_X3_demand l hlt x0 0 1) (va_cwS 3 hT (dk_gS mw_254 mw_255 mw_23 mw_256) rfl rfl rfl (by decide +kernel) ⟨Nat.le_of_ble_eq_true rfl, Nat.le_of_ble_eq_true rfl⟩) (dk_preD hE hS hA) rfl rfl hl.1 rfl (lv_room (Nat.le_of_ble_eq_true rfl)) dX3_best_3 ⟨Nat.le_of_ble_eq_true rfl, Nat.le_of_ble_eq_true rfl⟩) (fun ce q9 H1 hc hz hk h1 h2 h3 => hthr dk_IAE ce q9 H1 _ _ _ _ _ _ (Or.inl ⟨rfl, by unfold dk_kBest; rw [if_pos hc]⟩) (hP.kept (fun k q hq => hk q.1 (hP k q hq).lt)) hD ⟨Nat.le_trans hS.1 hz, fun q h1 h2 => (hk q (Nat.lt_of_lt_of_le h1 hS.1)).trans (hS.2.1 q h1 h2), hS.2.2⟩ h1 h2 h3 (Nat.le_of_ble_eq_true rfl) (Nat.le_of_ble_eq_true rfl)) (fun hd_3 => ?_)
  refine lv_aload_n hx hb dX3_best_6 rfl (lv_at hl 0 rfl) ?_
  refine dk_callr (wr := []) (va_runV (As := []) (rest := []) ⟨hx, hb, hml, hown, hT⟩ (c_X3_bestChoice l dC dI cI cII aX ch ep ol aN fr le fi ne fl ar pr sp aC cf cp aB F li en d z k st _ hz1 hd1 hfr har har2 hk1 hcv) (cwV 0 hT (dk_gV mw_187 mw_189 mw_1 mw_23 mw_190) rfl rfl rfl (by decide +kernel) ⟨Nat.le_of_ble_eq_true rfl, Nat.le_of_ble_eq_true rfl⟩) (dk_preV hK hP hD [0, 1, 2, 3, 4, 5, 6, 7, 8, 9, 10, 11, 12, 13, 14, 15, 16, 17, 18, 19, 20, 21, 22, 23, 24] rfl rfl (q0 := 0) (ci := 3) rfl rfl) rfl rfl hl.1 rfl (lv_room (Nat.le_of_ble_eq_true rfl)) dX3_best_7 ⟨Nat.le_of_ble_eq_true rfl, Nat.le_of_ble_eq_true rfl⟩) hP hD hS hA [0, 1, 2, 3, 4, 5, 6, 7, 8, 9, 10, 11, 12, 13, 14, 15, 16, 17, 18, 19, 20, 21, 22, 23, 24] [] rfl rfl rfl (by decide) (fun H locs hP hD hS => ?_)
  have hP : va_P (dC, dI) vwCl (dk_X cI cII aX (aN 0) (aC 0) (aB 0) ch ep 0 ++ dk_N cI cII aN fr le fi ne fl (nI d) ar pr (nI z) sp ++ dk_C cI cII aC cf cp (nI k) ++ dk_SW cI cII aB (aN 0) (dk_bF ol d z le fi fl ar sp F) (dk_bL ol cf cp k fl li) (dk_bE ol ep en) (dk_bS ol d z fr le fi fl ar pr sp cf cp k ep F st)) H := hP
  have hD : va_D A (dk_X cI cII aX (aN 0) (aC 0) (aB 0) ch ep 0 ++ dk_N cI cII aN fr le fi ne fl (nI d) ar pr (nI z) sp ++ dk_C cI cII aC cf cp (nI k) ++ dk_SW cI cII aB (aN 0) (dk_bF ol d z le fi fl ar sp F) (dk_bL ol cf cp k fl li) (dk_bE ol ep en) (dk_bS ol d z fr le fi fl ar pr sp cf cp k ep F st)) := hD
  refine lv_astore_n (lv' := [(2, .ref (aB 0)), (0, .ref (aX 0)), (1, .int x0)]) hx hb dX3_best_10 rfl hl (by decide) rfl (fun ls hl => ?_)
  refine lv_aload_n hx hb dX3_best_11 rfl (lv_at hl 0 rfl) ?_
  refine va_get (D := (dC, dI)) (ci := 2) (v := .int ((dk_bS ol d z fr le fi fl ar pr sp cf cp k ep F st).2.2.2.2.1)) (C := RX2) (T := TX2) (N := 11) hx hb hT in_X2 hown hK hP 12 rfl rfl 8 (by decide) (hT _ mw_124) (fun _ h9 => h9) rfl dX3_best_12 ?_
  refine lv_if_ne (tgt := 20) hx hb dX3_best_15 (by decide) (fun c_15 => ?_) (fun c_15 => ?_)
  · refine lv_iload_n hx hb dX3_best_20 rfl (lv_at hl 2 rfl) ?_
    refine lv_if_ne (tgt := 31) hx hb dX3_best_21 (by decide) (fun c_21 => ?_) (fun c_21 => ?_)
    · refine lv_aload_n hx hb dX3_best_31 rfl (lv_at hl 0 rfl) ?_
      refine va_get (D := (dC, dI)) (ci := 2) (v := .int ((dk_bS ol d z fr le fi fl ar pr sp cf cp k ep F st).2.2.2.2.2.2)) (C := RX2) (T := TX2) (N := 11) hx hb hT in_X2 hown hK hP 12 rfl rfl 10 (by decide) (hT _ mw_128) (fun _ h9 => h9) rfl dX3_best_32 ?_
      refine W.widen (k := 1) (n := 6) (Nat.le_of_ble_eq_true rfl) (Nat.le_of_ble_eq_true rfl) ?_
      exact hret _ () _ _ _ _ ⟨(by unfold dk_kBest; rw [if_neg hd_3]), (by rw [if_neg c_15, if_neg c_21])⟩ hP hD hS dX3_best_35
    · refine lv_aload_n hx hb dX3_best_24 rfl (lv_at hl 0 rfl) ?_
      refine va_get (D := (dC, dI)) (ci := 2) (v := .int ((dk_bS ol d z fr le fi fl ar pr sp cf cp k ep F st).2.2.2.2.2.1)) (C := RX2) (T := TX2) (N := 11) hx hb hT in_X2 hown hK hP 12 rfl rfl 9 (by decide) (hT _ mw_126) (fun _ h9 => h9) rfl dX3_best_25 ?_
      refine lv_goto (tgt := 35) hx hb dX3_best_28 (by decide) ?_
      refine W.widen (k := 1) (n := 6) (Nat.le_of_ble_eq_true rfl) (Nat.le_of_ble_eq_true rfl) ?_
      exact hret _ () _ _ _ _ ⟨(by unfold dk_kBest; rw [if_neg hd_3]), (by rw [if_neg c_15, if_pos c_21])⟩ hP hD hS dX3_best_35
  · refine lv_iconst (v := (-1)) hx hb dX3_best_18 (by decide) ?_
    refine W.widen (k := 1) (n := 6) (Nat.le_of_ble_eq_true rfl) (Nat.le_of_ble_eq_true rfl) ?_
    exact hret _ () _ _ _ _ ⟨(by unfold dk_kBest; rw [if_neg hd_3]), (by rw [if_pos c_15])⟩ hP hD hS dX3_best_19
end
section
set_option maxHeartbeats 4000000 in
set_option maxRecDepth 100000 in
/-- chosen -/
theorem c_X3_chosen (l : Launch) (hlt : l.stackTraces = false) (dC : Nat → ClassId) (dI : Nat → Nat → Nat) (cI cII : ClassId) (aX : Nat → Nat) (ch : Nat) (ep : Int32) (ol : Int32) (aN : Nat → Nat) (fr : Nat → Int32) (le : Nat → Int32) (fi : Nat → Int32) (ne : Nat → Int32) (fl : Nat → Int32) (ar : Nat → Int32) (pr : Nat → Int32) (sp : Int32) (aC : Nat → Nat) (cf : Nat → Int32) (cp : Nat → Int32) (aB : Nat → Nat) (F : Nat → Nat → Int32) (li : Int32) (en : Int32) (d : Nat) (z : Nat) (k : Nat) (st : dk_SS) (x0 : Int32) (hz : Nat) (hz1 : z ≤ 4) (hd1 : d ≤ 6) (hfr : ∀ k, k < 7 → vp_in (fr k) 7) (har : ∀ j, j < z → ¬ ar j = 0) (har2 : ∀ j, j < z → ¬ (ar j).toInt64 * (ar j).toInt64 = 0) (hk1 : k ≤ 5) (hcv : ∀ i, 0 < i → i < k → ¬ cf i - cf (i - 1) = 0) : dk_Xi l yX3_chosen wsX3_chosen ({ frames := 16, cells := 1, slots := 6, locals := 395 }) (dC, dI) (dk_T cI cII) [.ref (aX 0), .int x0] (dk_X cI cII aX (aN 0) (aC 0) (aB 0) ch ep ol ++ dk_N cI cII aN fr le fi ne fl (nI d) ar pr (nI z) sp ++ dk_C cI cII aC cf cp (nI k) ++ dk_SW cI cII aB (aN 0) F li en st) hz (fun (r : Int32) (_ : Unit) => dk_kIn 1 d x0 = 0 ∧ r = (if (dk_bS ol d z fr le fi fl ar pr sp cf cp k ep F st).2.2.2.2.1 = 0 then (-1) else (dk_bS ol d z fr le fi fl ar pr sp cf cp k ep F st).2.2.1 x0.toNatClampNeg)) (fun _ => dk_X cI cII aX (aN 0) (aC 0) (aB 0) ch ep 0 ++ dk_N cI cII aN fr le fi ne fl (nI d) ar pr (nI z) sp ++ dk_C cI cII aC cf cp (nI k) ++ dk_SW cI cII aB (aN 0) (dk_bF ol d z le fi fl ar sp F) (dk_bL ol cf cp k fl li) (dk_bE ol ep en) (dk_bS ol d z fr le fi fl ar pr sp cf cp k ep F st)) (dk_px (dk_kIn 1 d x0)) 1 6 := by
  refine dk_ofXi (cc := cX3_chosen) (maxL := 3) (by decide) rfl (Nat.le_of_ble_eq_true rfl) ?_
  intro p e s m args below meth c A ls Q ⟨hx, hb, hml, hts, hown, hnm⟩ hlocks hno hsz hK hP hD hA hS hl hE hQ hret hthr
  have hT : ∀ w ∈ dk_tbl, w.before args s = true := fun w h => hts w (List.mem_cons_of_mem _ h)
  have hown : s.vm.findClass RX3 = some m.cls := hown
  have hl : lv_has ls 3 [(0, .ref (aX 0)), (1, .int x0)] := hl
  refine lv_iload_n hx hb dX3_chosen_0 rfl (lv_at hl 1 rfl) ?_
  refine lv_iconst (v := 1) hx hb dX3_chosen_1 (by decide) ?_
  refine lv_aload_n hx hb dX3_chosen_2 rfl (lv_at hl 0 rfl) ?_
  refine va_get (D := (dC, dI)) (ci := 3) (v := .ref (aN 0)) (C := RX3) (T := TX3) (N := 6) hx hb hT in_X3 hown hK hP 0 rfl rfl 0 (by decide) (hT _ mw_152) (fun _ h9 => h9) rfl dX3_chosen_3 ?_
  refine va_get (D := (dC, dI)) (ci := 1) (v := .int (nI d)) (C := RX1) (T := TX1) (N := 10) hx hb hT in_X1 hown hK hP 1 rfl rfl 5 (by decide) (hT _ mw_58) (fun _ h9 => h9) rfl dX3_chosen_6 ?_
  refine dk_xdem (vx_runS (As := [.int x0, .int 1, .int (nI d)]) (rest := []) ⟨hx, hb, hml, hown, hT⟩ (c_X3_demand l hlt x0 1 (nI d)) (va_cwS 3 hT (dk_gS mw_254 mw_255 mw_23 mw_256) rfl rfl rfl (by decide +kernel) ⟨Nat.le_of_ble_eq_true rfl, Nat.le_of_ble_eq_true rfl⟩) (dk_preD hE hS hA) rfl rfl hl.1 rfl (lv_room (Nat.le_of_ble_eq_true rfl)) dX3_chosen_9 ⟨Nat.le_of_ble_eq_true rfl, Nat.le_of_ble_eq_true rfl⟩) (fun ce q9 H1 hc hz hk h1 h2 h3 => hthr dk_IAE ce q9 H1 _ _ _ _ _ _ (Or.inl ⟨rfl, by unfold dk_kIn; rw [if_pos hc]⟩) (hP.kept (fun k q hq => hk q.1 (hP k q hq).lt)) hD ⟨Nat.le_trans hS.1 hz, fun q h1 h2 => (hk q (Nat.lt_of_lt_of_le h1 hS.1)).trans (hS.2.1 q h1 h2), hS.2.2⟩ h1 h2 h3 (Nat.le_of_ble_eq_true rfl) (Nat.le_of_ble_eq_true rfl)) (fun hd_9 => ?_)
  obtain ⟨j, hj1, hj2, rfl⟩ := dk_of (lo := 1) hd_9 rfl (by omega) (by omega)
  simp only [nI_clamp (show j < 2 ^ 31 by omega)] at hret
  refine lv_aload_n hx hb dX3_chosen_12 rfl (lv_at hl 0 rfl) ?_
  refine dk_callr (wr := []) (va_runV (As := []) (rest := []) ⟨hx, hb, hml, hown, hT⟩ (c_X3_bestChoice l dC dI cI cII aX ch ep ol aN fr le fi ne fl ar pr sp aC cf cp aB F li en d z k st _ hz1 hd1 hfr har har2 hk1 hcv) (cwV 0 hT (dk_gV mw_187 mw_189 mw_1 mw_23 mw_190) rfl rfl rfl (by decide +kernel) ⟨Nat.le_of_ble_eq_true rfl, Nat.le_of_ble_eq_true rfl⟩) (dk_preV hK hP hD [0, 1, 2, 3, 4, 5, 6, 7, 8, 9, 10, 11, 12, 13, 14, 15, 16, 17, 18, 19, 20, 21, 22, 23, 24] rfl rfl (q0 := 0) (ci := 3) rfl rfl) rfl rfl hl.1 rfl (lv_room (Nat.le_of_ble_eq_true rfl)) dX3_chosen_13 ⟨Nat.le_of_ble_eq_true rfl, Nat.le_of_ble_eq_true rfl⟩) hP hD hS hA [0, 1, 2, 3, 4, 5, 6, 7, 8, 9, 10, 11, 12, 13, 14, 15, 16, 17, 18, 19, 20, 21, 22, 23, 24] [] rfl rfl rfl (by decide) (fun H locs hP hD hS => ?_)
  have hP : va_P (dC, dI) vwCl (dk_X cI cII aX (aN 0) (aC 0) (aB 0) ch ep 0 ++ dk_N cI cII aN fr le fi ne fl (nI d) ar pr (nI z) sp ++ dk_C cI cII aC cf cp (nI k) ++ dk_SW cI cII aB (aN 0) (dk_bF ol d z le fi fl ar sp F) (dk_bL ol cf cp k fl li) (dk_bE ol ep en) (dk_bS ol d z fr le fi fl ar pr sp cf cp k ep F st)) H := hP
  have hD : va_D A (dk_X cI cII aX (aN 0) (aC 0) (aB 0) ch ep 0 ++ dk_N cI cII aN fr le fi ne fl (nI d) ar pr (nI z) sp ++ dk_C cI cII aC cf cp (nI k) ++ dk_SW cI cII aB (aN 0) (dk_bF ol d z le fi fl ar sp F) (dk_bL ol cf cp k fl li) (dk_bE ol ep en) (dk_bS ol d z fr le fi fl ar pr sp cf cp k ep F st)) := hD
  refine lv_astore_n (lv' := [(2, .ref (aB 0)), (0, .ref (aX 0)), (1, .int (nI j))]) hx hb dX3_chosen_16 rfl hl (by decide) rfl (fun ls hl => ?_)
  refine lv_aload_n hx hb dX3_chosen_17 rfl (lv_at hl 0 rfl) ?_
  refine va_get (D := (dC, dI)) (ci := 2) (v := .int ((dk_bS ol d z fr le fi fl ar pr sp cf cp k ep F st).2.2.2.2.1)) (C := RX2) (T := TX2) (N := 11) hx hb hT in_X2 hown hK hP 12 rfl rfl 8 (by decide) (hT _ mw_124) (fun _ h9 => h9) rfl dX3_chosen_18 ?_
  refine lv_if_eq (tgt := 33) hx hb dX3_chosen_21 (by decide) (fun c_21 => ?_) (fun c_21 => ?_)
  · refine lv_iconst (v := (-1)) hx hb dX3_chosen_33 (by decide) ?_
    refine W.widen (k := 1) (n := 6) (Nat.le_of_ble_eq_true rfl) (Nat.le_of_ble_eq_true rfl) ?_
    exact hret _ () _ _ _ _ ⟨(by unfold dk_kIn; rw [if_neg hd_9]), (by rw [if_pos c_21])⟩ hP hD hS dX3_chosen_34
  · refine lv_aload_n hx hb dX3_chosen_24 rfl (lv_at hl 0 rfl) ?_
    refine va_get (D := (dC, dI)) (ci := 2) (v := .ref (aB 4)) (C := RX2) (T := TX2) (N := 11) hx hb hT in_X2 hown hK hP 12 rfl rfl 6 (by decide) (hT _ mw_120) (fun _ h9 => h9) rfl dX3_chosen_25 ?_
    refine lv_iload_n hx hb dX3_chosen_28 rfl (lv_at hl 2 rfl) ?_
    refine dk_iald (q0 := 16) (t0 := 0) (i := j) hx hb hK hP rfl rfl rfl (by omega) (by decide) dX3_chosen_29 ?_
    refine lv_goto (tgt := 34) hx hb dX3_chosen_30 (by decide) ?_
    refine W.widen (k := 1) (n := 6) (Nat.le_of_ble_eq_true rfl) (Nat.le_of_ble_eq_true rfl) ?_
    exact hret _ () _ _ _ _ ⟨(by unfold dk_kIn; rw [if_neg hd_9]), (by rw [if_neg c_21])⟩ hP hD hS dX3_chosen_34
end
section
set_option maxHeartbeats 4000000 in
set_option maxRecDepth 100000 in
/-- pressure -/
theorem c_X3_pressure (l : Launch) (hlt : l.stackTraces = false) (dC : Nat → ClassId) (dI : Nat → Nat → Nat) (cI cII : ClassId) (aX : Nat → Nat) (ch : Nat) (ep : Int32) (ol : Int32) (aN : Nat → Nat) (fr : Nat → Int32) (le : Nat → Int32) (fi : Nat → Int32) (ne : Nat → Int32) (fl : Nat → Int32) (ar : Nat → Int32) (pr : Nat → Int32) (sp : Int32) (aC : Nat → Nat) (cf : Nat → Int32) (cp : Nat → Int32) (aB : Nat → Nat) (F : Nat → Nat → Int32) (li : Int32) (en : Int32) (d : Nat) (z : Nat) (k : Nat) (st : dk_SS) (x0 : Int32) (hz : Nat) (hz1 : z ≤ 4) (hd1 : d ≤ 6) (hfr : ∀ k, k < 7 → vp_in (fr k) 7) (har : ∀ j, j < z → ¬ ar j = 0) (har2 : ∀ j, j < z → ¬ (ar j).toInt64 * (ar j).toInt64 = 0) (hk1 : k ≤ 5) (hcv : ∀ i, 0 < i → i < k → ¬ cf i - cf (i - 1) = 0) : dk_Xi l yX3_pressure wsX3_pressure ({ frames := 16, cells := 1, slots := 6, locals := 395 }) (dC, dI) (dk_T cI cII) [.ref (aX 0), .int x0] (dk_X cI cII aX (aN 0) (aC 0) (aB 0) ch ep ol ++ dk_N cI cII aN fr le fi ne fl (nI d) ar pr (nI z) sp ++ dk_C cI cII aC cf cp (nI k) ++ dk_SW cI cII aB (aN 0) F li en st) hz (fun (r : Int32) (_ : Unit) => dk_kIn 0 d x0 = 0 ∧ r = (if (dk_bS ol d z fr le fi fl ar pr sp cf cp k ep F st).2.2.2.2.1 = 0 then (-1) else (dk_bS ol d z fr le fi fl ar pr sp cf cp k ep F st).2.2.2.1 x0.toNatClampNeg)) (fun _ => dk_X cI cII aX (aN 0) (aC 0) (aB 0) ch ep 0 ++ dk_N cI cII aN fr le fi ne fl (nI d) ar pr (nI z) sp ++ dk_C cI cII aC cf cp (nI k) ++ dk_SW cI cII aB (aN 0) (dk_bF ol d z le fi fl ar sp F) (dk_bL ol cf cp k fl li) (dk_bE ol ep en) (dk_bS ol d z fr le fi fl ar pr sp cf cp k ep F st)) (dk_px (dk_kIn 0 d x0)) 1 6 := by
  refine dk_ofXi (cc := cX3_pressure) (maxL := 3) (by decide) rfl (Nat.le_of_ble_eq_true rfl) ?_
  intro p e s m args below meth c A ls Q ⟨hx, hb, hml, hts, hown, hnm⟩ hlocks hno hsz hK hP hD hA hS hl hE hQ hret hthr
  have hT : ∀ w ∈ dk_tbl, w.before args s = true := fun w h => hts w (List.mem_cons_of_mem _ h)
  have hown : s.vm.findClass RX3 = some m.cls := hown
  have hl : lv_has ls 3 [(0, .ref (aX 0)), (1, .int x0)] := hl
  refine lv_iload_n hx hb dX3_pressure_0 rfl (lv_at hl 1 rfl) ?_
  refine lv_iconst (v := 0) hx hb dX3_pressure_1 (by decide) ?_
  refine lv_aload_n hx hb dX3_pressure_2 rfl (lv_at hl 0 rfl) ?_
  refine va_get (D := (dC, dI)) (ci := 3) (v := .ref (aN 0)) (C := RX3) (T := TX3) (N := 6) hx hb hT in_X3 hown hK hP 0 rfl rfl 0 (by decide) (hT _ mw_152) (fun _ h9 => h9) rfl dX3_pressure_3 ?_
  refine va_get (D := (dC, dI)) (ci := 1) (v := .int (nI d)) (C := RX1) (T := TX1) (N := 10) hx hb hT in_X1 hown hK hP 1 rfl rfl 5 (by decide) (hT _ mw_58) (fun _ h9 => h9) rfl dX3_pressure_6 ?_
  refine dk_xdem (vx_runS (As := [.int x0, .int 0, .int (nI d)]) (rest := []) ⟨hx, hb, hml, hown, hT⟩ (c_X3_demand l hlt x0 0 (nI d)) (va_cwS 3 hT (dk_gS mw_254 mw_255 mw_23 mw_256) rfl rfl rfl (by decide +kernel) ⟨Nat.le_of_ble_eq_true rfl, Nat.le_of_ble_eq_true rfl⟩) (dk_preD hE hS hA) rfl rfl hl.1 rfl (lv_room (Nat.le_of_ble_eq_true rfl)) dX3_pressure_9 ⟨Nat.le_of_ble_eq_true rfl, Nat.le_of_ble_eq_true rfl⟩) (fun ce q9 H1 hc hz hk h1 h2 h3 => hthr dk_IAE ce q9 H1 _ _ _ _ _ _ (Or.inl ⟨rfl, by unfold dk_kIn; rw [if_pos hc]⟩) (hP.kept (fun k q hq => hk q.1 (hP k q hq).lt)) hD ⟨Nat.le_trans hS.1 hz, fun q h1 h2 => (hk q (Nat.lt_of_lt_of_le h1 hS.1)).trans (hS.2.1 q h1 h2), hS.2.2⟩ h1 h2 h3 (Nat.le_of_ble_eq_true rfl) (Nat.le_of_ble_eq_true rfl)) (fun hd_9 => ?_)
  obtain ⟨j, hj1, hj2, rfl⟩ := dk_of (lo := 0) hd_9 rfl (by omega) (by omega)
  simp only [nI_clamp (show j < 2 ^ 31 by omega)] at hret
  refine lv_aload_n hx hb dX3_pressure_12 rfl (lv_at hl 0 rfl) ?_
  refine dk_callr (wr := []) (va_runV (As := []) (rest := []) ⟨hx, hb, hml, hown, hT⟩ (c_X3_bestChoice l dC dI cI cII aX ch ep ol aN fr le fi ne fl ar pr sp aC cf cp aB F li en d z k st _ hz1 hd1 hfr har har2 hk1 hcv) (cwV 0 hT (dk_gV mw_187 mw_189 mw_1 mw_23 mw_190) rfl rfl rfl (by decide +kernel) ⟨Nat.le_of_ble_eq_true rfl, Nat.le_of_ble_eq_true rfl⟩) (dk_preV hK hP hD [0, 1, 2, 3, 4, 5, 6, 7, 8, 9, 10, 11, 12, 13, 14, 15, 16, 17, 18, 19, 20, 21, 22, 23, 24] rfl rfl (q0 := 0) (ci := 3) rfl rfl) rfl rfl hl.1 rfl (lv_room (Nat.le_of_ble_eq_true rfl)) dX3_pressure_13 ⟨Nat.le_of_ble_eq_true rfl, Nat.le_of_ble_eq_true rfl⟩) hP hD hS hA [0, 1, 2, 3, 4, 5, 6, 7, 8, 9, 10, 11, 12, 13, 14, 15, 16, 17, 18, 19, 20, 21, 22, 23, 24] [] rfl rfl rfl (by decide) (fun H locs hP hD hS => ?_)
  have hP : va_P (dC, dI) vwCl (dk_X cI cII aX (aN 0) (aC 0) (aB 0) ch ep 0 ++ dk_N cI cII aN fr le fi ne fl (nI d) ar pr (nI z) sp ++ dk_C cI cII aC cf cp (nI k) ++ dk_SW cI cII aB (aN 0) (dk_bF ol d z le fi fl ar sp F) (dk_bL ol cf cp k fl li) (dk_bE ol ep en) (dk_bS ol d z fr le fi fl ar pr sp cf cp k ep F st)) H := hP
  have hD : va_D A (dk_X cI cII aX (aN 0) (aC 0) (aB 0) ch ep 0 ++ dk_N cI cII aN fr le fi ne fl (nI d) ar pr (nI z) sp ++ dk_C cI cII aC cf cp (nI k) ++ dk_SW cI cII aB (aN 0) (dk_bF ol d z le fi fl ar sp F) (dk_bL ol cf cp k fl li) (dk_bE ol ep en) (dk_bS ol d z fr le fi fl ar pr sp cf cp k ep F st)) := hD
  refine lv_astore_n (lv' := [(2, .ref (aB 0)), (0, .ref (aX 0)), (1, .int (nI j))]) hx hb dX3_pressure_16 rfl hl (by decide) rfl (fun ls hl => ?_)
  refine lv_aload_n hx hb dX3_pressure_17 rfl (lv_at hl 0 rfl) ?_
  refine va_get (D := (dC, dI)) (ci := 2) (v := .int ((dk_bS ol d z fr le fi fl ar pr sp cf cp k ep F st).2.2.2.2.1)) (C := RX2) (T := TX2) (N := 11) hx hb hT in_X2 hown hK hP 12 rfl rfl 8 (by decide) (hT _ mw_124) (fun _ h9 => h9) rfl dX3_pressure_18 ?_
  refine lv_if_eq (tgt := 33) hx hb dX3_pressure_21 (by decide) (fun c_21 => ?_) (fun c_21 => ?_)
  · refine lv_iconst (v := (-1)) hx hb dX3_pressure_33 (by decide) ?_
    refine W.widen (k := 1) (n := 6) (Nat.le_of_ble_eq_true rfl) (Nat.le_of_ble_eq_true rfl) ?_
    exact hret _ () _ _ _ _ ⟨(by unfold dk_kIn; rw [if_neg hd_9]), (by rw [if_pos c_21])⟩ hP hD hS dX3_pressure_34
  · refine lv_aload_n hx hb dX3_pressure_24 rfl (lv_at hl 0 rfl) ?_
    refine va_get (D := (dC, dI)) (ci := 2) (v := .ref (aB 5)) (C := RX2) (T := TX2) (N := 11) hx hb hT in_X2 hown hK hP 12 rfl rfl 7 (by decide) (hT _ mw_122) (fun _ h9 => h9) rfl dX3_pressure_25 ?_
    refine lv_iload_n hx hb dX3_pressure_28 rfl (lv_at hl 2 rfl) ?_
    refine dk_iald (q0 := 17) (t0 := 0) (i := j) hx hb hK hP rfl rfl rfl (by omega) (by decide) dX3_pressure_29 ?_
    refine lv_goto (tgt := 34) hx hb dX3_pressure_30 (by decide) ?_
    refine W.widen (k := 1) (n := 6) (Nat.le_of_ble_eq_true rfl) (Nat.le_of_ble_eq_true rfl) ?_
    exact hret _ () _ _ _ _ ⟨(by unfold dk_kIn; rw [if_neg hd_9]), (by rw [if_neg c_21])⟩ hP hD hS dX3_pressure_34
end
section
set_option maxHeartbeats 4000000 in
set_option maxRecDepth 100000 in
/-- damper -/
theorem c_X3_damper (l : Launch) (hlt : l.stackTraces = false) (dC : Nat → ClassId) (dI : Nat → Nat → Nat) (cI cII : ClassId) (aX : Nat → Nat) (ch : Nat) (ep : Int32) (ol : Int32) (aN : Nat → Nat) (fr : Nat → Int32) (le : Nat → Int32) (fi : Nat → Int32) (ne : Nat → Int32) (fl : Nat → Int32) (ar : Nat → Int32) (pr : Nat → Int32) (sp : Int32) (aC : Nat → Nat) (cf : Nat → Int32) (cp : Nat → Int32) (aB : Nat → Nat) (F : Nat → Nat → Int32) (li : Int32) (en : Int32) (d : Nat) (z : Nat) (k : Nat) (st : dk_SS) (x0 : Int32) (hz : Nat) (hz1 : z ≤ 4) (hd1 : d ≤ 6) (hfr : ∀ k, k < 7 → vp_in (fr k) 7) (har : ∀ j, j < z → ¬ ar j = 0) (har2 : ∀ j, j < z → ¬ (ar j).toInt64 * (ar j).toInt64 = 0) (hk1 : k ≤ 5) (hcv : ∀ i, 0 < i → i < k → ¬ cf i - cf (i - 1) = 0) : dk_Xi l yX3_damper wsX3_damper ({ frames := 16, cells := 1, slots := 6, locals := 395 }) (dC, dI) (dk_T cI cII) [.ref (aX 0), .int x0] (dk_X cI cII aX (aN 0) (aC 0) (aB 0) ch ep ol ++ dk_N cI cII aN fr le fi ne fl (nI d) ar pr (nI z) sp ++ dk_C cI cII aC cf cp (nI k) ++ dk_SW cI cII aB (aN 0) F li en st) hz (fun (r : Int32) (_ : Unit) => dk_kIn 1 d x0 = 0 ∧ r = (if (dk_bS ol d z fr le fi fl ar pr sp cf cp k ep F st).2.2.2.2.1 = 0 then (-1) else if ne x0.toNatClampNeg = 0 then 0 else (dk_bS ol d z fr le fi fl ar pr sp cf cp k ep F st).2.2.2.2.2.2 - (dk_bS ol d z fr le fi fl ar pr sp cf cp k ep F st).2.2.2.1 x0.toNatClampNeg)) (fun _ => dk_X cI cII aX (aN 0) (aC 0) (aB 0) ch ep 0 ++ dk_N cI cII aN fr le fi ne fl (nI d) ar pr (nI z) sp ++ dk_C cI cII aC cf cp (nI k) ++ dk_SW cI cII aB (aN 0) (dk_bF ol d z le fi fl ar sp F) (dk_bL ol cf cp k fl li) (dk_bE ol ep en) (dk_bS ol d z fr le fi fl ar pr sp cf cp k ep F st)) (dk_px (dk_kIn 1 d x0)) 1 6 := by
  refine dk_ofXi (cc := cX3_damper) (maxL := 3) (by decide) rfl (Nat.le_of_ble_eq_true rfl) ?_
  intro p e s m args below meth c A ls Q ⟨hx, hb, hml, hts, hown, hnm⟩ hlocks hno hsz hK hP hD hA hS hl hE hQ hret hthr
  have hT : ∀ w ∈ dk_tbl, w.before args s = true := fun w h => hts w (List.mem_cons_of_mem _ h)
  have hown : s.vm.findClass RX3 = some m.cls := hown
  have hl : lv_has ls 3 [(0, .ref (aX 0)), (1, .int x0)] := hl
  refine lv_iload_n hx hb dX3_damper_0 rfl (lv_at hl 1 rfl) ?_
  refine lv_iconst (v := 1) hx hb dX3_damper_1 (by decide) ?_
  refine lv_aload_n hx hb dX3_damper_2 rfl (lv_at hl 0 rfl) ?_
  refine va_get (D := (dC, dI)) (ci := 3) (v := .ref (aN 0)) (C := RX3) (T := TX3) (N := 6) hx hb hT in_X3 hown hK hP 0 rfl rfl 0 (by decide) (hT _ mw_152) (fun _ h9 => h9) rfl dX3_damper_3 ?_
  refine va_get (D := (dC, dI)) (ci := 1) (v := .int (nI d)) (C := RX1) (T := TX1) (N := 10) hx hb hT in_X1 hown hK hP 1 rfl rfl 5 (by decide) (hT _ mw_58) (fun _ h9 => h9) rfl dX3_damper_6 ?_
  refine dk_xdem (vx_runS (As := [.int x0, .int 1, .int (nI d)]) (rest := []) ⟨hx, hb, hml, hown, hT⟩ (c_X3_demand l hlt x0 1 (nI d)) (va_cwS 3 hT (dk_gS mw_254 mw_255 mw_23 mw_256) rfl rfl rfl (by decide +kernel) ⟨Nat.le_of_ble_eq_true rfl, Nat.le_of_ble_eq_true rfl⟩) (dk_preD hE hS hA) rfl rfl hl.1 rfl (lv_room (Nat.le_of_ble_eq_true rfl)) dX3_damper_9 ⟨Nat.le_of_ble_eq_true rfl, Nat.le_of_ble_eq_true rfl⟩) (fun ce q9 H1 hc hz hk h1 h2 h3 => hthr dk_IAE ce q9 H1 _ _ _ _ _ _ (Or.inl ⟨rfl, by unfold dk_kIn; rw [if_pos hc]⟩) (hP.kept (fun k q hq => hk q.1 (hP k q hq).lt)) hD ⟨Nat.le_trans hS.1 hz, fun q h1 h2 => (hk q (Nat.lt_of_lt_of_le h1 hS.1)).trans (hS.2.1 q h1 h2), hS.2.2⟩ h1 h2 h3 (Nat.le_of_ble_eq_true rfl) (Nat.le_of_ble_eq_true rfl)) (fun hd_9 => ?_)
  obtain ⟨j, hj1, hj2, rfl⟩ := dk_of (lo := 1) hd_9 rfl (by omega) (by omega)
  simp only [nI_clamp (show j < 2 ^ 31 by omega)] at hret
  refine lv_aload_n hx hb dX3_damper_12 rfl (lv_at hl 0 rfl) ?_
  refine dk_callr (wr := []) (va_runV (As := []) (rest := []) ⟨hx, hb, hml, hown, hT⟩ (c_X3_bestChoice l dC dI cI cII aX ch ep ol aN fr le fi ne fl ar pr sp aC cf cp aB F li en d z k st _ hz1 hd1 hfr har har2 hk1 hcv) (cwV 0 hT (dk_gV mw_187 mw_189 mw_1 mw_23 mw_190) rfl rfl rfl (by decide +kernel) ⟨Nat.le_of_ble_eq_true rfl, Nat.le_of_ble_eq_true rfl⟩) (dk_preV hK hP hD [0, 1, 2, 3, 4, 5, 6, 7, 8, 9, 10, 11, 12, 13, 14, 15, 16, 17, 18, 19, 20, 21, 22, 23, 24] rfl rfl (q0 := 0) (ci := 3) rfl rfl) rfl rfl hl.1 rfl (lv_room (Nat.le_of_ble_eq_true rfl)) dX3_damper_13 ⟨Nat.le_of_ble_eq_true rfl, Nat.le_of_ble_eq_true rfl⟩) hP hD hS hA [0, 1, 2, 3, 4, 5, 6, 7, 8, 9, 10, 11, 12, 13, 14, 15, 16, 17, 18, 19, 20, 21, 22, 23, 24] [] rfl rfl rfl (by decide) (fun H locs hP hD hS => ?_)
  have hP : va_P (dC, dI) vwCl (dk_X cI cII aX (aN 0) (aC 0) (aB 0) ch ep 0 ++ dk_N cI cII aN fr le fi ne fl (nI d) ar pr (nI z) sp ++ dk_C cI cII aC cf cp (nI k) ++ dk_SW cI cII aB (aN 0) (dk_bF ol d z le fi fl ar sp F) (dk_bL ol cf cp k fl li) (dk_bE ol ep en) (dk_bS ol d z fr le fi fl ar pr sp cf cp k ep F st)) H := hP
  have hD : va_D A (dk_X cI cII aX (aN 0) (aC 0) (aB 0) ch ep 0 ++ dk_N cI cII aN fr le fi ne fl (nI d) ar pr (nI z) sp ++ dk_C cI cII aC cf cp (nI k) ++ dk_SW cI cII aB (aN 0) (dk_bF ol d z le fi fl ar sp F) (dk_bL ol cf cp k fl li) (dk_bE ol ep en) (dk_bS ol d z fr le fi fl ar pr sp cf cp k ep F st)) := hD
  refine lv_astore_n (lv' := [(2, .ref (aB 0)), (0, .ref (aX 0)), (1, .int (nI j))]) hx hb dX3_damper_16 rfl hl (by decide) rfl (fun ls hl => ?_)
  refine lv_aload_n hx hb dX3_damper_17 rfl (lv_at hl 0 rfl) ?_
  refine va_get (D := (dC, dI)) (ci := 2) (v := .int ((dk_bS ol d z fr le fi fl ar pr sp cf cp k ep F st).2.2.2.2.1)) (C := RX2) (T := TX2) (N := 11) hx hb hT in_X2 hown hK hP 12 rfl rfl 8 (by decide) (hT _ mw_124) (fun _ h9 => h9) rfl dX3_damper_18 ?_
  refine lv_if_ne (tgt := 26) hx hb dX3_damper_21 (by decide) (fun c_21 => ?_) (fun c_21 => ?_)
  · refine lv_aload_n hx hb dX3_damper_26 rfl (lv_at hl 1 rfl) ?_
    refine va_get (D := (dC, dI)) (ci := 3) (v := .ref (aN 0)) (C := RX3) (T := TX3) (N := 6) hx hb hT in_X3 hown hK hP 0 rfl rfl 0 (by decide) (hT _ mw_152) (fun _ h9 => h9) rfl dX3_damper_27 ?_
    refine va_get (D := (dC, dI)) (ci := 1) (v := .ref (aN 4)) (C := RX1) (T := TX1) (N := 10) hx hb hT in_X1 hown hK hP 1 rfl rfl 3 (by decide) (hT _ mw_54) (fun _ h9 => h9) rfl dX3_damper_30 ?_
    refine lv_iload_n hx hb dX3_damper_33 rfl (lv_at hl 2 rfl) ?_
    refine dk_iald (q0 := 5) (t0 := 0) (i := j) hx hb hK hP rfl rfl rfl (by omega) (by decide) dX3_damper_34 ?_
    refine lv_if_ne (tgt := 42) hx hb dX3_damper_35 (by decide) (fun c_35 => ?_) (fun c_35 => ?_)
    · refine lv_aload_n hx hb dX3_damper_42 rfl (lv_at hl 0 rfl) ?_
      refine va_get (D := (dC, dI)) (ci := 2) (v := .int ((dk_bS ol d z fr le fi fl ar pr sp cf cp k ep F st).2.2.2.2.2.2)) (C := RX2) (T := TX2) (N := 11) hx hb hT in_X2 hown hK hP 12 rfl rfl 10 (by decide) (hT _ mw_128) (fun _ h9 => h9) rfl dX3_damper_43 ?_
      refine lv_aload_n hx hb dX3_damper_46 rfl (lv_at hl 0 rfl) ?_
      refine va_get (D := (dC, dI)) (ci := 2) (v := .ref (aB 5)) (C := RX2) (T := TX2) (N := 11) hx hb hT in_X2 hown hK hP 12 rfl rfl 7 (by decide) (hT _ mw_122) (fun _ h9 => h9) rfl dX3_damper_47 ?_
      refine lv_iload_n hx hb dX3_damper_50 rfl (lv_at hl 2 rfl) ?_
      refine dk_iald (q0 := 17) (t0 := 0) (i := j) hx hb hK hP rfl rfl rfl (by omega) (by decide) dX3_damper_51 ?_
      refine lv_isub hx hb dX3_damper_52 ?_
      refine W.widen (k := 1) (n := 6) (Nat.le_of_ble_eq_true rfl) (Nat.le_of_ble_eq_true rfl) ?_
      exact hret _ () _ _ _ _ ⟨(by unfold dk_kIn; rw [if_neg hd_9]), (by rw [if_neg c_21, if_neg c_35])⟩ hP hD hS dX3_damper_53
    · refine lv_iconst (v := 0) hx hb dX3_damper_38 (by decide) ?_
      refine lv_goto (tgt := 53) hx hb dX3_damper_39 (by decide) ?_
      refine W.widen (k := 1) (n := 6) (Nat.le_of_ble_eq_true rfl) (Nat.le_of_ble_eq_true rfl) ?_
      exact hret _ () _ _ _ _ ⟨(by unfold dk_kIn; rw [if_neg hd_9]), (by rw [if_neg c_21, if_pos c_35])⟩ hP hD hS dX3_damper_53
  · refine lv_iconst (v := (-1)) hx hb dX3_damper_24 (by decide) ?_
    refine W.widen (k := 1) (n := 6) (Nat.le_of_ble_eq_true rfl) (Nat.le_of_ble_eq_true rfl) ?_
    exact hret _ () _ _ _ _ ⟨(by unfold dk_kIn; rw [if_neg hd_9]), (by rw [if_pos c_21])⟩ hP hD hS dX3_damper_25
end
section
set_option maxHeartbeats 4000000 in
set_option maxRecDepth 100000 in
/-- least -/
theorem c_X3_least (l : Launch) (hlt : l.stackTraces = false) (dC : Nat → ClassId) (dI : Nat → Nat → Nat) (cI cII : ClassId) (aX : Nat → Nat) (cv : Nat) (bs : Nat) (ep : Int32) (ol : Int32) (aN : Nat → Nat) (fr : Nat → Int32) (le : Nat → Int32) (fi : Nat → Int32) (ne : Nat → Int32) (fl : Nat → Int32) (ar : Nat → Int32) (pr : Nat → Int32) (sp : Int32) (aH : Nat → Nat) (F : Nat → Nat → Int32) (li : Int32) (en : Int32) (d : Nat) (z : Nat) (st : dk_SS) (x0 : Int32) (hz : Nat) (hz1 : z ≤ 4) (hd1 : d ≤ 6) (hfr : ∀ k, k < 7 → vp_in (fr k) 7) (har : ∀ j, j < z → ¬ ar j = 0) (har2 : ∀ j, j < z → ¬ (ar j).toInt64 * (ar j).toInt64 = 0) : dk_Xi l yX3_least wsX3_least ({ frames := 15, cells := 1, slots := 6, locals := 375 }) (dC, dI) (dk_T cI cII) [.ref (aX 0), .int x0] (dk_X cI cII aX (aN 0) cv bs (aH 0) ep ol ++ dk_N cI cII aN fr le fi ne fl (nI d) ar pr (nI z) sp ++ dk_SW cI cII aH (aN 0) F li en st) hz (fun (r : Int32) (_ : Unit) => dk_kLeast x0 = 0 ∧ r = (if (dk_place d z fr le pr (dk_nr le fi fl ar sp z d 1 F) x0 0 d 1 0 0 (st.1, st.2.1, st.2.2.1, st.2.2.2.1, 0, st.2.2.2.2.2.1, st.2.2.2.2.2.2)).2.2.2.2.1 = 0 then (-1) else (dk_place d z fr le pr (dk_nr le fi fl ar sp z d 1 F) x0 0 d 1 0 0 (st.1, st.2.1, st.2.2.1, st.2.2.2.1, 0, st.2.2.2.2.2.1, st.2.2.2.2.2.2)).2.2.2.2.2.1)) (fun _ => dk_X cI cII aX (aN 0) cv bs (aH 0) ep ol ++ dk_N cI cII aN fr le fi ne fl (nI d) ar pr (nI z) sp ++ dk_SW cI cII aH (aN 0) (dk_nr le fi fl ar sp z d 1 F) x0 0 (dk_place d z fr le pr (dk_nr le fi fl ar sp z d 1 F) x0 0 d 1 0 0 (st.1, st.2.1, st.2.2.1, st.2.2.2.1, 0, st.2.2.2.2.2.1, st.2.2.2.2.2.2))) (dk_px (dk_kLeast x0)) 1 6 := by
  refine dk_ofXi (cc := cX3_least) (maxL := 2) (by decide) rfl (Nat.le_of_ble_eq_true rfl) ?_
  intro p e s m args below meth c A ls Q ⟨hx, hb, hml, hts, hown, hnm⟩ hlocks hno hsz hK hP hD hA hS hl hE hQ hret hthr
  have hT : ∀ w ∈ dk_tbl, w.before args s = true := fun w h => hts w (List.mem_cons_of_mem _ h)
  have hown : s.vm.findClass RX3 = some m.cls := hown
  have hl : lv_has ls 2 [(0, .ref (aX 0)), (1, .int x0)] := hl
  refine lv_iload_n hx hb dX3_least_0 rfl (lv_at hl 1 rfl) ?_
  refine lv_iconst (v := 0) hx hb dX3_least_1 (by decide) ?_
  refine lv_sipush (v := 300) hx hb dX3_least_2 (by decide) ?_
  refine dk_xdem (vx_runS (As := [.int x0, .int 0, .int 300]) (rest := []) ⟨hx, hb, hml, hown, hT⟩ (c_X3_demand l hlt x0 0 300) (va_cwS 3 hT (dk_gS mw_254 mw_255 mw_23 mw_256) rfl rfl rfl (by decide +kernel) ⟨Nat.le_of_ble_eq_true rfl, Nat.le_of_ble_eq_true rfl⟩) (dk_preD hE hS hA) rfl rfl hl.1 rfl (lv_room (Nat.le_of_ble_eq_true rfl)) dX3_least_5 ⟨Nat.le_of_ble_eq_true rfl, Nat.le_of_ble_eq_true rfl⟩) (fun ce q9 H1 hc hz hk h1 h2 h3 => hthr dk_IAE ce q9 H1 _ _ _ _ _ _ (Or.inl ⟨rfl, by unfold dk_kLeast; rw [if_pos hc]⟩) (hP.kept (fun k q hq => hk q.1 (hP k q hq).lt)) hD ⟨Nat.le_trans hS.1 hz, fun q h1 h2 => (hk q (Nat.lt_of_lt_of_le h1 hS.1)).trans (hS.2.1 q h1 h2), hS.2.2⟩ h1 h2 h3 (Nat.le_of_ble_eq_true rfl) (Nat.le_of_ble_eq_true rfl)) (fun hd_5 => ?_)
  refine lv_aload_n hx hb dX3_least_8 rfl (lv_at hl 0 rfl) ?_
  refine va_get (D := (dC, dI)) (ci := 3) (v := .ref (aH 0)) (C := RX3) (T := TX3) (N := 6) hx hb hT in_X3 hown hK hP 0 rfl rfl 3 (by decide) (hT _ mw_155) (fun _ h9 => h9) rfl dX3_least_9 ?_
  refine lv_iload_n hx hb dX3_least_12 rfl (lv_at hl 1 rfl) ?_
  refine lv_iconst (v := 0) hx hb dX3_least_13 (by decide) ?_
  refine dk_callv (wr := dk_X cI cII aX (aN 0) cv bs (aH 0) ep ol) (va_runV (As := [.int x0, .int 0]) (rest := []) ⟨hx, hb, hml, hown, hT⟩ (c_X2_run l dC dI cI cII aH F (st.1) (st.2.1) li en (st.2.2.1) (st.2.2.2.1) (st.2.2.2.2.1) (st.2.2.2.2.2.1) (st.2.2.2.2.2.2) aN fr le fi ne fl ar pr sp d z x0 0 _ hz1 hd1 hfr har har2) (cwV 2 hT (dk_gV mw_192 mw_193 mw_194 mw_26 mw_195) rfl rfl rfl (by decide +kernel) ⟨(Nat.le_of_ble_eq_true rfl), (Nat.le_of_ble_eq_true rfl)⟩) (dk_preV hK hP hD [9, 10, 11, 12, 13, 14, 15, 16, 17, 18, 19, 20, 21, 1, 2, 3, 4, 5, 6, 7, 8] rfl rfl (q0 := 9) (ci := 2) rfl rfl) rfl rfl hl.1 rfl (lv_room (Nat.le_of_ble_eq_true rfl)) dX3_least_14 ⟨Nat.le_of_ble_eq_true rfl, Nat.le_of_ble_eq_true rfl⟩) hP hD hS hA [9, 10, 11, 12, 13, 14, 15, 16, 17, 18, 19, 20, 21, 1, 2, 3, 4, 5, 6, 7, 8] [0] rfl rfl rfl (by decide) (fun _ H locs h9 hP hD hS => ?_)
  have hP : va_P (dC, dI) vwCl (dk_X cI cII aX (aN 0) cv bs (aH 0) ep ol ++ (dk_SW cI cII aH (aN 0) (dk_nr le fi fl ar sp z d 1 F) x0 0 (dk_place d z fr le pr (dk_nr le fi fl ar sp z d 1 F) x0 0 d 1 0 0 ((st.1), (st.2.1), (st.2.2.1), (st.2.2.2.1), 0, (st.2.2.2.2.2.1), (st.2.2.2.2.2.2))) ++ dk_N cI cII aN fr le fi ne fl (nI d) ar pr (nI z) sp)) H := hP
  have hD : va_D A (dk_X cI cII aX (aN 0) cv bs (aH 0) ep ol ++ (dk_SW cI cII aH (aN 0) (dk_nr le fi fl ar sp z d 1 F) x0 0 (dk_place d z fr le pr (dk_nr le fi fl ar sp z d 1 F) x0 0 d 1 0 0 ((st.1), (st.2.1), (st.2.2.1), (st.2.2.2.1), 0, (st.2.2.2.2.2.1), (st.2.2.2.2.2.2))) ++ dk_N cI cII aN fr le fi ne fl (nI d) ar pr (nI z) sp)) := hD
  refine lv_aload_n hx hb dX3_least_17 rfl (lv_at hl 0 rfl) ?_
  refine va_get (D := (dC, dI)) (ci := 3) (v := .ref (aH 0)) (C := RX3) (T := TX3) (N := 6) hx hb hT in_X3 hown hK hP 0 rfl rfl 3 (by decide) (hT _ mw_155) (fun _ h9 => h9) rfl dX3_least_18 ?_
  refine va_get (D := (dC, dI)) (ci := 2) (v := .int ((dk_place d z fr le pr (dk_nr le fi fl ar sp z d 1 F) x0 0 d 1 0 0 ((st.1), (st.2.1), (st.2.2.1), (st.2.2.2.1), 0, (st.2.2.2.2.2.1), (st.2.2.2.2.2.2))).2.2.2.2.1)) (C := RX2) (T := TX2) (N := 11) hx hb hT in_X2 hown hK hP 1 rfl rfl 8 (by decide) (hT _ mw_124) (fun _ h9 => h9) rfl dX3_least_21 ?_
  refine lv_if_eq (tgt := 37) hx hb dX3_least_24 (by decide) (fun c_24 => ?_) (fun c_24 => ?_)
  · refine lv_iconst (v := (-1)) hx hb dX3_least_37 (by decide) ?_
    refine W.widen (k := 1) (n := 6) (Nat.le_of_ble_eq_true rfl) (Nat.le_of_ble_eq_true rfl) ?_
    exact hret _ () _ _ _ _ ⟨(by unfold dk_kLeast; rw [if_neg hd_5]), (by rw [if_pos c_24])⟩ (hP.sub [0, 14, 15, 16, 17, 18, 19, 20, 21, 1, 2, 3, 4, 5, 6, 7, 8, 9, 10, 11, 12, 13] rfl) (hD.sub [0, 14, 15, 16, 17, 18, 19, 20, 21, 1, 2, 3, 4, 5, 6, 7, 8, 9, 10, 11, 12, 13] (by decide) rfl) hS dX3_least_38
  · refine lv_aload_n hx hb dX3_least_27 rfl (lv_at hl 0 rfl) ?_
    refine va_get (D := (dC, dI)) (ci := 3) (v := .ref (aH 0)) (C := RX3) (T := TX3) (N := 6) hx hb hT in_X3 hown hK hP 0 rfl rfl 3 (by decide) (hT _ mw_155) (fun _ h9 => h9) rfl dX3_least_28 ?_
    refine va_get (D := (dC, dI)) (ci := 2) (v := .int ((dk_place d z fr le pr (dk_nr le fi fl ar sp z d 1 F) x0 0 d 1 0 0 ((st.1), (st.2.1), (st.2.2.1), (st.2.2.2.1), 0, (st.2.2.2.2.2.1), (st.2.2.2.2.2.2))).2.2.2.2.2.1)) (C := RX2) (T := TX2) (N := 11) hx hb hT in_X2 hown hK hP 1 rfl rfl 9 (by decide) (hT _ mw_126) (fun _ h9 => h9) rfl dX3_least_31 ?_
    refine lv_goto (tgt := 38) hx hb dX3_least_34 (by decide) ?_
    refine W.widen (k := 1) (n := 6) (Nat.le_of_ble_eq_true rfl) (Nat.le_of_ble_eq_true rfl) ?_
    exact hret _ () _ _ _ _ ⟨(by unfold dk_kLeast; rw [if_neg hd_5]), (by rw [if_neg c_24])⟩ (hP.sub [0, 14, 15, 16, 17, 18, 19, 20, 21, 1, 2, 3, 4, 5, 6, 7, 8, 9, 10, 11, 12, 13] rfl) (hD.sub [0, 14, 15, 16, 17, 18, 19, 20, 21, 1, 2, 3, 4, 5, 6, 7, 8, 9, 10, 11, 12, 13] (by decide) rfl) hS dX3_least_38
end
section
set_option maxHeartbeats 4000000 in
set_option maxRecDepth 100000 in
/-- DuctSizes.worst -/
theorem c_X3_worst (l : Launch) (dC : Nat → ClassId) (dI : Nat → Nat → Nat) (cI cII : ClassId) (aX : Nat → Nat) (ch : Nat) (ep : Int32) (ol : Int32) (aN : Nat → Nat) (fr : Nat → Int32) (le : Nat → Int32) (fi : Nat → Int32) (ne : Nat → Int32) (fl : Nat → Int32) (ar : Nat → Int32) (pr : Nat → Int32) (sp : Int32) (aC : Nat → Nat) (cf : Nat → Int32) (cp : Nat → Int32) (aB : Nat → Nat) (F : Nat → Nat → Int32) (li : Int32) (en : Int32) (d : Nat) (z : Nat) (k : Nat) (st : dk_SS) (hz : Nat) (hz1 : z ≤ 4) (hd1 : d ≤ 6) (hfr : ∀ k, k < 7 → vp_in (fr k) 7) (har : ∀ j, j < z → ¬ ar j = 0) (har2 : ∀ j, j < z → ¬ (ar j).toInt64 * (ar j).toInt64 = 0) (hk1 : k ≤ 5) (hcv : ∀ i, 0 < i → i < k → ¬ cf i - cf (i - 1) = 0) : dk_Mi l yX3_worst wsX3_worst ({ frames := 16, cells := 0, slots := 0, locals := 395 }) (dC, dI) (dk_T cI cII) [.ref (aX 0)] (dk_X cI cII aX (aN 0) (aC 0) (aB 0) ch ep ol ++ dk_N cI cII aN fr le fi ne fl (nI d) ar pr (nI z) sp ++ dk_C cI cII aC cf cp (nI k) ++ dk_SW cI cII aB (aN 0) F li en st) hz (fun (r : Int32) (_ : Unit) => r = if (dk_bS ol d z fr le fi fl ar pr sp cf cp k ep F st).2.2.2.2.1 = 0 then (-1) else nI (dk_first (dk_bS ol d z fr le fi fl ar pr sp cf cp k ep F st).2.2.2.1 d 1 0)) (fun _ => dk_X cI cII aX (aN 0) (aC 0) (aB 0) ch ep 0 ++ dk_N cI cII aN fr le fi ne fl (nI d) ar pr (nI z) sp ++ dk_C cI cII aC cf cp (nI k) ++ dk_SW cI cII aB (aN 0) (dk_bF ol d z le fi fl ar sp F) (dk_bL ol cf cp k fl li) (dk_bE ol ep en) (dk_bS ol d z fr le fi fl ar pr sp cf cp k ep F st)) 0 0 := by
  refine dk_ofMi (cc := cX3_worst) (maxL := 2) (by decide) rfl (Nat.le_of_ble_eq_true rfl) ?_
  intro p e s m args below meth c A ls Q ⟨hx, hb, hml, hts, hown, hnm⟩ hsz hK hP hD hA hS hl hret
  have hT : ∀ w ∈ dk_tbl, w.before args s = true := fun w h => hts w (List.mem_cons_of_mem _ h)
  have hown : s.vm.findClass RX3 = some m.cls := hown
  have hl : lv_has ls 2 [(0, .ref (aX 0))] := hl
  refine lv_aload_n hx hb dX3_worst_0 rfl (lv_at hl 0 rfl) ?_
  refine dk_callr (wr := []) (va_runV (As := []) (rest := []) ⟨hx, hb, hml, hown, hT⟩ (c_X3_bestChoice l dC dI cI cII aX ch ep ol aN fr le fi ne fl ar pr sp aC cf cp aB F li en d z k st _ hz1 hd1 hfr har har2 hk1 hcv) (cwV 0 hT (dk_gV mw_187 mw_189 mw_1 mw_23 mw_190) rfl rfl rfl (by decide +kernel) ⟨Nat.le_of_ble_eq_true rfl, Nat.le_of_ble_eq_true rfl⟩) (dk_preV hK hP hD [0, 1, 2, 3, 4, 5, 6, 7, 8, 9, 10, 11, 12, 13, 14, 15, 16, 17, 18, 19, 20, 21, 22, 23, 24] rfl rfl (q0 := 0) (ci := 3) rfl rfl) rfl rfl hl.1 rfl (lv_room (Nat.le_of_ble_eq_true rfl)) dX3_worst_1 ⟨Nat.le_of_ble_eq_true rfl, Nat.le_of_ble_eq_true rfl⟩) hP hD hS hA [0, 1, 2, 3, 4, 5, 6, 7, 8, 9, 10, 11, 12, 13, 14, 15, 16, 17, 18, 19, 20, 21, 22, 23, 24] [] rfl rfl rfl (by decide) (fun H locs hP hD hS => ?_)
  have hP : va_P (dC, dI) vwCl (dk_X cI cII aX (aN 0) (aC 0) (aB 0) ch ep 0 ++ dk_N cI cII aN fr le fi ne fl (nI d) ar pr (nI z) sp ++ dk_C cI cII aC cf cp (nI k) ++ dk_SW cI cII aB (aN 0) (dk_bF ol d z le fi fl ar sp F) (dk_bL ol cf cp k fl li) (dk_bE ol ep en) (dk_bS ol d z fr le fi fl ar pr sp cf cp k ep F st)) H := hP
  have hD : va_D A (dk_X cI cII aX (aN 0) (aC 0) (aB 0) ch ep 0 ++ dk_N cI cII aN fr le fi ne fl (nI d) ar pr (nI z) sp ++ dk_C cI cII aC cf cp (nI k) ++ dk_SW cI cII aB (aN 0) (dk_bF ol d z le fi fl ar sp F) (dk_bL ol cf cp k fl li) (dk_bE ol ep en) (dk_bS ol d z fr le fi fl ar pr sp cf cp k ep F st)) := hD
  refine lv_astore_n (lv' := [(1, .ref (aB 0)), (0, .ref (aX 0))]) hx hb dX3_worst_4 rfl hl (by decide) rfl (fun ls hl => ?_)
  refine lv_aload_n hx hb dX3_worst_5 rfl (lv_at hl 0 rfl) ?_
  refine va_get (D := (dC, dI)) (ci := 2) (v := .int ((dk_bS ol d z fr le fi fl ar pr sp cf cp k ep F st).2.2.2.2.1)) (C := RX2) (T := TX2) (N := 11) hx hb hT in_X2 hown hK hP 12 rfl rfl 8 (by decide) (hT _ mw_124) (fun _ h9 => h9) rfl dX3_worst_6 ?_
  refine lv_if_eq (tgt := 19) hx hb dX3_worst_9 (by decide) (fun c_9 => ?_) (fun c_9 => ?_)
  · refine lv_iconst (v := (-1)) hx hb dX3_worst_19 (by decide) ?_
    exact hret _ () _ _ _ _ (by rw [if_pos c_9]) hP hD hS dX3_worst_20
  · refine lv_aload_n hx hb dX3_worst_12 rfl (lv_at hl 0 rfl) ?_
    refine dk_csi (va_runV (As := []) (rest := []) ⟨hx, hb, hml, hown, hT⟩ (c_X2_firstNodeOfGreatestPressure l dC dI cI cII aB (dk_bF ol d z le fi fl ar sp F) ((dk_bS ol d z fr le fi fl ar pr sp cf cp k ep F st).1) ((dk_bS ol d z fr le fi fl ar pr sp cf cp k ep F st).2.1) (dk_bL ol cf cp k fl li) (dk_bE ol ep en) ((dk_bS ol d z fr le fi fl ar pr sp cf cp k ep F st).2.2.1) ((dk_bS ol d z fr le fi fl ar pr sp cf cp k ep F st).2.2.2.1) ((dk_bS ol d z fr le fi fl ar pr sp cf cp k ep F st).2.2.2.2.1) ((dk_bS ol d z fr le fi fl ar pr sp cf cp k ep F st).2.2.2.2.2.1) ((dk_bS ol d z fr le fi fl ar pr sp cf cp k ep F st).2.2.2.2.2.2) aN fr le fi ne fl ar pr (nI z) sp d hd1) (cwV 0 hT (dk_gV mw_241 mw_242 mw_243 mw_26 mw_244) rfl rfl rfl (by decide +kernel) ⟨(Nat.le_of_ble_eq_true rfl), (Nat.le_of_ble_eq_true rfl)⟩) (dk_preRV hK hP [12, 13, 14, 15, 16, 17, 18, 19, 20, 21, 22, 23, 24, 1, 2, 3, 4, 5, 6, 7, 8] rfl (q0 := 12) (ci := 2) rfl rfl) rfl rfl hl.1 rfl (lv_room (Nat.le_of_ble_eq_true rfl)) dX3_worst_13 ⟨Nat.le_of_ble_eq_true rfl, Nat.le_of_ble_eq_true rfl⟩) (fun r9 h9 => ?_)
    subst h9
    refine lv_goto (tgt := 20) hx hb dX3_worst_16 (by decide) ?_
    exact hret _ () _ _ _ _ (by rw [if_neg c_9]) hP hD hS dX3_worst_20
end
section
set_option maxHeartbeats 4000000 in
set_option maxRecDepth 100000 in
/-- the law's duct -/
theorem c_L_duct (l : Launch) (hlt : l.stackTraces = false) (dC : Nat → ClassId) (dI : Nat → Nat → Nat) (cI cII cL : ClassId) (aX : Nat → Nat) (cv : Nat) (bs : Nat) (ch : Nat) (ep : Int32) (ol : Int32) (aN : Nat → Nat) (fr : Nat → Int32) (le : Nat → Int32) (fi : Nat → Int32) (ne : Nat → Int32) (fl : Nat → Int32) (ar : Nat → Int32) (pr : Nat → Int32) (sz : Int32) (sp : Int32) (d : Nat) (x0 : Int32) (x1 : Int32) (x2 : Int32)  (ao : Nat → Nat) (fo : Nat → Int64) (hz : Nat) (h1 : d ≤ 6) : dk_Li l yL_duct wsL_duct ({ frames := 8, cells := 4, slots := 24, locals := 127 }) (dC, dI) (dk_TL cI cII cL) [.ref (aX 0), .int x0, .int x1, .int x2, .ref (ao 0)] (dk_X cI cII aX (aN 0) cv bs ch ep ol ++ dk_N cI cII aN fr le fi ne fl (nI d) ar pr sz sp ++ dk_O cL ao fo) hz (dk_kDuct d x0 x1 x2) (dk_X cI cII aX (aN 0) cv bs ch ep (if dk_kDuct d x0 x1 x2 = 0 then 1 else ol) ++ dk_N cI cII aN (if dk_kDuct d x0 x1 x2 = 0 then (upd fr (d + 1) x0) else fr) (if dk_kDuct d x0 x1 x2 = 0 then (upd le (d + 1) x1) else le) (if dk_kDuct d x0 x1 x2 = 0 then (upd fi (d + 1) x2) else fi) ne fl (if dk_kDuct d x0 x1 x2 = 0 then (nI (d + 1)) else (nI d)) ar pr sz sp ++ dk_O cL ao (if dk_kDuct d x0 x1 x2 = 0 then vp_updL fo 0 (nI (d + 1)).toInt64 else fo)) 4 24 := by
  refine dk_ofLi (cc := cL_duct) (maxL := 6) (hh := [(0, 12, 15, 13), (0, 12, 19, 15)]) (by decide) rfl (Nat.le_of_ble_eq_true rfl) ?_
  intro p e s m args below meth c A ls Q ⟨hx, hb, hml, hts, hown, hnm⟩ hlocks htab hsz hK hP hD hA hS hl hE hN hret
  have hT : ∀ w ∈ dk_tbl, w.before args s = true := fun w h => hts w (List.mem_cons_of_mem _ h)
  have hown : s.vm.findClass RL = some m.cls := hown
  have hK2 := hK.sub (tys' := dk_T cI cII) [0, 1] rfl
  have hl : lv_has ls 6 [(0, .ref (aX 0)), (1, .int x0), (2, .int x1), (3, .int x2), (4, .ref (ao 0))] := hl
  refine lv_aload hx hb dL_duct_0 (lv_at hl 4 rfl) ?_
  refine lv_iconst (v := 0) hx hb dL_duct_2 (by decide) ?_
  refine lv_aload_n hx hb dL_duct_3 rfl (lv_at hl 0 rfl) ?_
  refine lv_iload_n hx hb dL_duct_4 rfl (lv_at hl 1 rfl) ?_
  refine lv_iload_n hx hb dL_duct_5 rfl (lv_at hl 2 rfl) ?_
  refine lv_iload_n hx hb dL_duct_6 rfl (lv_at hl 3 rfl) ?_
  refine dk_xcalli (wr := dk_O cL ao fo) (vx_runV (As := [.int x0, .int x1, .int x2]) (rest := [.int 0, .ref (ao 0)]) ⟨hx, hb, hml, hown, hT⟩ (c_X3_duct l hlt dC dI cI cII aX cv bs ch ep ol aN fr le fi ne fl ar pr sz sp d x0 x1 x2 _ h1) (cwV 3 hT (dk_gV mw_250 mw_251 mw_252 mw_23 mw_253) rfl rfl rfl (by decide +kernel) ⟨Nat.le_of_ble_eq_true rfl, Nat.le_of_ble_eq_true rfl⟩) (dk_preXV hK2 hP hD hE hS hA [0, 1, 2, 3, 4, 5, 6, 7, 8] rfl rfl (q0 := 0) (ci := 3) rfl rfl) rfl rfl hl.1 rfl (lv_room (Nat.le_of_ble_eq_true rfl)) dL_duct_7 ⟨Nat.le_of_ble_eq_true rfl, Nat.le_of_ble_eq_true rfl⟩) hP hD hS hA [0, 1, 2, 3, 4, 5, 6, 7, 8] [9] rfl rfl rfl (by decide) (fun E ce q9 H1 locs1 hpx hP1 hD1 hS1 h1 h2 h3 => ?_) (fun r9 _ H locs h9 hP hD hS => ?_)
  · rcases hpx with ⟨rfl, hk1⟩ | ⟨rfl, hk2⟩
    · have hk0 : ¬ dk_kDuct d x0 x1 x2 = 0 := by rw [hk1]; decide
      simp only [if_neg hk0] at hret
      refine vx_catch hown [] ((tableOf [(0, 12, 15, 13), (0, 12, 19, 15)])[0]) [(tableOf [(0, 12, 15, 13), (0, 12, 19, 15)])[1]] (by rw [htab]; rfl) (fun z h => absurd h List.not_mem_nil) (by decide) (by decide) (hT _ mw_248) (va_Nw.use (w := .castable dk_IAE dk_IAE) rfl (hE.2.2.2 _ (by decide +kernel))) h1 h2 h3 ?_
      refine lv_astore (lv' := [(5, .ref q9), (0, .ref (aX 0)), (1, .int x0), (2, .int x1), (3, .int x2), (4, .ref (ao 0))]) hx hb dL_duct_15 hl (by decide) rfl (fun ls hl => ?_)
      refine lv_iconst (v := 1) hx hb dL_duct_17 (by decide) ?_
      refine W.widen (k := 4) (n := 24) (Nat.le_of_ble_eq_true rfl) (Nat.le_of_ble_eq_true rfl) ?_
      exact hret _ _ _ _ _ hk1.symm (hP1.sub [1, 2, 3, 4, 5, 6, 7, 8, 9, 0] rfl) (hD1.sub [1, 2, 3, 4, 5, 6, 7, 8, 9, 0] (by decide) rfl) hS1 dL_duct_18
    · have hk0 : ¬ dk_kDuct d x0 x1 x2 = 0 := by rw [hk2]; decide
      simp only [if_neg hk0] at hret
      refine vx_catch hown [(tableOf [(0, 12, 15, 13), (0, 12, 19, 15)])[0]] ((tableOf [(0, 12, 15, 13), (0, 12, 19, 15)])[1]) [] (by rw [htab]; rfl) (fun z h => by rw [List.mem_singleton.mp h]; exact Or.inr ⟨by decide, dk_IAE, hT _ mw_248, hN⟩) (by decide) (by decide) (hT _ mw_249) (va_Nw.use (w := .castable dk_ISE dk_ISE) rfl (hE.2.2.2 _ (by decide +kernel))) h1 h2 h3 ?_
      refine lv_astore (lv' := [(5, .ref q9), (0, .ref (aX 0)), (1, .int x0), (2, .int x1), (3, .int x2), (4, .ref (ao 0))]) hx hb dL_duct_19 hl (by decide) rfl (fun ls hl => ?_)
      refine lv_iconst (v := 2) hx hb dL_duct_21 (by decide) ?_
      refine W.widen (k := 4) (n := 24) (Nat.le_of_ble_eq_true rfl) (Nat.le_of_ble_eq_true rfl) ?_
      exact hret _ _ _ _ _ hk2.symm (hP1.sub [1, 2, 3, 4, 5, 6, 7, 8, 9, 0] rfl) (hD1.sub [1, 2, 3, 4, 5, 6, 7, 8, 9, 0] (by decide) rfl) hS1 dL_duct_22
  · obtain ⟨hk0, h7⟩ := h9
    rw [h7]
    simp only [if_pos hk0] at hret
    have hP : va_P (dC, dI) vwCl (dk_O cL ao fo ++ (dk_X cI cII aX (aN 0) cv bs ch ep 1 ++ dk_N cI cII aN (upd fr (d + 1) x0) (upd le (d + 1) x1) (upd fi (d + 1) x2) ne fl (nI (d + 1)) ar pr sz sp)) H := hP
    have hD : va_D A (dk_O cL ao fo ++ (dk_X cI cII aX (aN 0) cv bs ch ep 1 ++ dk_N cI cII aN (upd fr (d + 1) x0) (upd le (d + 1) x1) (upd fi (d + 1) x2) ne fl (nI (d + 1)) ar pr sz sp)) := hD
    refine lv_i2l (v := ((nI (d + 1))).toInt64) hx hb dL_duct_10 rfl ?_
    refine va_last hx hb hK hP hD hS 0 2 rfl rfl (by unfold vp_in; decide) dL_duct_11 (fun H locs hP hD hS => ?_)
    have hP : va_P (dC, dI) vwCl (dk_O cL ao (vp_updL fo 0 (((nI (d + 1))).toInt64)) ++ (dk_X cI cII aX (aN 0) cv bs ch ep 1 ++ dk_N cI cII aN (upd fr (d + 1) x0) (upd le (d + 1) x1) (upd fi (d + 1) x2) ne fl (nI (d + 1)) ar pr sz sp)) H := hP
    have hD : va_D A (dk_O cL ao (vp_updL fo 0 (((nI (d + 1))).toInt64)) ++ (dk_X cI cII aX (aN 0) cv bs ch ep 1 ++ dk_N cI cII aN (upd fr (d + 1) x0) (upd le (d + 1) x1) (upd fi (d + 1) x2) ne fl (nI (d + 1)) ar pr sz sp)) := hD
    refine lv_goto (tgt := 23) hx hb dL_duct_12 (by decide) ?_
    refine lv_iconst (v := 0) hx hb dL_duct_23 (by decide) ?_
    refine W.widen (k := 4) (n := 24) (Nat.le_of_ble_eq_true rfl) (Nat.le_of_ble_eq_true rfl) ?_
    exact hret _ _ _ _ _ hk0.symm (hP.sub [1, 2, 3, 4, 5, 6, 7, 8, 9, 0] rfl) (hD.sub [1, 2, 3, 4, 5, 6, 7, 8, 9, 0] (by decide) rfl) hS dL_duct_24
end
section
set_option maxHeartbeats 4000000 in
set_option maxRecDepth 100000 in
/-- the law's need -/
theorem c_L_need (l : Launch) (hlt : l.stackTraces = false) (dC : Nat → ClassId) (dI : Nat → Nat → Nat) (cI cII cL : ClassId) (aX : Nat → Nat) (cv : Nat) (bs : Nat) (ch : Nat) (ep : Int32) (ol : Int32) (aN : Nat → Nat) (fr : Nat → Int32) (le : Nat → Int32) (fi : Nat → Int32) (ne : Nat → Int32) (fl : Nat → Int32) (ar : Nat → Int32) (pr : Nat → Int32) (sz : Int32) (sp : Int32) (d : Nat) (x0 : Int32) (x1 : Int32)  (ao : Nat → Nat) (fo : Nat → Int64) (hz : Nat) (h1 : d ≤ 6) (h2 : ∀ k, k < 7 → vp_in (fr k) 7) : dk_Li l yL_need wsL_need ({ frames := 8, cells := 2, slots := 12, locals := 126 }) (dC, dI) (dk_TL cI cII cL) [.ref (aX 0), .int x0, .int x1, .ref (ao 0)] (dk_X cI cII aX (aN 0) cv bs ch ep ol ++ dk_N cI cII aN fr le fi ne fl (nI d) ar pr sz sp ++ dk_O cL ao fo) hz (dk_kNeed d x0 x1) (dk_X cI cII aX (aN 0) cv bs ch ep (if dk_kNeed d x0 x1 = 0 then 1 else ol) ++ dk_N cI cII aN fr le fi (if dk_kNeed d x0 x1 = 0 then (upd ne x0.toNatClampNeg x1) else ne) (if dk_kNeed d x0 x1 = 0 then (dk_up fr d (dk_cpL (upd ne x0.toNatClampNeg x1) (d + 1) 0 fl)) else fl) (nI d) ar pr sz sp ++ dk_O cL ao (if dk_kNeed d x0 x1 = 0 then vp_updL fo 0 (ne x0.toNatClampNeg).toInt64 else fo)) 2 12 := by
  refine dk_ofLi (cc := cL_need) (maxL := 5) (hh := [(0, 10, 13, 13)]) (by decide) rfl (Nat.le_of_ble_eq_true rfl) ?_
  intro p e s m args below meth c A ls Q ⟨hx, hb, hml, hts, hown, hnm⟩ hlocks htab hsz hK hP hD hA hS hl hE hN hret
  have hT : ∀ w ∈ dk_tbl, w.before args s = true := fun w h => hts w (List.mem_cons_of_mem _ h)
  have hown : s.vm.findClass RL = some m.cls := hown
  have hK2 := hK.sub (tys' := dk_T cI cII) [0, 1] rfl
  have hl : lv_has ls 5 [(0, .ref (aX 0)), (1, .int x0), (2, .int x1), (3, .ref (ao 0))] := hl
  refine lv_aload_n hx hb dL_need_0 rfl (lv_at hl 3 rfl) ?_
  refine lv_iconst (v := 0) hx hb dL_need_1 (by decide) ?_
  refine lv_aload_n hx hb dL_need_2 rfl (lv_at hl 0 rfl) ?_
  refine lv_iload_n hx hb dL_need_3 rfl (lv_at hl 1 rfl) ?_
  refine lv_iload_n hx hb dL_need_4 rfl (lv_at hl 2 rfl) ?_
  refine dk_xcalli (wr := dk_O cL ao fo) (vx_runV (As := [.int x0, .int x1]) (rest := [.int 0, .ref (ao 0)]) ⟨hx, hb, hml, hown, hT⟩ (c_X3_need l hlt dC dI cI cII aX cv bs ch ep ol aN fr le fi ne fl ar pr sz sp d x0 x1 _ h1 h2) (cwV 2 hT (dk_gV mw_347 mw_348 mw_349 mw_23 mw_350) rfl rfl rfl (by decide +kernel) ⟨Nat.le_of_ble_eq_true rfl, Nat.le_of_ble_eq_true rfl⟩) (dk_preXV hK2 hP hD hE hS hA [0, 1, 2, 3, 4, 5, 6, 7, 8] rfl rfl (q0 := 0) (ci := 3) rfl rfl) rfl rfl hl.1 rfl (lv_room (Nat.le_of_ble_eq_true rfl)) dL_need_5 ⟨Nat.le_of_ble_eq_true rfl, Nat.le_of_ble_eq_true rfl⟩) hP hD hS hA [0, 1, 2, 3, 4, 5, 6, 7, 8] [9] rfl rfl rfl (by decide) (fun E ce q9 H1 locs1 hpx hP1 hD1 hS1 h1 h2 h3 => ?_) (fun r9 _ H locs h9 hP hD hS => ?_)
  · rcases hpx with ⟨rfl, hk1⟩ | ⟨rfl, hk2⟩
    · have hk0 : ¬ dk_kNeed d x0 x1 = 0 := by rw [hk1]; decide
      simp only [if_neg hk0] at hret
      refine vx_catch hown [] ((tableOf [(0, 10, 13, 13)])[0]) [] (by rw [htab]; rfl) (fun z h => absurd h List.not_mem_nil) (by decide) (by decide) (hT _ mw_248) (va_Nw.use (w := .castable dk_IAE dk_IAE) rfl (hE.2.2.2 _ (by decide +kernel))) h1 h2 h3 ?_
      refine lv_astore (lv' := [(4, .ref q9), (0, .ref (aX 0)), (1, .int x0), (2, .int x1), (3, .ref (ao 0))]) hx hb dL_need_13 hl (by decide) rfl (fun ls hl => ?_)
      refine lv_iconst (v := 1) hx hb dL_need_15 (by decide) ?_
      refine W.widen (k := 2) (n := 12) (Nat.le_of_ble_eq_true rfl) (Nat.le_of_ble_eq_true rfl) ?_
      exact hret _ _ _ _ _ hk1.symm (hP1.sub [1, 2, 3, 4, 5, 6, 7, 8, 9, 0] rfl) (hD1.sub [1, 2, 3, 4, 5, 6, 7, 8, 9, 0] (by decide) rfl) hS1 dL_need_16
    · exact absurd hk2 dk_ne2Need
  · obtain ⟨hk0, h7⟩ := h9
    rw [h7]
    simp only [if_pos hk0] at hret
    have hP : va_P (dC, dI) vwCl (dk_O cL ao fo ++ (dk_X cI cII aX (aN 0) cv bs ch ep 1 ++ dk_N cI cII aN fr le fi (upd ne x0.toNatClampNeg x1) (dk_up fr d (dk_cpL (upd ne x0.toNatClampNeg x1) (d + 1) 0 fl)) (nI d) ar pr sz sp)) H := hP
    have hD : va_D A (dk_O cL ao fo ++ (dk_X cI cII aX (aN 0) cv bs ch ep 1 ++ dk_N cI cII aN fr le fi (upd ne x0.toNatClampNeg x1) (dk_up fr d (dk_cpL (upd ne x0.toNatClampNeg x1) (d + 1) 0 fl)) (nI d) ar pr sz sp)) := hD
    refine lv_i2l (v := ((ne x0.toNatClampNeg)).toInt64) hx hb dL_need_8 rfl ?_
    refine va_last hx hb hK hP hD hS 0 2 rfl rfl (by unfold vp_in; decide) dL_need_9 (fun H locs hP hD hS => ?_)
    have hP : va_P (dC, dI) vwCl (dk_O cL ao (vp_updL fo 0 (((ne x0.toNatClampNeg)).toInt64)) ++ (dk_X cI cII aX (aN 0) cv bs ch ep 1 ++ dk_N cI cII aN fr le fi (upd ne x0.toNatClampNeg x1) (dk_up fr d (dk_cpL (upd ne x0.toNatClampNeg x1) (d + 1) 0 fl)) (nI d) ar pr sz sp)) H := hP
    have hD : va_D A (dk_O cL ao (vp_updL fo 0 (((ne x0.toNatClampNeg)).toInt64)) ++ (dk_X cI cII aX (aN 0) cv bs ch ep 1 ++ dk_N cI cII aN fr le fi (upd ne x0.toNatClampNeg x1) (dk_up fr d (dk_cpL (upd ne x0.toNatClampNeg x1) (d + 1) 0 fl)) (nI d) ar pr sz sp)) := hD
    refine lv_goto (tgt := 17) hx hb dL_need_10 (by decide) ?_
    refine lv_iconst (v := 0) hx hb dL_need_17 (by decide) ?_
    refine W.widen (k := 2) (n := 12) (Nat.le_of_ble_eq_true rfl) (Nat.le_of_ble_eq_true rfl) ?_
    exact hret _ _ _ _ _ hk0.symm (hP.sub [1, 2, 3, 4, 5, 6, 7, 8, 9, 0] rfl) (hD.sub [1, 2, 3, 4, 5, 6, 7, 8, 9, 0] (by decide) rfl) hS dL_need_18
end
section
set_option maxHeartbeats 4000000 in
set_option maxRecDepth 100000 in
/-- the law's size -/
theorem c_L_size (l : Launch) (hlt : l.stackTraces = false) (dC : Nat → ClassId) (dI : Nat → Nat → Nat) (cI cII cL : ClassId) (aX : Nat → Nat) (cv : Nat) (bs : Nat) (ch : Nat) (ep : Int32) (ol : Int32) (aN : Nat → Nat) (fr : Nat → Int32) (le : Nat → Int32) (fi : Nat → Int32) (ne : Nat → Int32) (fl : Nat → Int32) (du : Int32) (ar : Nat → Int32) (pr : Nat → Int32) (sp : Int32) (z : Nat) (x0 : Int32) (x1 : Int32)  (ao : Nat → Nat) (fo : Nat → Int64) (hz : Nat) (h1 : z ≤ 4) : dk_Li l yL_size wsL_size ({ frames := 8, cells := 3, slots := 18, locals := 126 }) (dC, dI) (dk_TL cI cII cL) [.ref (aX 0), .int x0, .int x1, .ref (ao 0)] (dk_X cI cII aX (aN 0) cv bs ch ep ol ++ dk_N cI cII aN fr le fi ne fl du ar pr (nI z) sp ++ dk_O cL ao fo) hz (dk_kSize z x0 x1) (dk_X cI cII aX (aN 0) cv bs ch ep (if dk_kSize z x0 x1 = 0 then 1 else ol) ++ dk_N cI cII aN fr le fi ne fl du (if dk_kSize z x0 x1 = 0 then (upd ar z x0) else ar) (if dk_kSize z x0 x1 = 0 then (upd pr z x1) else pr) (if dk_kSize z x0 x1 = 0 then (nI (z + 1)) else (nI z)) sp ++ dk_O cL ao (if dk_kSize z x0 x1 = 0 then vp_updL fo 0 (nI z).toInt64 else fo)) 3 18 := by
  refine dk_ofLi (cc := cL_size) (maxL := 5) (hh := [(0, 10, 13, 13), (0, 10, 17, 15)]) (by decide) rfl (Nat.le_of_ble_eq_true rfl) ?_
  intro p e s m args below meth c A ls Q ⟨hx, hb, hml, hts, hown, hnm⟩ hlocks htab hsz hK hP hD hA hS hl hE hN hret
  have hT : ∀ w ∈ dk_tbl, w.before args s = true := fun w h => hts w (List.mem_cons_of_mem _ h)
  have hown : s.vm.findClass RL = some m.cls := hown
  have hK2 := hK.sub (tys' := dk_T cI cII) [0, 1] rfl
  have hl : lv_has ls 5 [(0, .ref (aX 0)), (1, .int x0), (2, .int x1), (3, .ref (ao 0))] := hl
  refine lv_aload_n hx hb dL_size_0 rfl (lv_at hl 3 rfl) ?_
  refine lv_iconst (v := 0) hx hb dL_size_1 (by decide) ?_
  refine lv_aload_n hx hb dL_size_2 rfl (lv_at hl 0 rfl) ?_
  refine lv_iload_n hx hb dL_size_3 rfl (lv_at hl 1 rfl) ?_
  refine lv_iload_n hx hb dL_size_4 rfl (lv_at hl 2 rfl) ?_
  refine dk_xcalli (wr := dk_O cL ao fo) (vx_runV (As := [.int x0, .int x1]) (rest := [.int 0, .ref (ao 0)]) ⟨hx, hb, hml, hown, hT⟩ (c_X3_size l hlt dC dI cI cII aX cv bs ch ep ol aN fr le fi ne fl du ar pr sp z x0 x1 _ h1) (cwV 2 hT (dk_gV mw_362 mw_363 mw_364 mw_23 mw_365) rfl rfl rfl (by decide +kernel) ⟨Nat.le_of_ble_eq_true rfl, Nat.le_of_ble_eq_true rfl⟩) (dk_preXV hK2 hP hD hE hS hA [0, 1, 2, 3, 4, 5, 6, 7, 8] rfl rfl (q0 := 0) (ci := 3) rfl rfl) rfl rfl hl.1 rfl (lv_room (Nat.le_of_ble_eq_true rfl)) dL_size_5 ⟨Nat.le_of_ble_eq_true rfl, Nat.le_of_ble_eq_true rfl⟩) hP hD hS hA [0, 1, 2, 3, 4, 5, 6, 7, 8] [9] rfl rfl rfl (by decide) (fun E ce q9 H1 locs1 hpx hP1 hD1 hS1 h1 h2 h3 => ?_) (fun r9 _ H locs h9 hP hD hS => ?_)
  · rcases hpx with ⟨rfl, hk1⟩ | ⟨rfl, hk2⟩
    · have hk0 : ¬ dk_kSize z x0 x1 = 0 := by rw [hk1]; decide
      simp only [if_neg hk0] at hret
      refine vx_catch hown [] ((tableOf [(0, 10, 13, 13), (0, 10, 17, 15)])[0]) [(tableOf [(0, 10, 13, 13), (0, 10, 17, 15)])[1]] (by rw [htab]; rfl) (fun z h => absurd h List.not_mem_nil) (by decide) (by decide) (hT _ mw_248) (va_Nw.use (w := .castable dk_IAE dk_IAE) rfl (hE.2.2.2 _ (by decide +kernel))) h1 h2 h3 ?_
      refine lv_astore (lv' := [(4, .ref q9), (0, .ref (aX 0)), (1, .int x0), (2, .int x1), (3, .ref (ao 0))]) hx hb dL_size_13 hl (by decide) rfl (fun ls hl => ?_)
      refine lv_iconst (v := 1) hx hb dL_size_15 (by decide) ?_
      refine W.widen (k := 3) (n := 18) (Nat.le_of_ble_eq_true rfl) (Nat.le_of_ble_eq_true rfl) ?_
      exact hret _ _ _ _ _ hk1.symm (hP1.sub [1, 2, 3, 4, 5, 6, 7, 8, 9, 0] rfl) (hD1.sub [1, 2, 3, 4, 5, 6, 7, 8, 9, 0] (by decide) rfl) hS1 dL_size_16
    · have hk0 : ¬ dk_kSize z x0 x1 = 0 := by rw [hk2]; decide
      simp only [if_neg hk0] at hret
      refine vx_catch hown [(tableOf [(0, 10, 13, 13), (0, 10, 17, 15)])[0]] ((tableOf [(0, 10, 13, 13), (0, 10, 17, 15)])[1]) [] (by rw [htab]; rfl) (fun z h => by rw [List.mem_singleton.mp h]; exact Or.inr ⟨by decide, dk_IAE, hT _ mw_248, hN⟩) (by decide) (by decide) (hT _ mw_249) (va_Nw.use (w := .castable dk_ISE dk_ISE) rfl (hE.2.2.2 _ (by decide +kernel))) h1 h2 h3 ?_
      refine lv_astore (lv' := [(4, .ref q9), (0, .ref (aX 0)), (1, .int x0), (2, .int x1), (3, .ref (ao 0))]) hx hb dL_size_17 hl (by decide) rfl (fun ls hl => ?_)
      refine lv_iconst (v := 2) hx hb dL_size_19 (by decide) ?_
      refine W.widen (k := 3) (n := 18) (Nat.le_of_ble_eq_true rfl) (Nat.le_of_ble_eq_true rfl) ?_
      exact hret _ _ _ _ _ hk2.symm (hP1.sub [1, 2, 3, 4, 5, 6, 7, 8, 9, 0] rfl) (hD1.sub [1, 2, 3, 4, 5, 6, 7, 8, 9, 0] (by decide) rfl) hS1 dL_size_20
  · obtain ⟨hk0, h7⟩ := h9
    rw [h7]
    simp only [if_pos hk0] at hret
    have hP : va_P (dC, dI) vwCl (dk_O cL ao fo ++ (dk_X cI cII aX (aN 0) cv bs ch ep 1 ++ dk_N cI cII aN fr le fi ne fl du (upd ar z x0) (upd pr z x1) (nI (z + 1)) sp)) H := hP
    have hD : va_D A (dk_O cL ao fo ++ (dk_X cI cII aX (aN 0) cv bs ch ep 1 ++ dk_N cI cII aN fr le fi ne fl du (upd ar z x0) (upd pr z x1) (nI (z + 1)) sp)) := hD
    refine lv_i2l (v := ((nI z)).toInt64) hx hb dL_size_8 rfl ?_
    refine va_last hx hb hK hP hD hS 0 2 rfl rfl (by unfold vp_in; decide) dL_size_9 (fun H locs hP hD hS => ?_)
    have hP : va_P (dC, dI) vwCl (dk_O cL ao (vp_updL fo 0 (((nI z)).toInt64)) ++ (dk_X cI cII aX (aN 0) cv bs ch ep 1 ++ dk_N cI cII aN fr le fi ne fl du (upd ar z x0) (upd pr z x1) (nI (z + 1)) sp)) H := hP
    have hD : va_D A (dk_O cL ao (vp_updL fo 0 (((nI z)).toInt64)) ++ (dk_X cI cII aX (aN 0) cv bs ch ep 1 ++ dk_N cI cII aN fr le fi ne fl du (upd ar z x0) (upd pr z x1) (nI (z + 1)) sp)) := hD
    refine lv_goto (tgt := 21) hx hb dL_size_10 (by decide) ?_
    refine lv_iconst (v := 0) hx hb dL_size_21 (by decide) ?_
    refine W.widen (k := 3) (n := 18) (Nat.le_of_ble_eq_true rfl) (Nat.le_of_ble_eq_true rfl) ?_
    exact hret _ _ _ _ _ hk0.symm (hP.sub [1, 2, 3, 4, 5, 6, 7, 8, 9, 0] rfl) (hD.sub [1, 2, 3, 4, 5, 6, 7, 8, 9, 0] (by decide) rfl) hS dL_size_22
end
section
set_option maxHeartbeats 4000000 in
set_option maxRecDepth 100000 in
/-- the law's set -/
theorem c_L_set (l : Launch) (hlt : l.stackTraces = false) (dC : Nat → ClassId) (dI : Nat → Nat → Nat) (cI cII cL : ClassId) (aX : Nat → Nat) (cv : Nat) (bs : Nat) (ch : Nat) (ep : Int32) (ol : Int32) (aN : Nat → Nat) (fr : Nat → Int32) (le : Nat → Int32) (fi : Nat → Int32) (ne : Nat → Int32) (fl : Nat → Int32) (du : Int32) (ar : Nat → Int32) (pr : Nat → Int32) (sz : Int32) (sp : Int32) (x0 : Int32) (x1 : Int32) (ao : Nat → Nat) (fo : Nat → Int64) (hz : Nat)  : dk_Li l yL_set wsL_set ({ frames := 9, cells := 2, slots := 12, locals := 148 }) (dC, dI) (dk_TL cI cII cL) [.ref (aX 0), .int x0, .int x1, .ref (ao 0)] (dk_X cI cII aX (aN 0) cv bs ch ep ol ++ dk_N cI cII aN fr le fi ne fl du ar pr sz sp ++ dk_O cL ao fo) hz (dk_kSet x0 x1) (dk_X cI cII aX (aN 0) cv bs ch (if dk_kSet x0 x1 = 0 then (if x0 = 0 then ep else x1) else ep) (if dk_kSet x0 x1 = 0 then 1 else ol) ++ dk_N cI cII aN fr le fi ne fl du ar pr sz (if dk_kSet x0 x1 = 0 then (if x0 = 0 then x1 else sp) else sp) ++ dk_O cL ao (if dk_kSet x0 x1 = 0 then vp_updL fo 0 (if x0 = 0 then sp else ep).toInt64 else fo)) 2 12 := by
  refine dk_ofLi (cc := cL_set) (maxL := 5) (hh := [(0, 10, 13, 13)]) (by decide) rfl (Nat.le_of_ble_eq_true rfl) ?_
  intro p e s m args below meth c A ls Q ⟨hx, hb, hml, hts, hown, hnm⟩ hlocks htab hsz hK hP hD hA hS hl hE hN hret
  have hT : ∀ w ∈ dk_tbl, w.before args s = true := fun w h => hts w (List.mem_cons_of_mem _ h)
  have hown : s.vm.findClass RL = some m.cls := hown
  have hK2 := hK.sub (tys' := dk_T cI cII) [0, 1] rfl
  have hl : lv_has ls 5 [(0, .ref (aX 0)), (1, .int x0), (2, .int x1), (3, .ref (ao 0))] := hl
  refine lv_aload_n hx hb dL_set_0 rfl (lv_at hl 3 rfl) ?_
  refine lv_iconst (v := 0) hx hb dL_set_1 (by decide) ?_
  refine lv_aload_n hx hb dL_set_2 rfl (lv_at hl 0 rfl) ?_
  refine lv_iload_n hx hb dL_set_3 rfl (lv_at hl 1 rfl) ?_
  refine lv_iload_n hx hb dL_set_4 rfl (lv_at hl 2 rfl) ?_
  refine dk_xcalli (wr := dk_O cL ao fo) (vx_runV (As := [.int x0, .int x1]) (rest := [.int 0, .ref (ao 0)]) ⟨hx, hb, hml, hown, hT⟩ (c_X3_set l hlt dC dI cI cII aX cv bs ch ep ol aN fr le fi ne fl du ar pr sz sp x0 x1 _) (cwV 2 hT (dk_gV mw_374 mw_375 mw_376 mw_23 mw_377) rfl rfl rfl (by decide +kernel) ⟨Nat.le_of_ble_eq_true rfl, Nat.le_of_ble_eq_true rfl⟩) (dk_preXV hK2 hP hD hE hS hA [0, 1, 2, 3, 4, 5, 6, 7, 8] rfl rfl (q0 := 0) (ci := 3) rfl rfl) rfl rfl hl.1 rfl (lv_room (Nat.le_of_ble_eq_true rfl)) dL_set_5 ⟨Nat.le_of_ble_eq_true rfl, Nat.le_of_ble_eq_true rfl⟩) hP hD hS hA [0, 1, 2, 3, 4, 5, 6, 7, 8] [9] rfl rfl rfl (by decide) (fun E ce q9 H1 locs1 hpx hP1 hD1 hS1 h1 h2 h3 => ?_) (fun r9 _ H locs h9 hP hD hS => ?_)
  · rcases hpx with ⟨rfl, hk1⟩ | ⟨rfl, hk2⟩
    · have hk0 : ¬ dk_kSet x0 x1 = 0 := by rw [hk1]; decide
      simp only [if_neg hk0] at hret
      refine vx_catch hown [] ((tableOf [(0, 10, 13, 13)])[0]) [] (by rw [htab]; rfl) (fun z h => absurd h List.not_mem_nil) (by decide) (by decide) (hT _ mw_248) (va_Nw.use (w := .castable dk_IAE dk_IAE) rfl (hE.2.2.2 _ (by decide +kernel))) h1 h2 h3 ?_
      refine lv_astore (lv' := [(4, .ref q9), (0, .ref (aX 0)), (1, .int x0), (2, .int x1), (3, .ref (ao 0))]) hx hb dL_set_13 hl (by decide) rfl (fun ls hl => ?_)
      refine lv_iconst (v := 1) hx hb dL_set_15 (by decide) ?_
      refine W.widen (k := 2) (n := 12) (Nat.le_of_ble_eq_true rfl) (Nat.le_of_ble_eq_true rfl) ?_
      exact hret _ _ _ _ _ hk1.symm (hP1.sub [1, 2, 3, 4, 5, 6, 7, 8, 9, 0] rfl) (hD1.sub [1, 2, 3, 4, 5, 6, 7, 8, 9, 0] (by decide) rfl) hS1 dL_set_16
    · exact absurd hk2 dk_ne2Set
  · obtain ⟨hk0, h7⟩ := h9
    rw [h7]
    simp only [if_pos hk0] at hret
    have hP : va_P (dC, dI) vwCl (dk_O cL ao fo ++ (dk_X cI cII aX (aN 0) cv bs ch (if x0 = 0 then ep else x1) 1 ++ dk_N cI cII aN fr le fi ne fl du ar pr sz (if x0 = 0 then x1 else sp))) H := hP
    have hD : va_D A (dk_O cL ao fo ++ (dk_X cI cII aX (aN 0) cv bs ch (if x0 = 0 then ep else x1) 1 ++ dk_N cI cII aN fr le fi ne fl du ar pr sz (if x0 = 0 then x1 else sp))) := hD
    refine lv_i2l (v := ((if x0 = 0 then sp else ep)).toInt64) hx hb dL_set_8 rfl ?_
    refine va_last hx hb hK hP hD hS 0 2 rfl rfl (by unfold vp_in; decide) dL_set_9 (fun H locs hP hD hS => ?_)
    have hP : va_P (dC, dI) vwCl (dk_O cL ao (vp_updL fo 0 (((if x0 = 0 then sp else ep)).toInt64)) ++ (dk_X cI cII aX (aN 0) cv bs ch (if x0 = 0 then ep else x1) 1 ++ dk_N cI cII aN fr le fi ne fl du ar pr sz (if x0 = 0 then x1 else sp))) H := hP
    have hD : va_D A (dk_O cL ao (vp_updL fo 0 (((if x0 = 0 then sp else ep)).toInt64)) ++ (dk_X cI cII aX (aN 0) cv bs ch (if x0 = 0 then ep else x1) 1 ++ dk_N cI cII aN fr le fi ne fl du ar pr sz (if x0 = 0 then x1 else sp))) := hD
    refine lv_goto (tgt := 17) hx hb dL_set_10 (by decide) ?_
    refine lv_iconst (v := 0) hx hb dL_set_17 (by decide) ?_
    refine W.widen (k := 2) (n := 12) (Nat.le_of_ble_eq_true rfl) (Nat.le_of_ble_eq_true rfl) ?_
    exact hret _ _ _ _ _ hk0.symm (hP.sub [1, 2, 3, 4, 5, 6, 7, 8, 9, 0] rfl) (hD.sub [1, 2, 3, 4, 5, 6, 7, 8, 9, 0] (by decide) rfl) hS dL_set_18
end
section
set_option maxHeartbeats 4000000 in
set_option maxRecDepth 100000 in
/-- the law's fan -/
theorem c_L_fan (l : Launch) (hlt : l.stackTraces = false) (dC : Nat → ClassId) (dI : Nat → Nat → Nat) (cI cII cL : ClassId) (aX : Nat → Nat) (nw : Nat) (bs : Nat) (ch : Nat) (ep : Int32) (ol : Int32) (aC : Nat → Nat) (cf : Nat → Int32) (cp : Nat → Int32) (k : Nat) (x0 : Int32) (x1 : Int32)  (ao : Nat → Nat) (fo : Nat → Int64) (hz : Nat) (hk1 : k ≤ 5) : dk_Li l yL_fan wsL_fan ({ frames := 8, cells := 3, slots := 18, locals := 126 }) (dC, dI) (dk_TL cI cII cL) [.ref (aX 0), .int x0, .int x1, .ref (ao 0)] (dk_X cI cII aX nw (aC 0) bs ch ep ol ++ dk_C cI cII aC cf cp (nI k) ++ dk_O cL ao fo) hz (dk_kFan cf cp k x0 x1) (dk_X cI cII aX nw (aC 0) bs ch ep (if dk_kFan cf cp k x0 x1 = 0 then 1 else ol) ++ dk_C cI cII aC (if dk_kFan cf cp k x0 x1 = 0 then (upd cf k x0) else cf) (if dk_kFan cf cp k x0 x1 = 0 then (upd cp k x1) else cp) (if dk_kFan cf cp k x0 x1 = 0 then (nI (k + 1)) else (nI k)) ++ dk_O cL ao (if dk_kFan cf cp k x0 x1 = 0 then vp_updL fo 0 (nI (k + 1)).toInt64 else fo)) 3 18 := by
  refine dk_ofLi (cc := cL_fan) (maxL := 5) (hh := [(0, 10, 13, 13), (0, 10, 17, 15)]) (by decide) rfl (Nat.le_of_ble_eq_true rfl) ?_
  intro p e s m args below meth c A ls Q ⟨hx, hb, hml, hts, hown, hnm⟩ hlocks htab hsz hK hP hD hA hS hl hE hN hret
  have hT : ∀ w ∈ dk_tbl, w.before args s = true := fun w h => hts w (List.mem_cons_of_mem _ h)
  have hown : s.vm.findClass RL = some m.cls := hown
  have hK2 := hK.sub (tys' := dk_T cI cII) [0, 1] rfl
  have hl : lv_has ls 5 [(0, .ref (aX 0)), (1, .int x0), (2, .int x1), (3, .ref (ao 0))] := hl
  refine lv_aload_n hx hb dL_fan_0 rfl (lv_at hl 3 rfl) ?_
  refine lv_iconst (v := 0) hx hb dL_fan_1 (by decide) ?_
  refine lv_aload_n hx hb dL_fan_2 rfl (lv_at hl 0 rfl) ?_
  refine lv_iload_n hx hb dL_fan_3 rfl (lv_at hl 1 rfl) ?_
  refine lv_iload_n hx hb dL_fan_4 rfl (lv_at hl 2 rfl) ?_
  refine dk_xcalli (wr := dk_O cL ao fo) (vx_runV (As := [.int x0, .int x1]) (rest := [.int 0, .ref (ao 0)]) ⟨hx, hb, hml, hown, hT⟩ (c_X3_fan l hlt dC dI cI cII aX nw bs ch ep ol aC cf cp k x0 x1 _ hk1) (cwV 2 hT (dk_gV mw_390 mw_391 mw_392 mw_23 mw_393) rfl rfl rfl (by decide +kernel) ⟨Nat.le_of_ble_eq_true rfl, Nat.le_of_ble_eq_true rfl⟩) (dk_preXV hK2 hP hD hE hS hA [0, 1, 2, 3] rfl rfl (q0 := 0) (ci := 3) rfl rfl) rfl rfl hl.1 rfl (lv_room (Nat.le_of_ble_eq_true rfl)) dL_fan_5 ⟨Nat.le_of_ble_eq_true rfl, Nat.le_of_ble_eq_true rfl⟩) hP hD hS hA [0, 1, 2, 3] [4] rfl rfl rfl (by decide) (fun E ce q9 H1 locs1 hpx hP1 hD1 hS1 h1 h2 h3 => ?_) (fun r9 _ H locs h9 hP hD hS => ?_)
  · rcases hpx with ⟨rfl, hk1⟩ | ⟨rfl, hk2⟩
    · have hk0 : ¬ dk_kFan cf cp k x0 x1 = 0 := by rw [hk1]; decide
      simp only [if_neg hk0] at hret
      refine vx_catch hown [] ((tableOf [(0, 10, 13, 13), (0, 10, 17, 15)])[0]) [(tableOf [(0, 10, 13, 13), (0, 10, 17, 15)])[1]] (by rw [htab]; rfl) (fun z h => absurd h List.not_mem_nil) (by decide) (by decide) (hT _ mw_248) (va_Nw.use (w := .castable dk_IAE dk_IAE) rfl (hE.2.2.2 _ (by decide +kernel))) h1 h2 h3 ?_
      refine lv_astore (lv' := [(4, .ref q9), (0, .ref (aX 0)), (1, .int x0), (2, .int x1), (3, .ref (ao 0))]) hx hb dL_fan_13 hl (by decide) rfl (fun ls hl => ?_)
      refine lv_iconst (v := 1) hx hb dL_fan_15 (by decide) ?_
      refine W.widen (k := 3) (n := 18) (Nat.le_of_ble_eq_true rfl) (Nat.le_of_ble_eq_true rfl) ?_
      exact hret _ _ _ _ _ hk1.symm (hP1.sub [1, 2, 3, 4, 0] rfl) (hD1.sub [1, 2, 3, 4, 0] (by decide) rfl) hS1 dL_fan_16
    · have hk0 : ¬ dk_kFan cf cp k x0 x1 = 0 := by rw [hk2]; decide
      simp only [if_neg hk0] at hret
      refine vx_catch hown [(tableOf [(0, 10, 13, 13), (0, 10, 17, 15)])[0]] ((tableOf [(0, 10, 13, 13), (0, 10, 17, 15)])[1]) [] (by rw [htab]; rfl) (fun z h => by rw [List.mem_singleton.mp h]; exact Or.inr ⟨by decide, dk_IAE, hT _ mw_248, hN⟩) (by decide) (by decide) (hT _ mw_249) (va_Nw.use (w := .castable dk_ISE dk_ISE) rfl (hE.2.2.2 _ (by decide +kernel))) h1 h2 h3 ?_
      refine lv_astore (lv' := [(4, .ref q9), (0, .ref (aX 0)), (1, .int x0), (2, .int x1), (3, .ref (ao 0))]) hx hb dL_fan_17 hl (by decide) rfl (fun ls hl => ?_)
      refine lv_iconst (v := 2) hx hb dL_fan_19 (by decide) ?_
      refine W.widen (k := 3) (n := 18) (Nat.le_of_ble_eq_true rfl) (Nat.le_of_ble_eq_true rfl) ?_
      exact hret _ _ _ _ _ hk2.symm (hP1.sub [1, 2, 3, 4, 0] rfl) (hD1.sub [1, 2, 3, 4, 0] (by decide) rfl) hS1 dL_fan_20
  · obtain ⟨hk0, h7⟩ := h9
    rw [h7]
    simp only [if_pos hk0] at hret
    have hP : va_P (dC, dI) vwCl (dk_O cL ao fo ++ (dk_X cI cII aX nw (aC 0) bs ch ep 1 ++ dk_C cI cII aC (upd cf k x0) (upd cp k x1) (nI (k + 1)))) H := hP
    have hD : va_D A (dk_O cL ao fo ++ (dk_X cI cII aX nw (aC 0) bs ch ep 1 ++ dk_C cI cII aC (upd cf k x0) (upd cp k x1) (nI (k + 1)))) := hD
    refine lv_i2l (v := ((nI (k + 1))).toInt64) hx hb dL_fan_8 rfl ?_
    refine va_last hx hb hK hP hD hS 0 2 rfl rfl (by unfold vp_in; decide) dL_fan_9 (fun H locs hP hD hS => ?_)
    have hP : va_P (dC, dI) vwCl (dk_O cL ao (vp_updL fo 0 (((nI (k + 1))).toInt64)) ++ (dk_X cI cII aX nw (aC 0) bs ch ep 1 ++ dk_C cI cII aC (upd cf k x0) (upd cp k x1) (nI (k + 1)))) H := hP
    have hD : va_D A (dk_O cL ao (vp_updL fo 0 (((nI (k + 1))).toInt64)) ++ (dk_X cI cII aX nw (aC 0) bs ch ep 1 ++ dk_C cI cII aC (upd cf k x0) (upd cp k x1) (nI (k + 1)))) := hD
    refine lv_goto (tgt := 21) hx hb dL_fan_10 (by decide) ?_
    refine lv_iconst (v := 0) hx hb dL_fan_21 (by decide) ?_
    refine W.widen (k := 3) (n := 18) (Nat.le_of_ble_eq_true rfl) (Nat.le_of_ble_eq_true rfl) ?_
    exact hret _ _ _ _ _ hk0.symm (hP.sub [1, 2, 3, 4, 0] rfl) (hD.sub [1, 2, 3, 4, 0] (by decide) rfl) hS dL_fan_22
end
section
set_option maxHeartbeats 4000000 in
set_option maxRecDepth 100000 in
/-- the law's flow -/
theorem c_L_flow (l : Launch) (hlt : l.stackTraces = false) (dC : Nat → ClassId) (dI : Nat → Nat → Nat) (cI cII cL : ClassId) (aX : Nat → Nat) (cv : Nat) (bs : Nat) (ch : Nat) (ep : Int32) (ol : Int32) (aN : Nat → Nat) (fr : Nat → Int32) (le : Nat → Int32) (fi : Nat → Int32) (ne : Nat → Int32) (fl : Nat → Int32) (ar : Nat → Int32) (pr : Nat → Int32) (sz : Int32) (sp : Int32) (d : Nat) (x0 : Int32)  (ao : Nat → Nat) (fo : Nat → Int64) (hz : Nat) (h1 : d ≤ 6) : dk_Li l yL_flow wsL_flow ({ frames := 8, cells := 1, slots := 6, locals := 125 }) (dC, dI) (dk_TL cI cII cL) [.ref (aX 0), .int x0, .ref (ao 0)] (dk_X cI cII aX (aN 0) cv bs ch ep ol ++ dk_N cI cII aN fr le fi ne fl (nI d) ar pr sz sp ++ dk_O cL ao fo) hz (dk_kIn 1 d x0) (dk_X cI cII aX (aN 0) cv bs ch ep ol ++ dk_N cI cII aN fr le fi ne fl (nI d) ar pr sz sp ++ dk_O cL ao (if dk_kIn 1 d x0 = 0 then vp_updL fo 0 (fl x0.toNatClampNeg).toInt64 else fo)) 1 6 := by
  refine dk_ofLi (cc := cL_flow) (maxL := 4) (hh := [(0, 9, 12, 13)]) (by decide) rfl (Nat.le_of_ble_eq_true rfl) ?_
  intro p e s m args below meth c A ls Q ⟨hx, hb, hml, hts, hown, hnm⟩ hlocks htab hsz hK hP hD hA hS hl hE hN hret
  have hT : ∀ w ∈ dk_tbl, w.before args s = true := fun w h => hts w (List.mem_cons_of_mem _ h)
  have hown : s.vm.findClass RL = some m.cls := hown
  have hK2 := hK.sub (tys' := dk_T cI cII) [0, 1] rfl
  have hl : lv_has ls 4 [(0, .ref (aX 0)), (1, .int x0), (2, .ref (ao 0))] := hl
  refine lv_aload_n hx hb dL_flow_0 rfl (lv_at hl 2 rfl) ?_
  refine lv_iconst (v := 0) hx hb dL_flow_1 (by decide) ?_
  refine lv_aload_n hx hb dL_flow_2 rfl (lv_at hl 0 rfl) ?_
  refine lv_iload_n hx hb dL_flow_3 rfl (lv_at hl 1 rfl) ?_
  refine dk_xcalli (wr := dk_O cL ao fo) (vx_runV (As := [.int x0]) (rest := [.int 0, .ref (ao 0)]) ⟨hx, hb, hml, hown, hT⟩ (c_X3_flow l hlt dC dI cI cII aX cv bs ch ep ol aN fr le fi ne fl ar pr sz sp d x0 _ h1) (cwV 1 hT (dk_gV mw_406 mw_407 mw_408 mw_23 mw_409) rfl rfl rfl (by decide +kernel) ⟨Nat.le_of_ble_eq_true rfl, Nat.le_of_ble_eq_true rfl⟩) (dk_preXV hK2 hP hD hE hS hA [0, 1, 2, 3, 4, 5, 6, 7, 8] rfl rfl (q0 := 0) (ci := 3) rfl rfl) rfl rfl hl.1 rfl (lv_room (Nat.le_of_ble_eq_true rfl)) dL_flow_4 ⟨Nat.le_of_ble_eq_true rfl, Nat.le_of_ble_eq_true rfl⟩) hP hD hS hA [0, 1, 2, 3, 4, 5, 6, 7, 8] [9] rfl rfl rfl (by decide) (fun E ce q9 H1 locs1 hpx hP1 hD1 hS1 h1 h2 h3 => ?_) (fun r9 _ H locs h9 hP hD hS => ?_)
  · rcases hpx with ⟨rfl, hk1⟩ | ⟨rfl, hk2⟩
    · have hk0 : ¬ dk_kIn 1 d x0 = 0 := by rw [hk1]; decide
      simp only [if_neg hk0] at hret
      refine vx_catch hown [] ((tableOf [(0, 9, 12, 13)])[0]) [] (by rw [htab]; rfl) (fun z h => absurd h List.not_mem_nil) (by decide) (by decide) (hT _ mw_248) (va_Nw.use (w := .castable dk_IAE dk_IAE) rfl (hE.2.2.2 _ (by decide +kernel))) h1 h2 h3 ?_
      refine lv_astore_n (lv' := [(3, .ref q9), (0, .ref (aX 0)), (1, .int x0), (2, .ref (ao 0))]) hx hb dL_flow_12 rfl hl (by decide) rfl (fun ls hl => ?_)
      refine lv_iconst (v := 1) hx hb dL_flow_13 (by decide) ?_
      refine W.widen (k := 1) (n := 6) (Nat.le_of_ble_eq_true rfl) (Nat.le_of_ble_eq_true rfl) ?_
      exact hret _ _ _ _ _ hk1.symm (hP1.sub [1, 2, 3, 4, 5, 6, 7, 8, 9, 0] rfl) (hD1.sub [1, 2, 3, 4, 5, 6, 7, 8, 9, 0] (by decide) rfl) hS1 dL_flow_14
    · exact absurd hk2 dk_ne2In
  · obtain ⟨hk0, h7⟩ := h9
    rw [h7]
    simp only [if_pos hk0] at hret
    have hP : va_P (dC, dI) vwCl (dk_O cL ao fo ++ (dk_X cI cII aX (aN 0) cv bs ch ep ol ++ dk_N cI cII aN fr le fi ne fl (nI d) ar pr sz sp)) H := hP
    have hD : va_D A (dk_O cL ao fo ++ (dk_X cI cII aX (aN 0) cv bs ch ep ol ++ dk_N cI cII aN fr le fi ne fl (nI d) ar pr sz sp)) := hD
    refine lv_i2l (v := ((fl x0.toNatClampNeg)).toInt64) hx hb dL_flow_7 rfl ?_
    refine va_last hx hb hK hP hD hS 0 2 rfl rfl (by unfold vp_in; decide) dL_flow_8 (fun H locs hP hD hS => ?_)
    have hP : va_P (dC, dI) vwCl (dk_O cL ao (vp_updL fo 0 (((fl x0.toNatClampNeg)).toInt64)) ++ (dk_X cI cII aX (aN 0) cv bs ch ep ol ++ dk_N cI cII aN fr le fi ne fl (nI d) ar pr sz sp)) H := hP
    have hD : va_D A (dk_O cL ao (vp_updL fo 0 (((fl x0.toNatClampNeg)).toInt64)) ++ (dk_X cI cII aX (aN 0) cv bs ch ep ol ++ dk_N cI cII aN fr le fi ne fl (nI d) ar pr sz sp)) := hD
    refine lv_goto (tgt := 15) hx hb dL_flow_9 (by decide) ?_
    refine lv_iconst (v := 0) hx hb dL_flow_15 (by decide) ?_
    refine W.widen (k := 1) (n := 6) (Nat.le_of_ble_eq_true rfl) (Nat.le_of_ble_eq_true rfl) ?_
    exact hret _ _ _ _ _ hk0.symm (hP.sub [1, 2, 3, 4, 5, 6, 7, 8, 9, 0] rfl) (hD.sub [1, 2, 3, 4, 5, 6, 7, 8, 9, 0] (by decide) rfl) hS dL_flow_16
end
section
set_option maxHeartbeats 4000000 in
set_option maxRecDepth 100000 in
/-- the law's told -/
theorem c_L_told (l : Launch) (hlt : l.stackTraces = false) (dC : Nat → ClassId) (dI : Nat → Nat → Nat) (cI cII cL : ClassId) (aX : Nat → Nat) (cv : Nat) (bs : Nat) (ch : Nat) (ep : Int32) (ol : Int32) (aN : Nat → Nat) (fr : Nat → Int32) (le : Nat → Int32) (fi : Nat → Int32) (ne : Nat → Int32) (fl : Nat → Int32) (ar : Nat → Int32) (pr : Nat → Int32) (sp : Int32) (d : Nat) (z : Nat) (x0 : Int32) (x1 : Int32) (x2 : Int32)  (ao : Nat → Nat) (fo : Nat → Int64) (hz : Nat) (h1 : d ≤ 6) (h2 : z ≤ 4) (har : ∀ j, j < z → ¬ ar j = 0) (har2 : ∀ j, j < z → ¬ (ar j).toInt64 * (ar j).toInt64 = 0) : dk_Li l yL_told wsL_told ({ frames := 8, cells := 3, slots := 18, locals := 127 }) (dC, dI) (dk_TL cI cII cL) [.ref (aX 0), .int x0, .int x1, .int x2, .ref (ao 0)] (dk_X cI cII aX (aN 0) cv bs ch ep ol ++ dk_N cI cII aN fr le fi ne fl (nI d) ar pr (nI z) sp ++ dk_O cL ao fo) hz (dk_kTold d z x0 x1 x2) (dk_X cI cII aX (aN 0) cv bs ch ep ol ++ dk_N cI cII aN fr le fi ne fl (nI d) ar pr (nI z) sp ++ dk_O cL ao (if dk_kTold d z x0 x1 x2 = 0 then vp_updL fo 0 (if x2 = 0 then dk_speed fl ar x0.toNatClampNeg x1.toNatClampNeg else dk_fall le fi fl ar x0.toNatClampNeg x1.toNatClampNeg).toInt64 else fo)) 3 18 := by
  refine dk_ofLi (cc := cL_told) (maxL := 6) (hh := [(0, 12, 15, 13)]) (by decide) rfl (Nat.le_of_ble_eq_true rfl) ?_
  intro p e s m args below meth c A ls Q ⟨hx, hb, hml, hts, hown, hnm⟩ hlocks htab hsz hK hP hD hA hS hl hE hN hret
  have hT : ∀ w ∈ dk_tbl, w.before args s = true := fun w h => hts w (List.mem_cons_of_mem _ h)
  have hown : s.vm.findClass RL = some m.cls := hown
  have hK2 := hK.sub (tys' := dk_T cI cII) [0, 1] rfl
  have hl : lv_has ls 6 [(0, .ref (aX 0)), (1, .int x0), (2, .int x1), (3, .int x2), (4, .ref (ao 0))] := hl
  refine lv_aload hx hb dL_told_0 (lv_at hl 4 rfl) ?_
  refine lv_iconst (v := 0) hx hb dL_told_2 (by decide) ?_
  refine lv_aload_n hx hb dL_told_3 rfl (lv_at hl 0 rfl) ?_
  refine lv_iload_n hx hb dL_told_4 rfl (lv_at hl 1 rfl) ?_
  refine lv_iload_n hx hb dL_told_5 rfl (lv_at hl 2 rfl) ?_
  refine lv_iload_n hx hb dL_told_6 rfl (lv_at hl 3 rfl) ?_
  refine dk_xcalli (wr := dk_O cL ao fo) (vx_runV (As := [.int x0, .int x1, .int x2]) (rest := [.int 0, .ref (ao 0)]) ⟨hx, hb, hml, hown, hT⟩ (c_X3_told l hlt dC dI cI cII aX cv bs ch ep ol aN fr le fi ne fl ar pr sp d z x0 x1 x2 _ h1 h2 har har2) (cwV 3 hT (dk_gV mw_413 mw_414 mw_415 mw_23 mw_416) rfl rfl rfl (by decide +kernel) ⟨Nat.le_of_ble_eq_true rfl, Nat.le_of_ble_eq_true rfl⟩) (dk_preXV hK2 hP hD hE hS hA [0, 1, 2, 3, 4, 5, 6, 7, 8] rfl rfl (q0 := 0) (ci := 3) rfl rfl) rfl rfl hl.1 rfl (lv_room (Nat.le_of_ble_eq_true rfl)) dL_told_7 ⟨Nat.le_of_ble_eq_true rfl, Nat.le_of_ble_eq_true rfl⟩) hP hD hS hA [0, 1, 2, 3, 4, 5, 6, 7, 8] [9] rfl rfl rfl (by decide) (fun E ce q9 H1 locs1 hpx hP1 hD1 hS1 h1 h2 h3 => ?_) (fun r9 _ H locs h9 hP hD hS => ?_)
  · rcases hpx with ⟨rfl, hk1⟩ | ⟨rfl, hk2⟩
    · have hk0 : ¬ dk_kTold d z x0 x1 x2 = 0 := by rw [hk1]; decide
      simp only [if_neg hk0] at hret
      refine vx_catch hown [] ((tableOf [(0, 12, 15, 13)])[0]) [] (by rw [htab]; rfl) (fun z h => absurd h List.not_mem_nil) (by decide) (by decide) (hT _ mw_248) (va_Nw.use (w := .castable dk_IAE dk_IAE) rfl (hE.2.2.2 _ (by decide +kernel))) h1 h2 h3 ?_
      refine lv_astore (lv' := [(5, .ref q9), (0, .ref (aX 0)), (1, .int x0), (2, .int x1), (3, .int x2), (4, .ref (ao 0))]) hx hb dL_told_15 hl (by decide) rfl (fun ls hl => ?_)
      refine lv_iconst (v := 1) hx hb dL_told_17 (by decide) ?_
      refine W.widen (k := 3) (n := 18) (Nat.le_of_ble_eq_true rfl) (Nat.le_of_ble_eq_true rfl) ?_
      exact hret _ _ _ _ _ hk1.symm (hP1.sub [1, 2, 3, 4, 5, 6, 7, 8, 9, 0] rfl) (hD1.sub [1, 2, 3, 4, 5, 6, 7, 8, 9, 0] (by decide) rfl) hS1 dL_told_18
    · exact absurd hk2 dk_ne2Told
  · obtain ⟨hk0, h7⟩ := h9
    rw [h7]
    simp only [if_pos hk0] at hret
    have hP : va_P (dC, dI) vwCl (dk_O cL ao fo ++ (dk_X cI cII aX (aN 0) cv bs ch ep ol ++ dk_N cI cII aN fr le fi ne fl (nI d) ar pr (nI z) sp)) H := hP
    have hD : va_D A (dk_O cL ao fo ++ (dk_X cI cII aX (aN 0) cv bs ch ep ol ++ dk_N cI cII aN fr le fi ne fl (nI d) ar pr (nI z) sp)) := hD
    refine lv_i2l (v := ((if x2 = 0 then dk_speed fl ar x0.toNatClampNeg x1.toNatClampNeg else dk_fall le fi fl ar x0.toNatClampNeg x1.toNatClampNeg)).toInt64) hx hb dL_told_10 rfl ?_
    refine va_last hx hb hK hP hD hS 0 2 rfl rfl (by unfold vp_in; decide) dL_told_11 (fun H locs hP hD hS => ?_)
    have hP : va_P (dC, dI) vwCl (dk_O cL ao (vp_updL fo 0 (((if x2 = 0 then dk_speed fl ar x0.toNatClampNeg x1.toNatClampNeg else dk_fall le fi fl ar x0.toNatClampNeg x1.toNatClampNeg)).toInt64)) ++ (dk_X cI cII aX (aN 0) cv bs ch ep ol ++ dk_N cI cII aN fr le fi ne fl (nI d) ar pr (nI z) sp)) H := hP
    have hD : va_D A (dk_O cL ao (vp_updL fo 0 (((if x2 = 0 then dk_speed fl ar x0.toNatClampNeg x1.toNatClampNeg else dk_fall le fi fl ar x0.toNatClampNeg x1.toNatClampNeg)).toInt64)) ++ (dk_X cI cII aX (aN 0) cv bs ch ep ol ++ dk_N cI cII aN fr le fi ne fl (nI d) ar pr (nI z) sp)) := hD
    refine lv_goto (tgt := 19) hx hb dL_told_12 (by decide) ?_
    refine lv_iconst (v := 0) hx hb dL_told_19 (by decide) ?_
    refine W.widen (k := 3) (n := 18) (Nat.le_of_ble_eq_true rfl) (Nat.le_of_ble_eq_true rfl) ?_
    exact hret _ _ _ _ _ hk0.symm (hP.sub [1, 2, 3, 4, 5, 6, 7, 8, 9, 0] rfl) (hD.sub [1, 2, 3, 4, 5, 6, 7, 8, 9, 0] (by decide) rfl) hS dL_told_20
end
section
set_option maxHeartbeats 4000000 in
set_option maxRecDepth 100000 in
/-- the law's best -/
theorem c_L_best (l : Launch) (hlt : l.stackTraces = false) (dC : Nat → ClassId) (dI : Nat → Nat → Nat) (cI cII cL : ClassId) (aX : Nat → Nat) (ch : Nat) (ep : Int32) (ol : Int32) (aN : Nat → Nat) (fr : Nat → Int32) (le : Nat → Int32) (fi : Nat → Int32) (ne : Nat → Int32) (fl : Nat → Int32) (ar : Nat → Int32) (pr : Nat → Int32) (sp : Int32) (aC : Nat → Nat) (cf : Nat → Int32) (cp : Nat → Int32) (aB : Nat → Nat) (F : Nat → Nat → Int32) (li : Int32) (en : Int32) (d : Nat) (z : Nat) (k : Nat) (st : dk_SS) (x0 : Int32)  (ao : Nat → Nat) (fo : Nat → Int64) (hz : Nat) (hz1 : z ≤ 4) (hd1 : d ≤ 6) (hfr : ∀ k, k < 7 → vp_in (fr k) 7) (har : ∀ j, j < z → ¬ ar j = 0) (har2 : ∀ j, j < z → ¬ (ar j).toInt64 * (ar j).toInt64 = 0) (hk1 : k ≤ 5) (hcv : ∀ i, 0 < i → i < k → ¬ cf i - cf (i - 1) = 0) : dk_Li l yL_best wsL_best ({ frames := 17, cells := 1, slots := 6, locals := 417 }) (dC, dI) (dk_TL cI cII cL) [.ref (aX 0), .int x0, .ref (ao 0)] (dk_X cI cII aX (aN 0) (aC 0) (aB 0) ch ep ol ++ dk_N cI cII aN fr le fi ne fl (nI d) ar pr (nI z) sp ++ dk_C cI cII aC cf cp (nI k) ++ dk_SW cI cII aB (aN 0) F li en st ++ dk_O cL ao fo) hz (dk_kBest x0) (dk_X cI cII aX (aN 0) (aC 0) (aB 0) ch ep (if dk_kBest x0 = 0 then 0 else ol) ++ dk_N cI cII aN fr le fi ne fl (nI d) ar pr (nI z) sp ++ dk_C cI cII aC cf cp (nI k) ++ dk_SW cI cII aB (aN 0) (if dk_kBest x0 = 0 then (dk_bF ol d z le fi fl ar sp F) else F) (if dk_kBest x0 = 0 then (dk_bL ol cf cp k fl li) else li) (if dk_kBest x0 = 0 then (dk_bE ol ep en) else en) (if dk_kBest x0 = 0 then dk_bS ol d z fr le fi fl ar pr sp cf cp k ep F st else st) ++ dk_O cL ao (if dk_kBest x0 = 0 then vp_updL fo 0 (if (dk_bS ol d z fr le fi fl ar pr sp cf cp k ep F st).2.2.2.2.1 = 0 then (-1) else if x0 = 0 then (dk_bS ol d z fr le fi fl ar pr sp cf cp k ep F st).2.2.2.2.2.1 else (dk_bS ol d z fr le fi fl ar pr sp cf cp k ep F st).2.2.2.2.2.2).toInt64 else fo)) 1 6 := by
  refine dk_ofLi (cc := cL_best) (maxL := 4) (hh := [(0, 9, 12, 13)]) (by decide) rfl (Nat.le_of_ble_eq_true rfl) ?_
  intro p e s m args below meth c A ls Q ⟨hx, hb, hml, hts, hown, hnm⟩ hlocks htab hsz hK hP hD hA hS hl hE hN hret
  have hT : ∀ w ∈ dk_tbl, w.before args s = true := fun w h => hts w (List.mem_cons_of_mem _ h)
  have hown : s.vm.findClass RL = some m.cls := hown
  have hK2 := hK.sub (tys' := dk_T cI cII) [0, 1] rfl
  have hl : lv_has ls 4 [(0, .ref (aX 0)), (1, .int x0), (2, .ref (ao 0))] := hl
  refine lv_aload_n hx hb dL_best_0 rfl (lv_at hl 2 rfl) ?_
  refine lv_iconst (v := 0) hx hb dL_best_1 (by decide) ?_
  refine lv_aload_n hx hb dL_best_2 rfl (lv_at hl 0 rfl) ?_
  refine lv_iload_n hx hb dL_best_3 rfl (lv_at hl 1 rfl) ?_
  refine dk_xcalli (wr := dk_O cL ao fo) (vx_runV (As := [.int x0]) (rest := [.int 0, .ref (ao 0)]) ⟨hx, hb, hml, hown, hT⟩ (c_X3_best l hlt dC dI cI cII aX ch ep ol aN fr le fi ne fl ar pr sp aC cf cp aB F li en d z k st x0 _ hz1 hd1 hfr har har2 hk1 hcv) (cwV 1 hT (dk_gV mw_422 mw_423 mw_424 mw_23 mw_425) rfl rfl rfl (by decide +kernel) ⟨Nat.le_of_ble_eq_true rfl, Nat.le_of_ble_eq_true rfl⟩) (dk_preXV hK2 hP hD hE hS hA [0, 1, 2, 3, 4, 5, 6, 7, 8, 9, 10, 11, 12, 13, 14, 15, 16, 17, 18, 19, 20, 21, 22, 23, 24] rfl rfl (q0 := 0) (ci := 3) rfl rfl) rfl rfl hl.1 rfl (lv_room (Nat.le_of_ble_eq_true rfl)) dL_best_4 ⟨Nat.le_of_ble_eq_true rfl, Nat.le_of_ble_eq_true rfl⟩) hP hD hS hA [0, 1, 2, 3, 4, 5, 6, 7, 8, 9, 10, 11, 12, 13, 14, 15, 16, 17, 18, 19, 20, 21, 22, 23, 24] [25] rfl rfl rfl (by decide) (fun E ce q9 H1 locs1 hpx hP1 hD1 hS1 h1 h2 h3 => ?_) (fun r9 _ H locs h9 hP hD hS => ?_)
  · rcases hpx with ⟨rfl, hk1⟩ | ⟨rfl, hk2⟩
    · have hk0 : ¬ dk_kBest x0 = 0 := by rw [hk1]; decide
      simp only [if_neg hk0] at hret
      refine vx_catch hown [] ((tableOf [(0, 9, 12, 13)])[0]) [] (by rw [htab]; rfl) (fun z h => absurd h List.not_mem_nil) (by decide) (by decide) (hT _ mw_248) (va_Nw.use (w := .castable dk_IAE dk_IAE) rfl (hE.2.2.2 _ (by decide +kernel))) h1 h2 h3 ?_
      refine lv_astore_n (lv' := [(3, .ref q9), (0, .ref (aX 0)), (1, .int x0), (2, .ref (ao 0))]) hx hb dL_best_12 rfl hl (by decide) rfl (fun ls hl => ?_)
      refine lv_iconst (v := 1) hx hb dL_best_13 (by decide) ?_
      refine W.widen (k := 1) (n := 6) (Nat.le_of_ble_eq_true rfl) (Nat.le_of_ble_eq_true rfl) ?_
      exact hret _ _ _ _ _ hk1.symm (hP1.sub [1, 2, 3, 4, 5, 6, 7, 8, 9, 10, 11, 12, 13, 14, 15, 16, 17, 18, 19, 20, 21, 22, 23, 24, 25, 0] rfl) (hD1.sub [1, 2, 3, 4, 5, 6, 7, 8, 9, 10, 11, 12, 13, 14, 15, 16, 17, 18, 19, 20, 21, 22, 23, 24, 25, 0] (by decide) rfl) hS1 dL_best_14
    · exact absurd hk2 dk_ne2Best
  · obtain ⟨hk0, h7⟩ := h9
    rw [h7]
    simp only [if_pos hk0] at hret
    have hP : va_P (dC, dI) vwCl (dk_O cL ao fo ++ (dk_X cI cII aX (aN 0) (aC 0) (aB 0) ch ep 0 ++ dk_N cI cII aN fr le fi ne fl (nI d) ar pr (nI z) sp ++ dk_C cI cII aC cf cp (nI k) ++ dk_SW cI cII aB (aN 0) (dk_bF ol d z le fi fl ar sp F) (dk_bL ol cf cp k fl li) (dk_bE ol ep en) (dk_bS ol d z fr le fi fl ar pr sp cf cp k ep F st))) H := hP
    have hD : va_D A (dk_O cL ao fo ++ (dk_X cI cII aX (aN 0) (aC 0) (aB 0) ch ep 0 ++ dk_N cI cII aN fr le fi ne fl (nI d) ar pr (nI z) sp ++ dk_C cI cII aC cf cp (nI k) ++ dk_SW cI cII aB (aN 0) (dk_bF ol d z le fi fl ar sp F) (dk_bL ol cf cp k fl li) (dk_bE ol ep en) (dk_bS ol d z fr le fi fl ar pr sp cf cp k ep F st))) := hD
    refine lv_i2l (v := ((if (dk_bS ol d z fr le fi fl ar pr sp cf cp k ep F st).2.2.2.2.1 = 0 then (-1) else if x0 = 0 then (dk_bS ol d z fr le fi fl ar pr sp cf cp k ep F st).2.2.2.2.2.1 else (dk_bS ol d z fr le fi fl ar pr sp cf cp k ep F st).2.2.2.2.2.2)).toInt64) hx hb dL_best_7 rfl ?_
    refine va_last hx hb hK hP hD hS 0 2 rfl rfl (by unfold vp_in; decide) dL_best_8 (fun H locs hP hD hS => ?_)
    have hP : va_P (dC, dI) vwCl (dk_O cL ao (vp_updL fo 0 (((if (dk_bS ol d z fr le fi fl ar pr sp cf cp k ep F st).2.2.2.2.1 = 0 then (-1) else if x0 = 0 then (dk_bS ol d z fr le fi fl ar pr sp cf cp k ep F st).2.2.2.2.2.1 else (dk_bS ol d z fr le fi fl ar pr sp cf cp k ep F st).2.2.2.2.2.2)).toInt64)) ++ (dk_X cI cII aX (aN 0) (aC 0) (aB 0) ch ep 0 ++ dk_N cI cII aN fr le fi ne fl (nI d) ar pr (nI z) sp ++ dk_C cI cII aC cf cp (nI k) ++ dk_SW cI cII aB (aN 0) (dk_bF ol d z le fi fl ar sp F) (dk_bL ol cf cp k fl li) (dk_bE ol ep en) (dk_bS ol d z fr le fi fl ar pr sp cf cp k ep F st))) H := hP
    have hD : va_D A (dk_O cL ao (vp_updL fo 0 (((if (dk_bS ol d z fr le fi fl ar pr sp cf cp k ep F st).2.2.2.2.1 = 0 then (-1) else if x0 = 0 then (dk_bS ol d z fr le fi fl ar pr sp cf cp k ep F st).2.2.2.2.2.1 else (dk_bS ol d z fr le fi fl ar pr sp cf cp k ep F st).2.2.2.2.2.2)).toInt64)) ++ (dk_X cI cII aX (aN 0) (aC 0) (aB 0) ch ep 0 ++ dk_N cI cII aN fr le fi ne fl (nI d) ar pr (nI z) sp ++ dk_C cI cII aC cf cp (nI k) ++ dk_SW cI cII aB (aN 0) (dk_bF ol d z le fi fl ar sp F) (dk_bL ol cf cp k fl li) (dk_bE ol ep en) (dk_bS ol d z fr le fi fl ar pr sp cf cp k ep F st))) := hD
    refine lv_goto (tgt := 15) hx hb dL_best_9 (by decide) ?_
    refine lv_iconst (v := 0) hx hb dL_best_15 (by decide) ?_
    refine W.widen (k := 1) (n := 6) (Nat.le_of_ble_eq_true rfl) (Nat.le_of_ble_eq_true rfl) ?_
    exact hret _ _ _ _ _ hk0.symm (hP.sub [1, 2, 3, 4, 5, 6, 7, 8, 9, 10, 11, 12, 13, 14, 15, 16, 17, 18, 19, 20, 21, 22, 23, 24, 25, 0] rfl) (hD.sub [1, 2, 3, 4, 5, 6, 7, 8, 9, 10, 11, 12, 13, 14, 15, 16, 17, 18, 19, 20, 21, 22, 23, 24, 25, 0] (by decide) rfl) hS dL_best_16
end
section
set_option maxHeartbeats 4000000 in
set_option maxRecDepth 100000 in
/-- the law's chosen -/
theorem c_L_chosen (l : Launch) (hlt : l.stackTraces = false) (dC : Nat → ClassId) (dI : Nat → Nat → Nat) (cI cII cL : ClassId) (aX : Nat → Nat) (ch : Nat) (ep : Int32) (ol : Int32) (aN : Nat → Nat) (fr : Nat → Int32) (le : Nat → Int32) (fi : Nat → Int32) (ne : Nat → Int32) (fl : Nat → Int32) (ar : Nat → Int32) (pr : Nat → Int32) (sp : Int32) (aC : Nat → Nat) (cf : Nat → Int32) (cp : Nat → Int32) (aB : Nat → Nat) (F : Nat → Nat → Int32) (li : Int32) (en : Int32) (d : Nat) (z : Nat) (k : Nat) (st : dk_SS) (x0 : Int32)  (ao : Nat → Nat) (fo : Nat → Int64) (hz : Nat) (hz1 : z ≤ 4) (hd1 : d ≤ 6) (hfr : ∀ k, k < 7 → vp_in (fr k) 7) (har : ∀ j, j < z → ¬ ar j = 0) (har2 : ∀ j, j < z → ¬ (ar j).toInt64 * (ar j).toInt64 = 0) (hk1 : k ≤ 5) (hcv : ∀ i, 0 < i → i < k → ¬ cf i - cf (i - 1) = 0) : dk_Li l yL_chosen wsL_chosen ({ frames := 17, cells := 1, slots := 6, locals := 417 }) (dC, dI) (dk_TL cI cII cL) [.ref (aX 0), .int x0, .ref (ao 0)] (dk_X cI cII aX (aN 0) (aC 0) (aB 0) ch ep ol ++ dk_N cI cII aN fr le fi ne fl (nI d) ar pr (nI z) sp ++ dk_C cI cII aC cf cp (nI k) ++ dk_SW cI cII aB (aN 0) F li en st ++ dk_O cL ao fo) hz (dk_kIn 1 d x0) (dk_X cI cII aX (aN 0) (aC 0) (aB 0) ch ep (if dk_kIn 1 d x0 = 0 then 0 else ol) ++ dk_N cI cII aN fr le fi ne fl (nI d) ar pr (nI z) sp ++ dk_C cI cII aC cf cp (nI k) ++ dk_SW cI cII aB (aN 0) (if dk_kIn 1 d x0 = 0 then (dk_bF ol d z le fi fl ar sp F) else F) (if dk_kIn 1 d x0 = 0 then (dk_bL ol cf cp k fl li) else li) (if dk_kIn 1 d x0 = 0 then (dk_bE ol ep en) else en) (if dk_kIn 1 d x0 = 0 then dk_bS ol d z fr le fi fl ar pr sp cf cp k ep F st else st) ++ dk_O cL ao (if dk_kIn 1 d x0 = 0 then vp_updL fo 0 (if (dk_bS ol d z fr le fi fl ar pr sp cf cp k ep F st).2.2.2.2.1 = 0 then (-1) else (dk_bS ol d z fr le fi fl ar pr sp cf cp k ep F st).2.2.1 x0.toNatClampNeg).toInt64 else fo)) 1 6 := by
  refine dk_ofLi (cc := cL_chosen) (maxL := 4) (hh := [(0, 9, 12, 13)]) (by decide) rfl (Nat.le_of_ble_eq_true rfl) ?_
  intro p e s m args below meth c A ls Q ⟨hx, hb, hml, hts, hown, hnm⟩ hlocks htab hsz hK hP hD hA hS hl hE hN hret
  have hT : ∀ w ∈ dk_tbl, w.before args s = true := fun w h => hts w (List.mem_cons_of_mem _ h)
  have hown : s.vm.findClass RL = some m.cls := hown
  have hK2 := hK.sub (tys' := dk_T cI cII) [0, 1] rfl
  have hl : lv_has ls 4 [(0, .ref (aX 0)), (1, .int x0), (2, .ref (ao 0))] := hl
  refine lv_aload_n hx hb dL_chosen_0 rfl (lv_at hl 2 rfl) ?_
  refine lv_iconst (v := 0) hx hb dL_chosen_1 (by decide) ?_
  refine lv_aload_n hx hb dL_chosen_2 rfl (lv_at hl 0 rfl) ?_
  refine lv_iload_n hx hb dL_chosen_3 rfl (lv_at hl 1 rfl) ?_
  refine dk_xcalli (wr := dk_O cL ao fo) (vx_runV (As := [.int x0]) (rest := [.int 0, .ref (ao 0)]) ⟨hx, hb, hml, hown, hT⟩ (c_X3_chosen l hlt dC dI cI cII aX ch ep ol aN fr le fi ne fl ar pr sp aC cf cp aB F li en d z k st x0 _ hz1 hd1 hfr har har2 hk1 hcv) (cwV 1 hT (dk_gV mw_429 mw_430 mw_431 mw_23 mw_432) rfl rfl rfl (by decide +kernel) ⟨Nat.le_of_ble_eq_true rfl, Nat.le_of_ble_eq_true rfl⟩) (dk_preXV hK2 hP hD hE hS hA [0, 1, 2, 3, 4, 5, 6, 7, 8, 9, 10, 11, 12, 13, 14, 15, 16, 17, 18, 19, 20, 21, 22, 23, 24] rfl rfl (q0 := 0) (ci := 3) rfl rfl) rfl rfl hl.1 rfl (lv_room (Nat.le_of_ble_eq_true rfl)) dL_chosen_4 ⟨Nat.le_of_ble_eq_true rfl, Nat.le_of_ble_eq_true rfl⟩) hP hD hS hA [0, 1, 2, 3, 4, 5, 6, 7, 8, 9, 10, 11, 12, 13, 14, 15, 16, 17, 18, 19, 20, 21, 22, 23, 24] [25] rfl rfl rfl (by decide) (fun E ce q9 H1 locs1 hpx hP1 hD1 hS1 h1 h2 h3 => ?_) (fun r9 _ H locs h9 hP hD hS => ?_)
  · rcases hpx with ⟨rfl, hk1⟩ | ⟨rfl, hk2⟩
    · have hk0 : ¬ dk_kIn 1 d x0 = 0 := by rw [hk1]; decide
      simp only [if_neg hk0] at hret
      refine vx_catch hown [] ((tableOf [(0, 9, 12, 13)])[0]) [] (by rw [htab]; rfl) (fun z h => absurd h List.not_mem_nil) (by decide) (by decide) (hT _ mw_248) (va_Nw.use (w := .castable dk_IAE dk_IAE) rfl (hE.2.2.2 _ (by decide +kernel))) h1 h2 h3 ?_
      refine lv_astore_n (lv' := [(3, .ref q9), (0, .ref (aX 0)), (1, .int x0), (2, .ref (ao 0))]) hx hb dL_chosen_12 rfl hl (by decide) rfl (fun ls hl => ?_)
      refine lv_iconst (v := 1) hx hb dL_chosen_13 (by decide) ?_
      refine W.widen (k := 1) (n := 6) (Nat.le_of_ble_eq_true rfl) (Nat.le_of_ble_eq_true rfl) ?_
      exact hret _ _ _ _ _ hk1.symm (hP1.sub [1, 2, 3, 4, 5, 6, 7, 8, 9, 10, 11, 12, 13, 14, 15, 16, 17, 18, 19, 20, 21, 22, 23, 24, 25, 0] rfl) (hD1.sub [1, 2, 3, 4, 5, 6, 7, 8, 9, 10, 11, 12, 13, 14, 15, 16, 17, 18, 19, 20, 21, 22, 23, 24, 25, 0] (by decide) rfl) hS1 dL_chosen_14
    · exact absurd hk2 dk_ne2In
  · obtain ⟨hk0, h7⟩ := h9
    rw [h7]
    simp only [if_pos hk0] at hret
    have hP : va_P (dC, dI) vwCl (dk_O cL ao fo ++ (dk_X cI cII aX (aN 0) (aC 0) (aB 0) ch ep 0 ++ dk_N cI cII aN fr le fi ne fl (nI d) ar pr (nI z) sp ++ dk_C cI cII aC cf cp (nI k) ++ dk_SW cI cII aB (aN 0) (dk_bF ol d z le fi fl ar sp F) (dk_bL ol cf cp k fl li) (dk_bE ol ep en) (dk_bS ol d z fr le fi fl ar pr sp cf cp k ep F st))) H := hP
    have hD : va_D A (dk_O cL ao fo ++ (dk_X cI cII aX (aN 0) (aC 0) (aB 0) ch ep 0 ++ dk_N cI cII aN fr le fi ne fl (nI d) ar pr (nI z) sp ++ dk_C cI cII aC cf cp (nI k) ++ dk_SW cI cII aB (aN 0) (dk_bF ol d z le fi fl ar sp F) (dk_bL ol cf cp k fl li) (dk_bE ol ep en) (dk_bS ol d z fr le fi fl ar pr sp cf cp k ep F st))) := hD
    refine lv_i2l (v := ((if (dk_bS ol d z fr le fi fl ar pr sp cf cp k ep F st).2.2.2.2.1 = 0 then (-1) else (dk_bS ol d z fr le fi fl ar pr sp cf cp k ep F st).2.2.1 x0.toNatClampNeg)).toInt64) hx hb dL_chosen_7 rfl ?_
    refine va_last hx hb hK hP hD hS 0 2 rfl rfl (by unfold vp_in; decide) dL_chosen_8 (fun H locs hP hD hS => ?_)
    have hP : va_P (dC, dI) vwCl (dk_O cL ao (vp_updL fo 0 (((if (dk_bS ol d z fr le fi fl ar pr sp cf cp k ep F st).2.2.2.2.1 = 0 then (-1) else (dk_bS ol d z fr le fi fl ar pr sp cf cp k ep F st).2.2.1 x0.toNatClampNeg)).toInt64)) ++ (dk_X cI cII aX (aN 0) (aC 0) (aB 0) ch ep 0 ++ dk_N cI cII aN fr le fi ne fl (nI d) ar pr (nI z) sp ++ dk_C cI cII aC cf cp (nI k) ++ dk_SW cI cII aB (aN 0) (dk_bF ol d z le fi fl ar sp F) (dk_bL ol cf cp k fl li) (dk_bE ol ep en) (dk_bS ol d z fr le fi fl ar pr sp cf cp k ep F st))) H := hP
    have hD : va_D A (dk_O cL ao (vp_updL fo 0 (((if (dk_bS ol d z fr le fi fl ar pr sp cf cp k ep F st).2.2.2.2.1 = 0 then (-1) else (dk_bS ol d z fr le fi fl ar pr sp cf cp k ep F st).2.2.1 x0.toNatClampNeg)).toInt64)) ++ (dk_X cI cII aX (aN 0) (aC 0) (aB 0) ch ep 0 ++ dk_N cI cII aN fr le fi ne fl (nI d) ar pr (nI z) sp ++ dk_C cI cII aC cf cp (nI k) ++ dk_SW cI cII aB (aN 0) (dk_bF ol d z le fi fl ar sp F) (dk_bL ol cf cp k fl li) (dk_bE ol ep en) (dk_bS ol d z fr le fi fl ar pr sp cf cp k ep F st))) := hD
    refine lv_goto (tgt := 15) hx hb dL_chosen_9 (by decide) ?_
    refine lv_iconst (v := 0) hx hb dL_chosen_15 (by decide) ?_
    refine W.widen (k := 1) (n := 6) (Nat.le_of_ble_eq_true rfl) (Nat.le_of_ble_eq_true rfl) ?_
    exact hret _ _ _ _ _ hk0.symm (hP.sub [1, 2, 3, 4, 5, 6, 7, 8, 9, 10, 11, 12, 13, 14, 15, 16, 17, 18, 19, 20, 21, 22, 23, 24, 25, 0] rfl) (hD.sub [1, 2, 3, 4, 5, 6, 7, 8, 9, 10, 11, 12, 13, 14, 15, 16, 17, 18, 19, 20, 21, 22, 23, 24, 25, 0] (by decide) rfl) hS dL_chosen_16
end
section
set_option maxHeartbeats 4000000 in
set_option maxRecDepth 100000 in
/-- the law's pressure -/
theorem c_L_pressure (l : Launch) (hlt : l.stackTraces = false) (dC : Nat → ClassId) (dI : Nat → Nat → Nat) (cI cII cL : ClassId) (aX : Nat → Nat) (ch : Nat) (ep : Int32) (ol : Int32) (aN : Nat → Nat) (fr : Nat → Int32) (le : Nat → Int32) (fi : Nat → Int32) (ne : Nat → Int32) (fl : Nat → Int32) (ar : Nat → Int32) (pr : Nat → Int32) (sp : Int32) (aC : Nat → Nat) (cf : Nat → Int32) (cp : Nat → Int32) (aB : Nat → Nat) (F : Nat → Nat → Int32) (li : Int32) (en : Int32) (d : Nat) (z : Nat) (k : Nat) (st : dk_SS) (x0 : Int32)  (ao : Nat → Nat) (fo : Nat → Int64) (hz : Nat) (hz1 : z ≤ 4) (hd1 : d ≤ 6) (hfr : ∀ k, k < 7 → vp_in (fr k) 7) (har : ∀ j, j < z → ¬ ar j = 0) (har2 : ∀ j, j < z → ¬ (ar j).toInt64 * (ar j).toInt64 = 0) (hk1 : k ≤ 5) (hcv : ∀ i, 0 < i → i < k → ¬ cf i - cf (i - 1) = 0) : dk_Li l yL_pressure wsL_pressure ({ frames := 17, cells := 1, slots := 6, locals := 417 }) (dC, dI) (dk_TL cI cII cL) [.ref (aX 0), .int x0, .ref (ao 0)] (dk_X cI cII aX (aN 0) (aC 0) (aB 0) ch ep ol ++ dk_N cI cII aN fr le fi ne fl (nI d) ar pr (nI z) sp ++ dk_C cI cII aC cf cp (nI k) ++ dk_SW cI cII aB (aN 0) F li en st ++ dk_O cL ao fo) hz (dk_kIn 0 d x0) (dk_X cI cII aX (aN 0) (aC 0) (aB 0) ch ep (if dk_kIn 0 d x0 = 0 then 0 else ol) ++ dk_N cI cII aN fr le fi ne fl (nI d) ar pr (nI z) sp ++ dk_C cI cII aC cf cp (nI k) ++ dk_SW cI cII aB (aN 0) (if dk_kIn 0 d x0 = 0 then (dk_bF ol d z le fi fl ar sp F) else F) (if dk_kIn 0 d x0 = 0 then (dk_bL ol cf cp k fl li) else li) (if dk_kIn 0 d x0 = 0 then (dk_bE ol ep en) else en) (if dk_kIn 0 d x0 = 0 then dk_bS ol d z fr le fi fl ar pr sp cf cp k ep F st else st) ++ dk_O cL ao (if dk_kIn 0 d x0 = 0 then vp_updL fo 0 (if (dk_bS ol d z fr le fi fl ar pr sp cf cp k ep F st).2.2.2.2.1 = 0 then (-1) else (dk_bS ol d z fr le fi fl ar pr sp cf cp k ep F st).2.2.2.1 x0.toNatClampNeg).toInt64 else fo)) 1 6 := by
  refine dk_ofLi (cc := cL_pressure) (maxL := 4) (hh := [(0, 9, 12, 13)]) (by decide) rfl (Nat.le_of_ble_eq_true rfl) ?_
  intro p e s m args below meth c A ls Q ⟨hx, hb, hml, hts, hown, hnm⟩ hlocks htab hsz hK hP hD hA hS hl hE hN hret
  have hT : ∀ w ∈ dk_tbl, w.before args s = true := fun w h => hts w (List.mem_cons_of_mem _ h)
  have hown : s.vm.findClass RL = some m.cls := hown
  have hK2 := hK.sub (tys' := dk_T cI cII) [0, 1] rfl
  have hl : lv_has ls 4 [(0, .ref (aX 0)), (1, .int x0), (2, .ref (ao 0))] := hl
  refine lv_aload_n hx hb dL_pressure_0 rfl (lv_at hl 2 rfl) ?_
  refine lv_iconst (v := 0) hx hb dL_pressure_1 (by decide) ?_
  refine lv_aload_n hx hb dL_pressure_2 rfl (lv_at hl 0 rfl) ?_
  refine lv_iload_n hx hb dL_pressure_3 rfl (lv_at hl 1 rfl) ?_
  refine dk_xcalli (wr := dk_O cL ao fo) (vx_runV (As := [.int x0]) (rest := [.int 0, .ref (ao 0)]) ⟨hx, hb, hml, hown, hT⟩ (c_X3_pressure l hlt dC dI cI cII aX ch ep ol aN fr le fi ne fl ar pr sp aC cf cp aB F li en d z k st x0 _ hz1 hd1 hfr har har2 hk1 hcv) (cwV 1 hT (dk_gV mw_436 mw_437 mw_438 mw_23 mw_439) rfl rfl rfl (by decide +kernel) ⟨Nat.le_of_ble_eq_true rfl, Nat.le_of_ble_eq_true rfl⟩) (dk_preXV hK2 hP hD hE hS hA [0, 1, 2, 3, 4, 5, 6, 7, 8, 9, 10, 11, 12, 13, 14, 15, 16, 17, 18, 19, 20, 21, 22, 23, 24] rfl rfl (q0 := 0) (ci := 3) rfl rfl) rfl rfl hl.1 rfl (lv_room (Nat.le_of_ble_eq_true rfl)) dL_pressure_4 ⟨Nat.le_of_ble_eq_true rfl, Nat.le_of_ble_eq_true rfl⟩) hP hD hS hA [0, 1, 2, 3, 4, 5, 6, 7, 8, 9, 10, 11, 12, 13, 14, 15, 16, 17, 18, 19, 20, 21, 22, 23, 24] [25] rfl rfl rfl (by decide) (fun E ce q9 H1 locs1 hpx hP1 hD1 hS1 h1 h2 h3 => ?_) (fun r9 _ H locs h9 hP hD hS => ?_)
  · rcases hpx with ⟨rfl, hk1⟩ | ⟨rfl, hk2⟩
    · have hk0 : ¬ dk_kIn 0 d x0 = 0 := by rw [hk1]; decide
      simp only [if_neg hk0] at hret
      refine vx_catch hown [] ((tableOf [(0, 9, 12, 13)])[0]) [] (by rw [htab]; rfl) (fun z h => absurd h List.not_mem_nil) (by decide) (by decide) (hT _ mw_248) (va_Nw.use (w := .castable dk_IAE dk_IAE) rfl (hE.2.2.2 _ (by decide +kernel))) h1 h2 h3 ?_
      refine lv_astore_n (lv' := [(3, .ref q9), (0, .ref (aX 0)), (1, .int x0), (2, .ref (ao 0))]) hx hb dL_pressure_12 rfl hl (by decide) rfl (fun ls hl => ?_)
      refine lv_iconst (v := 1) hx hb dL_pressure_13 (by decide) ?_
      refine W.widen (k := 1) (n := 6) (Nat.le_of_ble_eq_true rfl) (Nat.le_of_ble_eq_true rfl) ?_
      exact hret _ _ _ _ _ hk1.symm (hP1.sub [1, 2, 3, 4, 5, 6, 7, 8, 9, 10, 11, 12, 13, 14, 15, 16, 17, 18, 19, 20, 21, 22, 23, 24, 25, 0] rfl) (hD1.sub [1, 2, 3, 4, 5, 6, 7, 8, 9, 10, 11, 12, 13, 14, 15, 16, 17, 18, 19, 20, 21, 22, 23, 24, 25, 0] (by decide) rfl) hS1 dL_pressure_14
    · exact absurd hk2 dk_ne2In
  · obtain ⟨hk0, h7⟩ := h9
    rw [h7]
    simp only [if_pos hk0] at hret
    have hP : va_P (dC, dI) vwCl (dk_O cL ao fo ++ (dk_X cI cII aX (aN 0) (aC 0) (aB 0) ch ep 0 ++ dk_N cI cII aN fr le fi ne fl (nI d) ar pr (nI z) sp ++ dk_C cI cII aC cf cp (nI k) ++ dk_SW cI cII aB (aN 0) (dk_bF ol d z le fi fl ar sp F) (dk_bL ol cf cp k fl li) (dk_bE ol ep en) (dk_bS ol d z fr le fi fl ar pr sp cf cp k ep F st))) H := hP
    have hD : va_D A (dk_O cL ao fo ++ (dk_X cI cII aX (aN 0) (aC 0) (aB 0) ch ep 0 ++ dk_N cI cII aN fr le fi ne fl (nI d) ar pr (nI z) sp ++ dk_C cI cII aC cf cp (nI k) ++ dk_SW cI cII aB (aN 0) (dk_bF ol d z le fi fl ar sp F) (dk_bL ol cf cp k fl li) (dk_bE ol ep en) (dk_bS ol d z fr le fi fl ar pr sp cf cp k ep F st))) := hD
    refine lv_i2l (v := ((if (dk_bS ol d z fr le fi fl ar pr sp cf cp k ep F st).2.2.2.2.1 = 0 then (-1) else (dk_bS ol d z fr le fi fl ar pr sp cf cp k ep F st).2.2.2.1 x0.toNatClampNeg)).toInt64) hx hb dL_pressure_7 rfl ?_
    refine va_last hx hb hK hP hD hS 0 2 rfl rfl (by unfold vp_in; decide) dL_pressure_8 (fun H locs hP hD hS => ?_)
    have hP : va_P (dC, dI) vwCl (dk_O cL ao (vp_updL fo 0 (((if (dk_bS ol d z fr le fi fl ar pr sp cf cp k ep F st).2.2.2.2.1 = 0 then (-1) else (dk_bS ol d z fr le fi fl ar pr sp cf cp k ep F st).2.2.2.1 x0.toNatClampNeg)).toInt64)) ++ (dk_X cI cII aX (aN 0) (aC 0) (aB 0) ch ep 0 ++ dk_N cI cII aN fr le fi ne fl (nI d) ar pr (nI z) sp ++ dk_C cI cII aC cf cp (nI k) ++ dk_SW cI cII aB (aN 0) (dk_bF ol d z le fi fl ar sp F) (dk_bL ol cf cp k fl li) (dk_bE ol ep en) (dk_bS ol d z fr le fi fl ar pr sp cf cp k ep F st))) H := hP
    have hD : va_D A (dk_O cL ao (vp_updL fo 0 (((if (dk_bS ol d z fr le fi fl ar pr sp cf cp k ep F st).2.2.2.2.1 = 0 then (-1) else (dk_bS ol d z fr le fi fl ar pr sp cf cp k ep F st).2.2.2.1 x0.toNatClampNeg)).toInt64)) ++ (dk_X cI cII aX (aN 0) (aC 0) (aB 0) ch ep 0 ++ dk_N cI cII aN fr le fi ne fl (nI d) ar pr (nI z) sp ++ dk_C cI cII aC cf cp (nI k) ++ dk_SW cI cII aB (aN 0) (dk_bF ol d z le fi fl ar sp F) (dk_bL ol cf cp k fl li) (dk_bE ol ep en) (dk_bS ol d z fr le fi fl ar pr sp cf cp k ep F st))) := hD
    refine lv_goto (tgt := 15) hx hb dL_pressure_9 (by decide) ?_
    refine lv_iconst (v := 0) hx hb dL_pressure_15 (by decide) ?_
    refine W.widen (k := 1) (n := 6) (Nat.le_of_ble_eq_true rfl) (Nat.le_of_ble_eq_true rfl) ?_
    exact hret _ _ _ _ _ hk0.symm (hP.sub [1, 2, 3, 4, 5, 6, 7, 8, 9, 10, 11, 12, 13, 14, 15, 16, 17, 18, 19, 20, 21, 22, 23, 24, 25, 0] rfl) (hD.sub [1, 2, 3, 4, 5, 6, 7, 8, 9, 10, 11, 12, 13, 14, 15, 16, 17, 18, 19, 20, 21, 22, 23, 24, 25, 0] (by decide) rfl) hS dL_pressure_16
end
section
set_option maxHeartbeats 4000000 in
set_option maxRecDepth 100000 in
/-- the law's damper -/
theorem c_L_damper (l : Launch) (hlt : l.stackTraces = false) (dC : Nat → ClassId) (dI : Nat → Nat → Nat) (cI cII cL : ClassId) (aX : Nat → Nat) (ch : Nat) (ep : Int32) (ol : Int32) (aN : Nat → Nat) (fr : Nat → Int32) (le : Nat → Int32) (fi : Nat → Int32) (ne : Nat → Int32) (fl : Nat → Int32) (ar : Nat → Int32) (pr : Nat → Int32) (sp : Int32) (aC : Nat → Nat) (cf : Nat → Int32) (cp : Nat → Int32) (aB : Nat → Nat) (F : Nat → Nat → Int32) (li : Int32) (en : Int32) (d : Nat) (z : Nat) (k : Nat) (st : dk_SS) (x0 : Int32)  (ao : Nat → Nat) (fo : Nat → Int64) (hz : Nat) (hz1 : z ≤ 4) (hd1 : d ≤ 6) (hfr : ∀ k, k < 7 → vp_in (fr k) 7) (har : ∀ j, j < z → ¬ ar j = 0) (har2 : ∀ j, j < z → ¬ (ar j).toInt64 * (ar j).toInt64 = 0) (hk1 : k ≤ 5) (hcv : ∀ i, 0 < i → i < k → ¬ cf i - cf (i - 1) = 0) : dk_Li l yL_damper wsL_damper ({ frames := 17, cells := 1, slots := 6, locals := 417 }) (dC, dI) (dk_TL cI cII cL) [.ref (aX 0), .int x0, .ref (ao 0)] (dk_X cI cII aX (aN 0) (aC 0) (aB 0) ch ep ol ++ dk_N cI cII aN fr le fi ne fl (nI d) ar pr (nI z) sp ++ dk_C cI cII aC cf cp (nI k) ++ dk_SW cI cII aB (aN 0) F li en st ++ dk_O cL ao fo) hz (dk_kIn 1 d x0) (dk_X cI cII aX (aN 0) (aC 0) (aB 0) ch ep (if dk_kIn 1 d x0 = 0 then 0 else ol) ++ dk_N cI cII aN fr le fi ne fl (nI d) ar pr (nI z) sp ++ dk_C cI cII aC cf cp (nI k) ++ dk_SW cI cII aB (aN 0) (if dk_kIn 1 d x0 = 0 then (dk_bF ol d z le fi fl ar sp F) else F) (if dk_kIn 1 d x0 = 0 then (dk_bL ol cf cp k fl li) else li) (if dk_kIn 1 d x0 = 0 then (dk_bE ol ep en) else en) (if dk_kIn 1 d x0 = 0 then dk_bS ol d z fr le fi fl ar pr sp cf cp k ep F st else st) ++ dk_O cL ao (if dk_kIn 1 d x0 = 0 then vp_updL fo 0 (if (dk_bS ol d z fr le fi fl ar pr sp cf cp k ep F st).2.2.2.2.1 = 0 then (-1) else if ne x0.toNatClampNeg = 0 then 0 else (dk_bS ol d z fr le fi fl ar pr sp cf cp k ep F st).2.2.2.2.2.2 - (dk_bS ol d z fr le fi fl ar pr sp cf cp k ep F st).2.2.2.1 x0.toNatClampNeg).toInt64 else fo)) 1 6 := by
  refine dk_ofLi (cc := cL_damper) (maxL := 4) (hh := [(0, 9, 12, 13)]) (by decide) rfl (Nat.le_of_ble_eq_true rfl) ?_
  intro p e s m args below meth c A ls Q ⟨hx, hb, hml, hts, hown, hnm⟩ hlocks htab hsz hK hP hD hA hS hl hE hN hret
  have hT : ∀ w ∈ dk_tbl, w.before args s = true := fun w h => hts w (List.mem_cons_of_mem _ h)
  have hown : s.vm.findClass RL = some m.cls := hown
  have hK2 := hK.sub (tys' := dk_T cI cII) [0, 1] rfl
  have hl : lv_has ls 4 [(0, .ref (aX 0)), (1, .int x0), (2, .ref (ao 0))] := hl
  refine lv_aload_n hx hb dL_damper_0 rfl (lv_at hl 2 rfl) ?_
  refine lv_iconst (v := 0) hx hb dL_damper_1 (by decide) ?_
  refine lv_aload_n hx hb dL_damper_2 rfl (lv_at hl 0 rfl) ?_
  refine lv_iload_n hx hb dL_damper_3 rfl (lv_at hl 1 rfl) ?_
  refine dk_xcalli (wr := dk_O cL ao fo) (vx_runV (As := [.int x0]) (rest := [.int 0, .ref (ao 0)]) ⟨hx, hb, hml, hown, hT⟩ (c_X3_damper l hlt dC dI cI cII aX ch ep ol aN fr le fi ne fl ar pr sp aC cf cp aB F li en d z k st x0 _ hz1 hd1 hfr har har2 hk1 hcv) (cwV 1 hT (dk_gV mw_443 mw_444 mw_445 mw_23 mw_446) rfl rfl rfl (by decide +kernel) ⟨Nat.le_of_ble_eq_true rfl, Nat.le_of_ble_eq_true rfl⟩) (dk_preXV hK2 hP hD hE hS hA [0, 1, 2, 3, 4, 5, 6, 7, 8, 9, 10, 11, 12, 13, 14, 15, 16, 17, 18, 19, 20, 21, 22, 23, 24] rfl rfl (q0 := 0) (ci := 3) rfl rfl) rfl rfl hl.1 rfl (lv_room (Nat.le_of_ble_eq_true rfl)) dL_damper_4 ⟨Nat.le_of_ble_eq_true rfl, Nat.le_of_ble_eq_true rfl⟩) hP hD hS hA [0, 1, 2, 3, 4, 5, 6, 7, 8, 9, 10, 11, 12, 13, 14, 15, 16, 17, 18, 19, 20, 21, 22, 23, 24] [25] rfl rfl rfl (by decide) (fun E ce q9 H1 locs1 hpx hP1 hD1 hS1 h1 h2 h3 => ?_) (fun r9 _ H locs h9 hP hD hS => ?_)
  · rcases hpx with ⟨rfl, hk1⟩ | ⟨rfl, hk2⟩
    · have hk0 : ¬ dk_kIn 1 d x0 = 0 := by rw [hk1]; decide
      simp only [if_neg hk0] at hret
      refine vx_catch hown [] ((tableOf [(0, 9, 12, 13)])[0]) [] (by rw [htab]; rfl) (fun z h => absurd h List.not_mem_nil) (by decide) (by decide) (hT _ mw_248) (va_Nw.use (w := .castable dk_IAE dk_IAE) rfl (hE.2.2.2 _ (by decide +kernel))) h1 h2 h3 ?_
      refine lv_astore_n (lv' := [(3, .ref q9), (0, .ref (aX 0)), (1, .int x0), (2, .ref (ao 0))]) hx hb dL_damper_12 rfl hl (by decide) rfl (fun ls hl => ?_)
      refine lv_iconst (v := 1) hx hb dL_damper_13 (by decide) ?_
      refine W.widen (k := 1) (n := 6) (Nat.le_of_ble_eq_true rfl) (Nat.le_of_ble_eq_true rfl) ?_
      exact hret _ _ _ _ _ hk1.symm (hP1.sub [1, 2, 3, 4, 5, 6, 7, 8, 9, 10, 11, 12, 13, 14, 15, 16, 17, 18, 19, 20, 21, 22, 23, 24, 25, 0] rfl) (hD1.sub [1, 2, 3, 4, 5, 6, 7, 8, 9, 10, 11, 12, 13, 14, 15, 16, 17, 18, 19, 20, 21, 22, 23, 24, 25, 0] (by decide) rfl) hS1 dL_damper_14
    · exact absurd hk2 dk_ne2In
  · obtain ⟨hk0, h7⟩ := h9
    rw [h7]
    simp only [if_pos hk0] at hret
    have hP : va_P (dC, dI) vwCl (dk_O cL ao fo ++ (dk_X cI cII aX (aN 0) (aC 0) (aB 0) ch ep 0 ++ dk_N cI cII aN fr le fi ne fl (nI d) ar pr (nI z) sp ++ dk_C cI cII aC cf cp (nI k) ++ dk_SW cI cII aB (aN 0) (dk_bF ol d z le fi fl ar sp F) (dk_bL ol cf cp k fl li) (dk_bE ol ep en) (dk_bS ol d z fr le fi fl ar pr sp cf cp k ep F st))) H := hP
    have hD : va_D A (dk_O cL ao fo ++ (dk_X cI cII aX (aN 0) (aC 0) (aB 0) ch ep 0 ++ dk_N cI cII aN fr le fi ne fl (nI d) ar pr (nI z) sp ++ dk_C cI cII aC cf cp (nI k) ++ dk_SW cI cII aB (aN 0) (dk_bF ol d z le fi fl ar sp F) (dk_bL ol cf cp k fl li) (dk_bE ol ep en) (dk_bS ol d z fr le fi fl ar pr sp cf cp k ep F st))) := hD
    refine lv_i2l (v := ((if (dk_bS ol d z fr le fi fl ar pr sp cf cp k ep F st).2.2.2.2.1 = 0 then (-1) else if ne x0.toNatClampNeg = 0 then 0 else (dk_bS ol d z fr le fi fl ar pr sp cf cp k ep F st).2.2.2.2.2.2 - (dk_bS ol d z fr le fi fl ar pr sp cf cp k ep F st).2.2.2.1 x0.toNatClampNeg)).toInt64) hx hb dL_damper_7 rfl ?_
    refine va_last hx hb hK hP hD hS 0 2 rfl rfl (by unfold vp_in; decide) dL_damper_8 (fun H locs hP hD hS => ?_)
    have hP : va_P (dC, dI) vwCl (dk_O cL ao (vp_updL fo 0 (((if (dk_bS ol d z fr le fi fl ar pr sp cf cp k ep F st).2.2.2.2.1 = 0 then (-1) else if ne x0.toNatClampNeg = 0 then 0 else (dk_bS ol d z fr le fi fl ar pr sp cf cp k ep F st).2.2.2.2.2.2 - (dk_bS ol d z fr le fi fl ar pr sp cf cp k ep F st).2.2.2.1 x0.toNatClampNeg)).toInt64)) ++ (dk_X cI cII aX (aN 0) (aC 0) (aB 0) ch ep 0 ++ dk_N cI cII aN fr le fi ne fl (nI d) ar pr (nI z) sp ++ dk_C cI cII aC cf cp (nI k) ++ dk_SW cI cII aB (aN 0) (dk_bF ol d z le fi fl ar sp F) (dk_bL ol cf cp k fl li) (dk_bE ol ep en) (dk_bS ol d z fr le fi fl ar pr sp cf cp k ep F st))) H := hP
    have hD : va_D A (dk_O cL ao (vp_updL fo 0 (((if (dk_bS ol d z fr le fi fl ar pr sp cf cp k ep F st).2.2.2.2.1 = 0 then (-1) else if ne x0.toNatClampNeg = 0 then 0 else (dk_bS ol d z fr le fi fl ar pr sp cf cp k ep F st).2.2.2.2.2.2 - (dk_bS ol d z fr le fi fl ar pr sp cf cp k ep F st).2.2.2.1 x0.toNatClampNeg)).toInt64)) ++ (dk_X cI cII aX (aN 0) (aC 0) (aB 0) ch ep 0 ++ dk_N cI cII aN fr le fi ne fl (nI d) ar pr (nI z) sp ++ dk_C cI cII aC cf cp (nI k) ++ dk_SW cI cII aB (aN 0) (dk_bF ol d z le fi fl ar sp F) (dk_bL ol cf cp k fl li) (dk_bE ol ep en) (dk_bS ol d z fr le fi fl ar pr sp cf cp k ep F st))) := hD
    refine lv_goto (tgt := 15) hx hb dL_damper_9 (by decide) ?_
    refine lv_iconst (v := 0) hx hb dL_damper_15 (by decide) ?_
    refine W.widen (k := 1) (n := 6) (Nat.le_of_ble_eq_true rfl) (Nat.le_of_ble_eq_true rfl) ?_
    exact hret _ _ _ _ _ hk0.symm (hP.sub [1, 2, 3, 4, 5, 6, 7, 8, 9, 10, 11, 12, 13, 14, 15, 16, 17, 18, 19, 20, 21, 22, 23, 24, 25, 0] rfl) (hD.sub [1, 2, 3, 4, 5, 6, 7, 8, 9, 10, 11, 12, 13, 14, 15, 16, 17, 18, 19, 20, 21, 22, 23, 24, 25, 0] (by decide) rfl) hS dL_damper_16
end
section
set_option maxHeartbeats 4000000 in
set_option maxRecDepth 100000 in
/-- the law's least -/
theorem c_L_least (l : Launch) (hlt : l.stackTraces = false) (dC : Nat → ClassId) (dI : Nat → Nat → Nat) (cI cII cL : ClassId) (aX : Nat → Nat) (cv : Nat) (bs : Nat) (ep : Int32) (ol : Int32) (aN : Nat → Nat) (fr : Nat → Int32) (le : Nat → Int32) (fi : Nat → Int32) (ne : Nat → Int32) (fl : Nat → Int32) (ar : Nat → Int32) (pr : Nat → Int32) (sp : Int32) (aH : Nat → Nat) (F : Nat → Nat → Int32) (li : Int32) (en : Int32) (d : Nat) (z : Nat) (st : dk_SS) (x0 : Int32)  (ao : Nat → Nat) (fo : Nat → Int64) (hz : Nat) (hz1 : z ≤ 4) (hd1 : d ≤ 6) (hfr : ∀ k, k < 7 → vp_in (fr k) 7) (har : ∀ j, j < z → ¬ ar j = 0) (har2 : ∀ j, j < z → ¬ (ar j).toInt64 * (ar j).toInt64 = 0) : dk_Li l yL_least wsL_least ({ frames := 16, cells := 1, slots := 6, locals := 396 }) (dC, dI) (dk_TL cI cII cL) [.ref (aX 0), .int x0, .ref (ao 0)] (dk_X cI cII aX (aN 0) cv bs (aH 0) ep ol ++ dk_N cI cII aN fr le fi ne fl (nI d) ar pr (nI z) sp ++ dk_SW cI cII aH (aN 0) F li en st ++ dk_O cL ao fo) hz (dk_kLeast x0) (dk_X cI cII aX (aN 0) cv bs (aH 0) ep ol ++ dk_N cI cII aN fr le fi ne fl (nI d) ar pr (nI z) sp ++ dk_SW cI cII aH (aN 0) (if dk_kLeast x0 = 0 then (dk_nr le fi fl ar sp z d 1 F) else F) (if dk_kLeast x0 = 0 then x0 else li) (if dk_kLeast x0 = 0 then 0 else en) (if dk_kLeast x0 = 0 then dk_place d z fr le pr (dk_nr le fi fl ar sp z d 1 F) x0 0 d 1 0 0 (st.1, st.2.1, st.2.2.1, st.2.2.2.1, 0, st.2.2.2.2.2.1, st.2.2.2.2.2.2) else st) ++ dk_O cL ao (if dk_kLeast x0 = 0 then vp_updL fo 0 (if (dk_place d z fr le pr (dk_nr le fi fl ar sp z d 1 F) x0 0 d 1 0 0 (st.1, st.2.1, st.2.2.1, st.2.2.2.1, 0, st.2.2.2.2.2.1, st.2.2.2.2.2.2)).2.2.2.2.1 = 0 then (-1) else (dk_place d z fr le pr (dk_nr le fi fl ar sp z d 1 F) x0 0 d 1 0 0 (st.1, st.2.1, st.2.2.1, st.2.2.2.1, 0, st.2.2.2.2.2.1, st.2.2.2.2.2.2)).2.2.2.2.2.1).toInt64 else fo)) 1 6 := by
  refine dk_ofLi (cc := cL_least) (maxL := 4) (hh := [(0, 9, 12, 13)]) (by decide) rfl (Nat.le_of_ble_eq_true rfl) ?_
  intro p e s m args below meth c A ls Q ⟨hx, hb, hml, hts, hown, hnm⟩ hlocks htab hsz hK hP hD hA hS hl hE hN hret
  have hT : ∀ w ∈ dk_tbl, w.before args s = true := fun w h => hts w (List.mem_cons_of_mem _ h)
  have hown : s.vm.findClass RL = some m.cls := hown
  have hK2 := hK.sub (tys' := dk_T cI cII) [0, 1] rfl
  have hl : lv_has ls 4 [(0, .ref (aX 0)), (1, .int x0), (2, .ref (ao 0))] := hl
  refine lv_aload_n hx hb dL_least_0 rfl (lv_at hl 2 rfl) ?_
  refine lv_iconst (v := 0) hx hb dL_least_1 (by decide) ?_
  refine lv_aload_n hx hb dL_least_2 rfl (lv_at hl 0 rfl) ?_
  refine lv_iload_n hx hb dL_least_3 rfl (lv_at hl 1 rfl) ?_
  refine dk_xcalli (wr := dk_O cL ao fo) (vx_runV (As := [.int x0]) (rest := [.int 0, .ref (ao 0)]) ⟨hx, hb, hml, hown, hT⟩ (c_X3_least l hlt dC dI cI cII aX cv bs ep ol aN fr le fi ne fl ar pr sp aH F li en d z st x0 _ hz1 hd1 hfr har har2) (cwV 1 hT (dk_gV mw_450 mw_451 mw_452 mw_23 mw_453) rfl rfl rfl (by decide +kernel) ⟨Nat.le_of_ble_eq_true rfl, Nat.le_of_ble_eq_true rfl⟩) (dk_preXV hK2 hP hD hE hS hA [0, 1, 2, 3, 4, 5, 6, 7, 8, 9, 10, 11, 12, 13, 14, 15, 16, 17, 18, 19, 20, 21] rfl rfl (q0 := 0) (ci := 3) rfl rfl) rfl rfl hl.1 rfl (lv_room (Nat.le_of_ble_eq_true rfl)) dL_least_4 ⟨Nat.le_of_ble_eq_true rfl, Nat.le_of_ble_eq_true rfl⟩) hP hD hS hA [0, 1, 2, 3, 4, 5, 6, 7, 8, 9, 10, 11, 12, 13, 14, 15, 16, 17, 18, 19, 20, 21] [22] rfl rfl rfl (by decide) (fun E ce q9 H1 locs1 hpx hP1 hD1 hS1 h1 h2 h3 => ?_) (fun r9 _ H locs h9 hP hD hS => ?_)
  · rcases hpx with ⟨rfl, hk1⟩ | ⟨rfl, hk2⟩
    · have hk0 : ¬ dk_kLeast x0 = 0 := by rw [hk1]; decide
      simp only [if_neg hk0] at hret
      refine vx_catch hown [] ((tableOf [(0, 9, 12, 13)])[0]) [] (by rw [htab]; rfl) (fun z h => absurd h List.not_mem_nil) (by decide) (by decide) (hT _ mw_248) (va_Nw.use (w := .castable dk_IAE dk_IAE) rfl (hE.2.2.2 _ (by decide +kernel))) h1 h2 h3 ?_
      refine lv_astore_n (lv' := [(3, .ref q9), (0, .ref (aX 0)), (1, .int x0), (2, .ref (ao 0))]) hx hb dL_least_12 rfl hl (by decide) rfl (fun ls hl => ?_)
      refine lv_iconst (v := 1) hx hb dL_least_13 (by decide) ?_
      refine W.widen (k := 1) (n := 6) (Nat.le_of_ble_eq_true rfl) (Nat.le_of_ble_eq_true rfl) ?_
      exact hret _ _ _ _ _ hk1.symm (hP1.sub [1, 2, 3, 4, 5, 6, 7, 8, 9, 10, 11, 12, 13, 14, 15, 16, 17, 18, 19, 20, 21, 22, 0] rfl) (hD1.sub [1, 2, 3, 4, 5, 6, 7, 8, 9, 10, 11, 12, 13, 14, 15, 16, 17, 18, 19, 20, 21, 22, 0] (by decide) rfl) hS1 dL_least_14
    · exact absurd hk2 dk_ne2Least
  · obtain ⟨hk0, h7⟩ := h9
    rw [h7]
    simp only [if_pos hk0] at hret
    have hP : va_P (dC, dI) vwCl (dk_O cL ao fo ++ (dk_X cI cII aX (aN 0) cv bs (aH 0) ep ol ++ dk_N cI cII aN fr le fi ne fl (nI d) ar pr (nI z) sp ++ dk_SW cI cII aH (aN 0) (dk_nr le fi fl ar sp z d 1 F) x0 0 (dk_place d z fr le pr (dk_nr le fi fl ar sp z d 1 F) x0 0 d 1 0 0 (st.1, st.2.1, st.2.2.1, st.2.2.2.1, 0, st.2.2.2.2.2.1, st.2.2.2.2.2.2)))) H := hP
    have hD : va_D A (dk_O cL ao fo ++ (dk_X cI cII aX (aN 0) cv bs (aH 0) ep ol ++ dk_N cI cII aN fr le fi ne fl (nI d) ar pr (nI z) sp ++ dk_SW cI cII aH (aN 0) (dk_nr le fi fl ar sp z d 1 F) x0 0 (dk_place d z fr le pr (dk_nr le fi fl ar sp z d 1 F) x0 0 d 1 0 0 (st.1, st.2.1, st.2.2.1, st.2.2.2.1, 0, st.2.2.2.2.2.1, st.2.2.2.2.2.2)))) := hD
    refine lv_i2l (v := ((if (dk_place d z fr le pr (dk_nr le fi fl ar sp z d 1 F) x0 0 d 1 0 0 (st.1, st.2.1, st.2.2.1, st.2.2.2.1, 0, st.2.2.2.2.2.1, st.2.2.2.2.2.2)).2.2.2.2.1 = 0 then (-1) else (dk_place d z fr le pr (dk_nr le fi fl ar sp z d 1 F) x0 0 d 1 0 0 (st.1, st.2.1, st.2.2.1, st.2.2.2.1, 0, st.2.2.2.2.2.1, st.2.2.2.2.2.2)).2.2.2.2.2.1)).toInt64) hx hb dL_least_7 rfl ?_
    refine va_last hx hb hK hP hD hS 0 2 rfl rfl (by unfold vp_in; decide) dL_least_8 (fun H locs hP hD hS => ?_)
    have hP : va_P (dC, dI) vwCl (dk_O cL ao (vp_updL fo 0 (((if (dk_place d z fr le pr (dk_nr le fi fl ar sp z d 1 F) x0 0 d 1 0 0 (st.1, st.2.1, st.2.2.1, st.2.2.2.1, 0, st.2.2.2.2.2.1, st.2.2.2.2.2.2)).2.2.2.2.1 = 0 then (-1) else (dk_place d z fr le pr (dk_nr le fi fl ar sp z d 1 F) x0 0 d 1 0 0 (st.1, st.2.1, st.2.2.1, st.2.2.2.1, 0, st.2.2.2.2.2.1, st.2.2.2.2.2.2)).2.2.2.2.2.1)).toInt64)) ++ (dk_X cI cII aX (aN 0) cv bs (aH 0) ep ol ++ dk_N cI cII aN fr le fi ne fl (nI d) ar pr (nI z) sp ++ dk_SW cI cII aH (aN 0) (dk_nr le fi fl ar sp z d 1 F) x0 0 (dk_place d z fr le pr (dk_nr le fi fl ar sp z d 1 F) x0 0 d 1 0 0 (st.1, st.2.1, st.2.2.1, st.2.2.2.1, 0, st.2.2.2.2.2.1, st.2.2.2.2.2.2)))) H := hP
    have hD : va_D A (dk_O cL ao (vp_updL fo 0 (((if (dk_place d z fr le pr (dk_nr le fi fl ar sp z d 1 F) x0 0 d 1 0 0 (st.1, st.2.1, st.2.2.1, st.2.2.2.1, 0, st.2.2.2.2.2.1, st.2.2.2.2.2.2)).2.2.2.2.1 = 0 then (-1) else (dk_place d z fr le pr (dk_nr le fi fl ar sp z d 1 F) x0 0 d 1 0 0 (st.1, st.2.1, st.2.2.1, st.2.2.2.1, 0, st.2.2.2.2.2.1, st.2.2.2.2.2.2)).2.2.2.2.2.1)).toInt64)) ++ (dk_X cI cII aX (aN 0) cv bs (aH 0) ep ol ++ dk_N cI cII aN fr le fi ne fl (nI d) ar pr (nI z) sp ++ dk_SW cI cII aH (aN 0) (dk_nr le fi fl ar sp z d 1 F) x0 0 (dk_place d z fr le pr (dk_nr le fi fl ar sp z d 1 F) x0 0 d 1 0 0 (st.1, st.2.1, st.2.2.1, st.2.2.2.1, 0, st.2.2.2.2.2.1, st.2.2.2.2.2.2)))) := hD
    refine lv_goto (tgt := 15) hx hb dL_least_9 (by decide) ?_
    refine lv_iconst (v := 0) hx hb dL_least_15 (by decide) ?_
    refine W.widen (k := 1) (n := 6) (Nat.le_of_ble_eq_true rfl) (Nat.le_of_ble_eq_true rfl) ?_
    exact hret _ _ _ _ _ hk0.symm (hP.sub [1, 2, 3, 4, 5, 6, 7, 8, 9, 10, 11, 12, 13, 14, 15, 16, 17, 18, 19, 20, 21, 22, 0] rfl) (hD.sub [1, 2, 3, 4, 5, 6, 7, 8, 9, 10, 11, 12, 13, 14, 15, 16, 17, 18, 19, 20, 21, 22, 0] (by decide) rfl) hS dL_least_16
end
section
/-! PURE: the search over numbers. np: as the class goes (it leaves out what can't be better); nx: all choices, one behind another -/
section DkPure
/-- cost, pressure, sizes, pressures -/
abbrev dk_Bt : Type := Option (Nat × Nat × (Nat → Nat) × (Nat → Nat))
def dk_bt : dk_Bt → Nat → Nat → Bool
  | none, _, _ => true
  | some x, c, q => decide (c < x.1) || (decide (c = x.1) && decide (q < x.2.1))
theorem dk_bt_mono {b : dk_Bt} {c c1 q q1 : Nat} (hc : c ≤ c1) (hq : q ≤ q1) (h : dk_bt b c1 q1 = true) : dk_bt b c q = true := by
  cases b with
  | none => rfl
  | some x =>
    simp only [dk_bt, Bool.or_eq_true, Bool.and_eq_true, decide_eq_true_eq] at h ⊢
    omega
def dk_un (f : Nat → Nat) (i v : Nat) : Nat → Nat := fun a => if a = i then v else f a
/-- the numbers of a search: where a size may be, its fall, from where a duct comes, what a size costs there, the limit, the energy's price -/
def dk_g1 (fa : Nat → Nat → Nat) (fr : Nat → Nat) (tp : Nat → Nat) (i g j : Nat) : Nat := if g < tp (fr i) + fa i j then tp (fr i) + fa i j else g
def dk_np (ok : Nat → Nat → Bool) (fa : Nat → Nat → Nat) (fr : Nat → Nat) (cs : Nat → Nat → Nat) (li en z : Nat) : Nat → Nat → Nat → Nat → (Nat → Nat) → (Nat → Nat) → dk_Bt → dk_Bt
  | 0, _, p, g, ts, tp, _ => some (p + en * g, g, ts, tp)
  | k + 1, i, p, g, ts, tp, b => dk_loop (fun j b => if ok i j = false then b else if li < dk_g1 fa fr tp i g j then b else if dk_bt b (p + cs i j + en * dk_g1 fa fr tp i g j) (dk_g1 fa fr tp i g j) = false then b
      else dk_np ok fa fr cs li en z k (i + 1) (p + cs i j) (dk_g1 fa fr tp i g j) (dk_un ts i j) (dk_un tp i (tp (fr i) + fa i j)) b) z 0 b
def dk_nx (ok : Nat → Nat → Bool) (fa : Nat → Nat → Nat) (fr : Nat → Nat) (cs : Nat → Nat → Nat) (li en z : Nat) : Nat → Nat → Nat → Nat → (Nat → Nat) → (Nat → Nat) → dk_Bt → dk_Bt
  | 0, _, p, g, ts, tp, b => if li < g then b else if dk_bt b (p + en * g) g = false then b else some (p + en * g, g, ts, tp)
  | k + 1, i, p, g, ts, tp, b => dk_loop (fun j b => if ok i j = false then b
      else dk_nx ok fa fr cs li en z k (i + 1) (p + cs i j) (dk_g1 fa fr tp i g j) (dk_un ts i j) (dk_un tp i (tp (fr i) + fa i j)) b) z 0 b
theorem dk_loop_id {α : Type} {f : Nat → α → α} {x : α} (h : ∀ j, f j x = x) : ∀ n i, dk_loop f n i x = x := by
  intro n
  induction n with
  | zero => intro i; rfl
  | succ n ih =>
    intro i
    show dk_loop f n (i + 1) (f i x) = x
    rw [h i]
    exact ih (i + 1)
theorem dk_loop_congr {α : Type} {f g : Nat → α → α} (h : ∀ j x, f j x = g j x) : ∀ n i x, dk_loop f n i x = dk_loop g n i x := by
  intro n
  induction n with
  | zero => intro i x; rfl
  | succ n ih =>
    intro i x
    show dk_loop f n (i + 1) (f i x) = dk_loop g n (i + 1) (g i x)
    rw [h i x]
    exact ih (i + 1) (g i x)
theorem dk_g1_ge {fa : Nat → Nat → Nat} {fr tp : Nat → Nat} {i g j : Nat} : g ≤ dk_g1 fa fr tp i g j := by
  unfold dk_g1
  split
  · omega
  · exact Nat.le_refl _
/-- nothing behind a prefix that is too dear or too much is taken -/
theorem dk_nx_out {ok : Nat → Nat → Bool} {fa : Nat → Nat → Nat} {fr : Nat → Nat} {cs : Nat → Nat → Nat} {li en z : Nat} : ∀ (k i p g : Nat) (ts tp : Nat → Nat) (b : dk_Bt), (li < g ∨ dk_bt b (p + en * g) g = false) → dk_nx ok fa fr cs li en z k i p g ts tp b = b := by
  intro k
  induction k with
  | zero =>
    intro i p g ts tp b h
    unfold dk_nx
    split
    · rfl
    · rename_i h1
      rw [if_pos (h.resolve_left h1)]
  | succ k ih =>
    intro i p g ts tp b h
    unfold dk_nx
    refine dk_loop_id (fun j => ?_) z 0
    split
    · rfl
    · refine ih _ _ _ _ _ _ ?_
      have hg : g ≤ dk_g1 fa fr tp i g j := dk_g1_ge
      rcases h with h | h
      · exact Or.inl (Nat.lt_of_lt_of_le h hg)
      · right
        cases hb : dk_bt b (p + cs i j + en * dk_g1 fa fr tp i g j) (dk_g1 fa fr tp i g j) with
        | false => rfl
        | true =>
          have h2 : p + en * g ≤ p + cs i j + en * dk_g1 fa fr tp i g j := by
            have := Nat.mul_le_mul_left en hg
            omega
          have h3 := dk_bt_mono h2 hg hb
          rw [h] at h3
          cases h3
/-- leaving out what can't be better changes nothing -/
theorem dk_np_eq {ok : Nat → Nat → Bool} {fa : Nat → Nat → Nat} {fr : Nat → Nat} {cs : Nat → Nat → Nat} {li en z : Nat} : ∀ (k i p g : Nat) (ts tp : Nat → Nat) (b : dk_Bt), (¬ li < g ∧ dk_bt b (p + en * g) g = true) → dk_np ok fa fr cs li en z k i p g ts tp b = dk_nx ok fa fr cs li en z k i p g ts tp b := by
  intro k
  induction k with
  | zero =>
    intro i p g ts tp b h
    unfold dk_np dk_nx
    rw [if_neg h.1, if_neg (by rw [h.2]; decide)]
  | succ k ih =>
    intro i p g ts tp b h
    unfold dk_np dk_nx
    refine dk_loop_congr (fun j b => ?_) z 0 b
    split
    · rfl
    · split
      · rename_i h1
        exact (dk_nx_out _ _ _ _ _ _ _ (Or.inl h1)).symm
      · rename_i h1
        split
        · rename_i h2
          exact (dk_nx_out _ _ _ _ _ _ _ (Or.inr h2)).symm
        · rename_i h2
          exact ih _ _ _ _ _ _ ⟨h1, by
            cases hb : dk_bt b (p + cs i j + en * dk_g1 fa fr tp i g j) (dk_g1 fa fr tp i g j) with
            | false => exact absurd hb h2
            | true => rfl⟩
end DkPure
end
section
/-! SIM: the class's search over Int32 is the search over numbers -/
section DkSim
theorem dk_cpL_get {src : Nat → Int32} : ∀ (n i : Nat) (f : Nat → Int32) (a : Nat), dk_cpL src n i f a = if i ≤ a ∧ a < i + n then src a else f a := by
  intro n
  induction n with
  | zero =>
    intro i f a
    rw [if_neg (by omega)]
    rfl
  | succ n ih =>
    intro i f a
    show dk_cpL src n (i + 1) (upd f i (src i)) a = _
    rw [ih]
    by_cases h : i + 1 ≤ a ∧ a < i + 1 + n
    · rw [if_pos h, if_pos (by omega)]
    · rw [if_neg h]
      by_cases e : a = i
      · subst e
        rw [pk_us, if_pos (by omega)]
      · rw [pk_un e, if_neg (by omega)]
/-- the numbers behind a search's Int32s -/
def dk_Hy (d z : Nat) (fr le pr : Nat → Int32) (F : Nat → Nat → Int32) (li en : Int32) (ok : Nat → Nat → Bool) (fa : Nat → Nat → Nat) (frN leN prN : Nat → Nat) (liN enN : Nat) : Prop :=
  d ≤ 6 ∧ z ≤ 4 ∧ (∀ i, 1 ≤ i → i ≤ d → fr i = nI (frN i) ∧ frN i < i ∧ le i = nI (leN i) ∧ leN i ≤ 100) ∧ (∀ j, j < z → pr j = nI (prN j) ∧ prN j ≤ 1000) ∧
  (∀ i j, 1 ≤ i → i ≤ d → j < z → (ok i j = false ∧ F i j = -1) ∨ (ok i j = true ∧ F i j = nI (fa i j) ∧ fa i j ≤ 1000050)) ∧ li = nI liN ∧ liN ≤ 300 ∧ en = nI enN ∧ enN ≤ 1000
/-- what is kept so far -/
def dk_BR (d : Nat) (st : dk_SS) : dk_Bt → Prop
  | none => st.2.2.2.2.1 = 0
  | some x => st.2.2.2.2.1 = 1 ∧ st.2.2.2.2.2.1 = nI x.1 ∧ st.2.2.2.2.2.2 = nI x.2.1 ∧ (∀ a, 1 ≤ a → a ≤ d → st.2.2.1 a = nI (x.2.2.1 a) ∧ st.2.2.2.1 a = nI (x.2.2.2 a)) ∧ x.1 ≤ 900000 ∧ x.2.1 ≤ 300
theorem dk_nIm1 {n : Nat} (h : n < 2 ^ 31) : ¬ nI n = (-1 : Int32) := by
  intro e
  have h1 := congrArg Int32.toInt e
  rw [nI_toInt h] at h1
  have h2 : ((-1 : Int32)).toInt = -1 := by decide
  omega
theorem dk_ite_nI {g h : Nat} (hg : g < 2 ^ 31) (hh : h < 2 ^ 31) : (if nI g < nI h then nI h else nI g) = nI (if g < h then h else g) := by
  by_cases q : g < h
  · rw [if_pos q, if_pos ((nI_ltI hg hh).mpr q)]
  · rw [if_neg q, if_neg (fun e => q ((nI_ltI hg hh).mp e))]
/-- isBetter, by the numbers -/
theorem dk_better_bt {d : Nat} {st : dk_SS} {b : dk_Bt} {en p g : Nat} (hB : dk_BR d st b) (hp : p ≤ 600000) (hg : g ≤ 300) (he : en ≤ 1000) : dk_better (nI en) st.2.2.2.2.1 st.2.2.2.2.2.1 st.2.2.2.2.2.2 (nI p) (nI g) = 0 ↔ dk_bt b (p + en * g) g = false := by
  have hm : en * g ≤ 300000 := Nat.le_trans (Nat.mul_le_mul he hg) (by decide)
  have e1 : nI p + nI en * nI g = nI (p + en * g) := by rw [pk_mul, nI_add]
  cases b with
  | none =>
    have h0 : st.2.2.2.2.1 = 0 := hB
    unfold dk_better
    rw [if_pos h0]
    simp only [dk_bt]
    exact ⟨fun h => absurd h (by decide), fun h => by cases h⟩
  | some x =>
    obtain ⟨h0, h1, h2, -, h4, h5⟩ := hB
    unfold dk_better
    rw [if_neg (by rw [h0]; decide), e1, h1, h2]
    simp only [dk_bt]
    by_cases q1 : p + en * g < x.1
    · rw [if_pos ((nI_ltI (by omega) (by omega)).mpr q1)]
      refine ⟨fun h => absurd h (by decide), fun h => ?_⟩
      simp [q1] at h
    · rw [if_neg (fun e => q1 ((nI_ltI (by omega) (by omega)).mp e))]
      by_cases q2 : p + en * g = x.1
      · rw [if_pos ((nI_eq (by omega) (by omega)).mpr q2)]
        by_cases q3 : x.2.1 ≤ g
        · rw [if_pos ((nI_leI (by omega) (by omega)).mpr q3)]
          refine ⟨fun _ => ?_, fun _ => rfl⟩
          simp [q1, q2]
          omega
        · rw [if_neg (fun e => q3 ((nI_leI (by omega) (by omega)).mp e))]
          refine ⟨fun h => absurd h (by decide), fun h => ?_⟩
          have q4 : g < x.2.1 := by omega
          simp [q2, q4] at h
      · rw [if_neg (fun e => q2 ((nI_eq (by omega) (by omega)).mp e))]
        refine ⟨fun _ => ?_, fun _ => rfl⟩
        simp [q1, q2]
theorem dk_loop_rel {α β : Type} {f : Nat → α → α} {g : Nat → β → β} {R : α → β → Prop} {z : Nat} (h : ∀ j x y, j < z → R x y → R (f j x) (g j y)) : ∀ n j x y, j + n = z → R x y → R (dk_loop f n j x) (dk_loop g n j y) := by
  intro n
  induction n with
  | zero => intro j x y _ hR; exact hR
  | succ n ih =>
    intro j x y hj hR
    exact ih (j + 1) _ _ (by omega) (h j x y (by omega) hR)
set_option maxRecDepth 100000 in
theorem dk_place_np {d z : Nat} {fr le pr : Nat → Int32} {F : Nat → Nat → Int32} {li en : Int32} {ok : Nat → Nat → Bool} {fa : Nat → Nat → Nat} {frN leN prN : Nat → Nat} {liN enN : Nat} (hy : dk_Hy d z fr le pr F li en ok fa frN leN prN liN enN) :
    ∀ (k i p g : Nat) (ts tp : Nat → Nat) (b : dk_Bt) (st : dk_SS), i + k = d + 1 → 1 ≤ i → p ≤ (i - 1) * 100000 → g ≤ 300 → (∀ a, a < i → tp a ≤ 300) → (∀ a, 1 ≤ a → a < i → st.1 a = nI (ts a)) → (∀ a, a < i → st.2.1 a = nI (tp a)) → dk_BR d st b →
      dk_BR d (dk_place d z fr le pr F li en k i (nI p) (nI g) st) (dk_np ok fa frN (fun i j => leN i * prN j) liN enN z k i p g ts tp b) ∧ (∀ a, a < i → (dk_place d z fr le pr F li en k i (nI p) (nI g) st).1 a = st.1 a ∧ (dk_place d z fr le pr F li en k i (nI p) (nI g) st).2.1 a = st.2.1 a) := by
  obtain ⟨hd, hz, hfr, hpr, hF, hli, hli3, hen, hen3⟩ := hy
  subst hli
  subst hen
  intro k
  induction k with
  | zero =>
    intro i p g ts tp b st hik hi hp hg htp h1 h2 hB
    have hi6 : (i - 1) * 100000 ≤ 6 * 100000 := Nat.mul_le_mul_right _ (by omega)
    have hm : enN * g ≤ 300000 := Nat.le_trans (Nat.mul_le_mul hen3 hg) (by decide)
    refine ⟨⟨rfl, ?_, rfl, fun a ha1 ha2 => ?_, by omega, hg⟩, fun a ha => ⟨rfl, rfl⟩⟩
    · show nI p + nI enN * nI g = nI (p + enN * g)
      rw [pk_mul, nI_add]
    · show dk_cpL st.1 d 1 st.2.2.1 a = _ ∧ dk_cpL st.2.1 d 1 st.2.2.2.1 a = _
      rw [dk_cpL_get, dk_cpL_get, if_pos (by omega), if_pos (by omega)]
      exact ⟨h1 a ha1 (by omega), h2 a (by omega)⟩
  | succ k ih =>
    intro i p g ts tp b st hik hi hp hg htp h1 h2 hB
    have hid : i ≤ d := by omega
    obtain ⟨f1, f2, f3, f4⟩ := hfr i hi hid
    have h5 : (i - 1) * 100000 ≤ 500000 := Nat.le_trans (Nat.mul_le_mul_right 100000 (show i - 1 ≤ 5 by omega)) (by decide)
    have key := dk_loop_rel (f := dk_try fr le pr F (nI liN) (nI enN) (dk_place d z fr le pr F (nI liN) (nI enN) k (i + 1)) i (nI p) (nI g))
      (g := fun j b => if ok i j = false then b else if liN < dk_g1 fa frN tp i g j then b else if dk_bt b (p + leN i * prN j + enN * dk_g1 fa frN tp i g j) (dk_g1 fa frN tp i g j) = false then b
        else dk_np ok fa frN (fun i j => leN i * prN j) liN enN z k (i + 1) (p + leN i * prN j) (dk_g1 fa frN tp i g j) (dk_un ts i j) (dk_un tp i (tp (frN i) + fa i j)) b)
      (R := fun x y => dk_BR d x y ∧ ∀ a, a < i → x.1 a = st.1 a ∧ x.2.1 a = st.2.1 a) (z := z) ?_ z 0 st b (by omega) ⟨hB, fun a _ => ⟨rfl, rfl⟩⟩
    · exact key
    · intro j x y hj hR
      obtain ⟨hBx, hag⟩ := hR
      unfold dk_try
      rcases hF i j hi hid hj with ⟨o1, o2⟩ | ⟨o1, o2, o3⟩
      · rw [if_pos o2]
        show dk_BR d x (if ok i j = false then y else _) ∧ _
        rw [if_pos o1]
        exact ⟨hBx, hag⟩
      · rw [if_neg (by rw [o2]; exact dk_nIm1 (by omega))]
        show dk_BR d _ (if ok i j = false then y else _) ∧ _
        rw [if_neg (by rw [o1]; decide)]
        obtain ⟨p1, p2⟩ := hpr j hj
        have hcs : leN i * prN j ≤ 100000 := Nat.le_trans (Nat.mul_le_mul f4 p2) (by decide)
        have hcl : (fr i).toNatClampNeg = frN i := by rw [f1]; exact nI_clamp (by omega)
        have htf : tp (frN i) ≤ 300 := htp _ (by omega)
        have ehere : x.2.1 (fr i).toNatClampNeg + F i j = nI (tp (frN i) + fa i j) := by
          rw [hcl, (hag (frN i) f2).2, h2 (frN i) f2, o2, nI_add]
        have eg : (if nI g < x.2.1 (fr i).toNatClampNeg + F i j then x.2.1 (fr i).toNatClampNeg + F i j else nI g) = nI (dk_g1 fa frN tp i g j) := by
          rw [ehere]
          exact dk_ite_nI (by omega) (by omega)
        have hg1 : dk_g1 fa frN tp i g j ≤ 1000350 := by unfold dk_g1; split <;> omega
        have eprice : nI p + dk_price le pr i j = nI (p + leN i * prN j) := by
          unfold dk_price
          rw [f3, p1, pk_mul, nI_add]
        unfold dk_step
        rw [eg, eprice, ehere]
        by_cases q1 : liN < dk_g1 fa frN tp i g j
        · rw [if_pos ((nI_ltI (by omega) (by omega)).mpr q1), if_pos q1]
          exact ⟨hBx, hag⟩
        · rw [if_neg (fun e => q1 ((nI_ltI (by omega) (by omega)).mp e)), if_neg q1]
          have hbt := dk_better_bt (en := enN) (p := p + leN i * prN j) (g := dk_g1 fa frN tp i g j) hBx (by omega) (by omega) hen3
          by_cases q2 : dk_bt y (p + leN i * prN j + enN * dk_g1 fa frN tp i g j) (dk_g1 fa frN tp i g j) = false
          · rw [if_pos (hbt.mpr q2), if_pos q2]
            exact ⟨hBx, hag⟩
          · rw [if_neg (fun e => q2 (hbt.mp e)), if_neg q2]
            have hhere : tp (frN i) + fa i j ≤ dk_g1 fa frN tp i g j := by unfold dk_g1; split <;> omega
            have r := ih (i + 1) (p + leN i * prN j) (dk_g1 fa frN tp i g j) (dk_un ts i j) (dk_un tp i (tp (frN i) + fa i j)) y (upd x.1 i (nI j), upd x.2.1 i (nI (tp (frN i) + fa i j)), x.2.2) (by omega) (by omega)
              (by
                have e3 : (i + 1 - 1) * 100000 = (i - 1) * 100000 + 100000 := by
                  have : i + 1 - 1 = (i - 1) + 1 := by omega
                  rw [this, Nat.add_mul]
                omega) (by omega)
              (fun a ha => by
                unfold dk_un
                split
                · omega
                · exact htp a (by omega))
              (fun a ha1 ha2 => by
                show upd x.1 i (nI j) a = nI (dk_un ts i j a)
                unfold dk_un
                by_cases e : a = i
                · subst e
                  rw [pk_us, if_pos rfl]
                · rw [pk_un e, if_neg e, (hag a (by omega)).1]
                  exact h1 a ha1 (by omega))
              (fun a ha => by
                show upd x.2.1 i (nI (tp (frN i) + fa i j)) a = nI (dk_un tp i (tp (frN i) + fa i j) a)
                unfold dk_un
                by_cases e : a = i
                · subst e
                  rw [pk_us, if_pos rfl]
                · rw [pk_un e, if_neg e, (hag a (by omega)).2]
                  exact h2 a (by omega))
              (by
                cases y with
                | none => exact hBx
                | some y => exact hBx)
            refine ⟨r.1, fun a ha => ?_⟩
            obtain ⟨s1, s2⟩ := r.2 a (by omega)
            have e : a ≠ i := by omega
            refine ⟨s1.trans ?_, s2.trans ?_⟩
            · show upd x.1 i (nI j) a = st.1 a
              rw [pk_un e]
              exact (hag a ha).1
            · show upd x.2.1 i (nI (tp (frN i) + fa i j)) a = st.2.1 a
              rw [pk_un e]
              exact (hag a ha).2
end DkSim
end
section
/-! FLOW: what sumFlows comes to: each node's flow is what it and all below it need -/
section DkFlow
/-- from v upwards, as long as the node is above n -/
def dk_cl (fr : Nat → Nat) (n : Nat) : Nat → Nat → Nat
  | 0, v => v
  | k + 1, v => if v ≤ n then v else dk_cl fr n k (fr v)
def dk_sm (f : Nat → Nat) : Nat → Nat
  | 0 => 0
  | m + 1 => dk_sm f m + f m
theorem dk_sm_congr {f g : Nat → Nat} : ∀ m, (∀ v, v < m → f v = g v) → dk_sm f m = dk_sm g m := by
  intro m
  induction m with
  | zero => intro _; rfl
  | succ m ih =>
    intro h
    show dk_sm f m + f m = dk_sm g m + g m
    rw [ih (fun v hv => h v (by omega)), h m (by omega)]
theorem dk_sm_add {f g : Nat → Nat} : ∀ m, dk_sm (fun v => f v + g v) m = dk_sm f m + dk_sm g m := by
  intro m
  induction m with
  | zero => rfl
  | succ m ih =>
    show dk_sm (fun v => f v + g v) m + (f m + g m) = dk_sm f m + f m + (dk_sm g m + g m)
    rw [ih]
    omega
theorem dk_sm_le {f : Nat → Nat} {c : Nat} : ∀ m, (∀ v, v < m → f v ≤ c) → dk_sm f m ≤ m * c := by
  intro m
  induction m with
  | zero => intro _; exact Nat.zero_le _
  | succ m ih =>
    intro h
    show dk_sm f m + f m ≤ (m + 1) * c
    rw [Nat.add_mul, Nat.one_mul]
    exact Nat.add_le_add (ih (fun v hv => h v (by omega))) (h m (by omega))
theorem dk_cl_low {fr : Nat → Nat} {n : Nat} : ∀ k v, v ≤ n → dk_cl fr n k v = v := by
  intro k v h
  cases k with
  | zero => rfl
  | succ k =>
    show (if v ≤ n then v else _) = v
    rw [if_pos h]
theorem dk_cl_pred {fr : Nat → Nat} {n d : Nat} (hfr : ∀ v, 1 ≤ v → v ≤ d → fr v < v) (hn : n + 1 ≤ d) : ∀ k v, v ≤ k → v ≤ d → dk_cl fr n k v = if dk_cl fr (n + 1) k v = n + 1 then fr (n + 1) else dk_cl fr (n + 1) k v := by
  intro k
  induction k with
  | zero =>
    intro v hv _
    have e : v = 0 := by omega
    subst e
    show 0 = if 0 = n + 1 then _ else 0
    rw [if_neg (by omega)]
  | succ k ih =>
    intro v hv hd
    have h1 := hfr (n + 1) (by omega) hn
    by_cases q : v ≤ n
    · rw [dk_cl_low _ _ q, dk_cl_low _ _ (show v ≤ n + 1 by omega), if_neg (by omega)]
    · by_cases q2 : v = n + 1
      · subst q2
        rw [dk_cl_low (n := n + 1) _ _ (Nat.le_refl _), if_pos rfl]
        show (if n + 1 ≤ n then _ else dk_cl fr n k (fr (n + 1))) = _
        rw [if_neg (by omega)]
        exact dk_cl_low _ _ (by omega)
      · have e1 : dk_cl fr n (k + 1) v = dk_cl fr n k (fr v) := by
          show (if v ≤ n then v else _) = _
          rw [if_neg q]
        have e2 : dk_cl fr (n + 1) (k + 1) v = dk_cl fr (n + 1) k (fr v) := by
          show (if v ≤ n + 1 then v else _) = _
          rw [if_neg (by omega)]
        rw [e1, e2]
        have h3 := hfr v (by omega) hd
        exact ih (fr v) (by omega) (by omega)
/-- what comes down to a, with the nodes above n done -/
def dk_Sf (fr ne : Nat → Nat) (d n a : Nat) : Nat := dk_sm (fun v => if dk_cl fr n d v = a then ne v else 0) (d + 1)
theorem dk_Sf_pred {fr ne : Nat → Nat} {d n a : Nat} (hfr : ∀ v, 1 ≤ v → v ≤ d → fr v < v) (hn : n + 1 ≤ d) (ha : a ≤ n) : dk_Sf fr ne d n a = dk_Sf fr ne d (n + 1) a + (if fr (n + 1) = a then dk_Sf fr ne d (n + 1) (n + 1) else 0) := by
  unfold dk_Sf
  by_cases q : fr (n + 1) = a
  · rw [if_pos q, ← dk_sm_add]
    refine dk_sm_congr _ (fun v hv => ?_)
    show (if dk_cl fr n d v = a then ne v else 0) = (if dk_cl fr (n + 1) d v = a then ne v else 0) + (if dk_cl fr (n + 1) d v = n + 1 then ne v else 0)
    rw [dk_cl_pred hfr hn d v (by omega) (by omega)]
    by_cases q2 : dk_cl fr (n + 1) d v = n + 1
    · rw [if_pos q2, if_pos q, if_neg (by omega), if_pos q2, Nat.zero_add]
    · rw [if_neg q2, if_neg q2]
      exact (Nat.add_zero _).symm
  · rw [if_neg q, Nat.add_zero]
    refine dk_sm_congr _ (fun v hv => ?_)
    show (if dk_cl fr n d v = a then ne v else 0) = (if dk_cl fr (n + 1) d v = a then ne v else 0)
    rw [dk_cl_pred hfr hn d v (by omega) (by omega)]
    by_cases q2 : dk_cl fr (n + 1) d v = n + 1
    · rw [if_pos q2, if_neg q, if_neg (by omega)]
    · rw [if_neg q2]
/-- a node's flow -/
def dk_fl (fr ne : Nat → Nat) (d a : Nat) : Nat := dk_Sf fr ne d a a
theorem dk_up_get {d : Nat} {fr : Nat → Int32} {frN ne : Nat → Nat} (hd : d ≤ 6) (hfr : ∀ v, 1 ≤ v → v ≤ d → frN v < v) (hfI : ∀ v, 1 ≤ v → v ≤ d → fr v = nI (frN v)) :
    ∀ (n : Nat) (f : Nat → Int32), n ≤ d → (∀ a, a ≤ d → f a = nI (if a ≤ n then dk_Sf frN ne d n a else dk_fl frN ne d a)) → ∀ a, a ≤ d → dk_up fr n f a = nI (dk_fl frN ne d a) := by
  intro n
  induction n with
  | zero =>
    intro f _ h a ha
    show f a = _
    rw [h a ha]
    by_cases q : a ≤ 0
    · have e : a = 0 := by omega
      subst e
      rw [if_pos q]
      rfl
    · rw [if_neg q]
  | succ n ih =>
    intro f hn h
    have e1 : (fr (n + 1)).toNatClampNeg = frN (n + 1) := by
      rw [hfI (n + 1) (by omega) hn]
      exact nI_clamp (by have := hfr (n + 1) (by omega) hn; omega)
    have hlt := hfr (n + 1) (by omega) hn
    show ∀ a, a ≤ d → dk_up fr n (upd f (fr (n + 1)).toNatClampNeg (f (fr (n + 1)).toNatClampNeg + f (n + 1))) a = _
    rw [e1]
    refine ih _ (by omega) (fun a ha => ?_)
    have g1 := h (n + 1) hn
    rw [if_pos (Nat.le_refl _)] at g1
    by_cases q : a = frN (n + 1)
    · subst q
      rw [pk_us, h _ ha, g1, if_pos (by omega), if_pos (by omega), nI_add, dk_Sf_pred hfr hn (by omega), if_pos rfl]
    · rw [pk_un q, h a ha]
      by_cases q2 : a ≤ n
      · rw [if_pos (by omega), if_pos q2, dk_Sf_pred hfr hn q2, if_neg (fun e => q e.symm)]
        exact congrArg nI (Nat.add_zero _).symm
      · rw [if_neg q2]
        by_cases q3 : a ≤ n + 1
        · have e : a = n + 1 := by omega
          subst e
          rw [if_pos q3]
          rfl
        · rw [if_neg q3]
/-- sumFlows, by the numbers -/
theorem dk_sumFlows {d : Nat} {fr neI fl : Nat → Int32} {frN ne : Nat → Nat} (hd : d ≤ 6) (hfr : ∀ v, 1 ≤ v → v ≤ d → frN v < v) (hfI : ∀ v, 1 ≤ v → v ≤ d → fr v = nI (frN v)) (hne : ∀ v, v ≤ d → neI v = nI (ne v)) : ∀ a, a ≤ d → dk_up fr d (dk_cpL neI (d + 1) 0 fl) a = nI (dk_fl frN ne d a) := by
  refine dk_up_get hd hfr hfI d _ (Nat.le_refl _) (fun a ha => ?_)
  rw [dk_cpL_get, if_pos (by omega), if_pos ha, hne a ha]
  congr 1
  unfold dk_Sf
  have key : ∀ m, a < m → m ≤ d + 1 → dk_sm (fun v => if dk_cl frN d d v = a then ne v else 0) m = ne a := by
    intro m
    induction m with
    | zero => intro h; omega
    | succ m ih =>
      intro h1 h2
      show dk_sm _ m + (if dk_cl frN d d m = a then ne m else 0) = ne a
      rw [dk_cl_low _ _ (show m ≤ d by omega)]
      by_cases q : m = a
      · subst q
        rw [if_pos rfl]
        have z : dk_sm (fun v => if dk_cl frN d d v = m then ne v else 0) m = dk_sm (fun _ => 0) m := dk_sm_congr _ (fun v hv => by
          show (if dk_cl frN d d v = m then ne v else 0) = 0
          rw [dk_cl_low _ _ (show v ≤ d by omega), if_neg (by omega)])
        have z2 : ∀ k, dk_sm (fun _ => 0) k = 0 := by
          intro k
          induction k with
          | zero => rfl
          | succ k ihk => show dk_sm (fun _ => 0) k + 0 = 0; rw [ihk]
        rw [z, z2, Nat.zero_add]
      · rw [if_neg q, Nat.add_zero]
        exact ih (by omega) (by omega)
  exact (key (d + 1) (by omega) (Nat.le_refl _)).symm
end DkFlow
end
section
/-! FALL: speeds and falls by the numbers; what noteFalls comes to; what the fan gives -/
section DkFallN
def dk_spN (f a : Nat) : Nat := 100 * f / a
def dk_raw (L f a : Nat) : Nat := L * (1000 * f * f / (a * a)) / 100
def dk_faN (L t f a : Nat) : Nat := (if 1000000 < dk_raw L f a then 1000000 else dk_raw L f a) + t
theorem dk_speed_num {fl ar : Nat → Int32} {i j f a : Nat} (h1 : fl i = nI f) (h2 : ar j = nI a) (hf : f ≤ 6000) (ha0 : 0 < a) (ha : a ≤ 1000) : dk_speed fl ar i j = nI (dk_spN f a) := by
  unfold dk_speed dk_spN
  rw [h1, h2, show (100 : Int32) = nI 100 from rfl, pk_mul, pk_div (by omega) ha0 (by omega)]
theorem dk_fall_num {le fi fl ar : Nat → Int32} {i j L t f a : Nat} (h1 : fl i = nI f) (h2 : ar j = nI a) (h3 : le i = nI L) (h4 : fi i = nI t) (hf : f ≤ 6000) (ha0 : 0 < a) (ha : a ≤ 1000) (hL : L ≤ 100) : dk_fall le fi fl ar i j = nI (dk_faN L t f a) := by
  have hff : 1000 * f * f ≤ 1000 * 6000 * 6000 := Nat.mul_le_mul (Nat.mul_le_mul_left 1000 hf) hf
  have haa : a * a ≤ 1000 * 1000 := Nat.mul_le_mul ha ha
  have haa0 : 0 < a * a := Nat.mul_pos ha0 ha0
  have hq : 1000 * f * f / (a * a) ≤ 36000000000 := Nat.le_trans (Nat.div_le_self _ _) (Nat.le_trans hff (by decide))
  have hLq : L * (1000 * f * f / (a * a)) ≤ 100 * 36000000000 := Nat.mul_le_mul hL hq
  have e1 : dk_per fl ar i j = lN (1000 * f * f / (a * a)) := by
    unfold dk_per
    rw [h1, h2, nI_l (by omega), nI_l (by omega), show (1000 : Int64) = lN 1000 from rfl, lN_mul, lN_mul, lN_mul, pk_lDiv (by omega) haa0 (by omega)]
  have e2 : (le i).toInt64 * dk_per fl ar i j / 100 = lN (dk_raw L f a) := by
    unfold dk_raw
    rw [e1, h3, nI_l (by omega), lN_mul, show (100 : Int64) = lN 100 from rfl, pk_lDiv (by omega) (by decide) (by decide)]
  have hraw : dk_raw L f a ≤ 3600000000000 := by
    unfold dk_raw
    exact Nat.le_trans (Nat.div_le_self _ _) (Nat.le_trans hLq (by decide))
  unfold dk_fall dk_faN
  rw [e2, h4]
  have e3 : (1000000 : Int64) = lN 1000000 := rfl
  rw [e3]
  by_cases q : 1000000 < dk_raw L f a
  · rw [if_pos ((pk_lLT (by decide) (by omega)).mpr q), if_pos q, lN_i, nI_add]
  · rw [if_neg (fun e => q ((pk_lLT (by decide) (by omega)).mp e)), if_neg q, lN_i, nI_add]
theorem dk_faN_le {L t f a : Nat} (ht : t ≤ 50) : dk_faN L t f a ≤ 1000050 := by
  unfold dk_faN
  split <;> omega
theorem dk_spN_le {f a : Nat} (hf : f ≤ 6000) : dk_spN f a ≤ 600000 := by
  unfold dk_spN
  exact Nat.le_trans (Nat.div_le_self _ _) (by omega)
theorem dk_fallAt_num {le fi fl ar : Nat → Int32} {sp : Int32} {i j L t f a s : Nat} (h1 : fl i = nI f) (h2 : ar j = nI a) (h3 : le i = nI L) (h4 : fi i = nI t) (h5 : sp = nI s) (hf : f ≤ 6000) (ha0 : 0 < a) (ha : a ≤ 1000) (hL : L ≤ 100) (hs : s ≤ 100000) : dk_fallAt le fi fl ar sp i j = if s < dk_spN f a then (-1) else nI (dk_faN L t f a) := by
  have h6 := dk_spN_le (a := a) hf
  unfold dk_fallAt dk_allows
  rw [dk_speed_num h1 h2 hf ha0 ha, h5]
  by_cases q : s < dk_spN f a
  · rw [if_pos q, if_pos ((nI_ltI (by omega) (by omega)).mpr q), if_pos rfl]
  · rw [if_neg q, if_neg (fun e => q ((nI_ltI (by omega) (by omega)).mp e)), if_neg (by decide)]
    exact dk_fall_num h1 h2 h3 h4 hf ha0 ha hL
theorem dk_area64 {ar : Nat → Int32} {j a : Nat} (h2 : ar j = nI a) (ha0 : 0 < a) (ha : a ≤ 1000) : ¬ (ar j).toInt64 * (ar j).toInt64 = 0 := by
  have haa : a * a ≤ 1000 * 1000 := Nat.mul_le_mul ha ha
  have haa0 : 0 < a * a := Nat.mul_pos ha0 ha0
  rw [h2, nI_l (by omega), lN_mul]
  intro e
  have := (pk_lEQ (a := a * a) (b := 0) (by omega) (by decide)).mp e
  omega
theorem dk_nc_get {le fi fl ar : Nat → Int32} {sp : Int32} {i : Nat} : ∀ (n j : Nat) (F : Nat → Nat → Int32) (a b : Nat), dk_nc le fi fl ar sp i n j F a b = if a = i ∧ j ≤ b ∧ b < j + n then dk_fallAt le fi fl ar sp i b else F a b := by
  intro n
  induction n with
  | zero =>
    intro j F a b
    rw [if_neg (by omega)]
    rfl
  | succ n ih =>
    intro j F a b
    show dk_nc le fi fl ar sp i n (j + 1) (dk_updF F i j (dk_fallAt le fi fl ar sp i j)) a b = _
    rw [ih]
    by_cases q : a = i ∧ j + 1 ≤ b ∧ b < j + 1 + n
    · rw [if_pos q, if_pos (by omega)]
    · rw [if_neg q]
      unfold dk_updF
      by_cases q1 : a = i
      · subst q1
        rw [if_pos rfl]
        by_cases q2 : b = j
        · subst q2
          rw [pk_us, if_pos (by omega)]
        · rw [pk_un q2, if_neg (by omega)]
      · rw [if_neg q1, if_neg (by omega)]
theorem dk_nr_get {le fi fl ar : Nat → Int32} {sp : Int32} {z : Nat} : ∀ (n i : Nat) (F : Nat → Nat → Int32) (a b : Nat), dk_nr le fi fl ar sp z n i F a b = if i ≤ a ∧ a < i + n ∧ b < z then dk_fallAt le fi fl ar sp a b else F a b := by
  intro n
  induction n with
  | zero =>
    intro i F a b
    rw [if_neg (by omega)]
    rfl
  | succ n ih =>
    intro i F a b
    show dk_nr le fi fl ar sp z n (i + 1) (dk_nc le fi fl ar sp i z 0 F) a b = _
    rw [ih, dk_nc_get]
    by_cases q : i + 1 ≤ a ∧ a < i + 1 + n ∧ b < z
    · rw [if_pos q, if_pos (by omega)]
    · rw [if_neg q]
      by_cases q1 : a = i ∧ 0 ≤ b ∧ b < 0 + z
      · rw [if_pos q1, if_pos (by omega)]
        rw [q1.1]
      · rw [if_neg q1, if_neg (by omega)]
-- the fan
/-- between point i - 1 and point i -/
def dk_pbN (cf cp : Nat → Nat) (i f : Nat) : Nat := cp (i - 1) - ((cp (i - 1) - cp i) * (f - cf (i - 1)) + (cf i - cf (i - 1)) - 1) / (cf i - cf (i - 1))
def dk_atN (cf cp : Nat → Nat) (f : Nat) : Nat → Nat → Nat
  | 0, _ => 0
  | k + 1, i => if cf i < f then dk_atN cf cp f k (i + 1) else dk_pbN cf cp i f
def dk_gvN (cf cp : Nat → Nat) (k f : Nat) : Nat := if k = 0 then 300 else if cf 0 < f then dk_atN cf cp f (k - 1) 1 else cp 0
/-- the fan's points: flows rise, pressures don't -/
def dk_Cv (cfI cpI : Nat → Int32) (cf cp : Nat → Nat) (k : Nat) : Prop := k ≤ 5 ∧ (∀ i, i < k → cfI i = nI (cf i) ∧ cpI i = nI (cp i) ∧ cf i ≤ 10000 ∧ cp i ≤ 300) ∧ ∀ i, 0 < i → i < k → cf (i - 1) < cf i ∧ cp i ≤ cp (i - 1)
theorem dk_quot_le {x y s : Nat} (hs : 0 < s) (hy : y ≤ s) : (x * y + s - 1) / s ≤ x := by
  have h : x * y ≤ x * s := Nat.mul_le_mul_left x hy
  have h2 : x * y + s - 1 < (x + 1) * s := by
    rw [Nat.add_mul, Nat.one_mul]
    omega
  have := (Nat.div_lt_iff_lt_mul hs).mpr h2
  omega
theorem dk_pb_num {cfI cpI : Nat → Int32} {cf cp : Nat → Nat} {k i f : Nat} (hC : dk_Cv cfI cpI cf cp k) (hi : 0 < i) (hk : i < k) (h1 : cf (i - 1) < f) (h2 : f ≤ cf i) : dk_pb cfI cpI i (nI f) = nI (dk_pbN cf cp i f) ∧ dk_pbN cf cp i f ≤ 300 := by
  obtain ⟨-, hv, hr⟩ := hC
  obtain ⟨a1, a2, a3, a4⟩ := hv i hk
  obtain ⟨b1, b2, b3, b4⟩ := hv (i - 1) (by omega)
  obtain ⟨r1, r2⟩ := hr i hi hk
  have hm : (cp (i - 1) - cp i) * (f - cf (i - 1)) ≤ 300 * 10000 := Nat.mul_le_mul (by omega) (by omega)
  have hq : ((cp (i - 1) - cp i) * (f - cf (i - 1)) + (cf i - cf (i - 1)) - 1) / (cf i - cf (i - 1)) ≤ cp (i - 1) - cp i := dk_quot_le (by omega) (by omega)
  refine ⟨?_, ?_⟩
  · unfold dk_pb dk_pbN
    rw [a1, a2, b1, b2, pk_sub (by omega), pk_sub (by omega), pk_sub (by omega), pk_mul, nI_add, show (1 : Int32) = nI 1 from rfl, pk_sub (by omega), pk_div (by omega) (by omega) (by omega), pk_sub (by omega)]
  · unfold dk_pbN
    exact Nat.le_trans (Nat.sub_le _ _) b4
theorem dk_at_num {cfI cpI : Nat → Int32} {cf cp : Nat → Nat} {k f : Nat} (hC : dk_Cv cfI cpI cf cp k) (hf : f ≤ 6000) : ∀ (n i : Nat), 0 < i → i + n = k → cf (i - 1) < f → dk_at cfI cpI (nI f) n i = nI (dk_atN cf cp f n i) ∧ dk_atN cf cp f n i ≤ 300 := by
  intro n
  induction n with
  | zero => intro i _ _ _; exact ⟨rfl, Nat.zero_le _⟩
  | succ n ih =>
    intro i hi hk h1
    obtain ⟨a1, a2, a3, a4⟩ := hC.2.1 i (by omega)
    unfold dk_at dk_atN
    by_cases q : cf i < f
    · rw [if_pos q, if_pos (by rw [a1]; exact (nI_ltI (by omega) (by omega)).mpr q)]
      exact ih (i + 1) (by omega) (by omega) q
    · rw [if_neg q, if_neg (fun e => q (by rw [a1] at e; exact (nI_ltI (by omega) (by omega)).mp e))]
      exact dk_pb_num hC hi (by omega) h1 (by omega)
/-- what the fan gives, by the numbers -/
theorem dk_gives_num {cfI cpI : Nat → Int32} {cf cp : Nat → Nat} {k f : Nat} (hC : dk_Cv cfI cpI cf cp k) (hf : f ≤ 6000) : dk_gives cfI cpI k (nI f) = nI (dk_gvN cf cp k f) ∧ dk_gvN cf cp k f ≤ 300 := by
  have hk := hC.1
  unfold dk_gives dk_gvN
  by_cases q : k = 0
  · subst q
    rw [if_pos (show nI 0 = 0 from rfl), if_pos rfl]
    exact ⟨rfl, Nat.le_refl _⟩
  · rw [if_neg q, if_neg (show ¬ nI k = 0 from fun e => q ((nI_eq (b := 0) (by omega) (by decide)).mp e))]
    obtain ⟨a1, a2, a3, a4⟩ := hC.2.1 0 (by omega)
    by_cases q1 : cf 0 < f
    · rw [if_pos q1, if_pos (by rw [a1]; exact (nI_ltI (by omega) (by omega)).mpr q1)]
      exact dk_at_num hC hf (k - 1) 1 (by omega) (by omega) q1
    · rw [if_neg q1, if_neg (fun e => q1 (by rw [a1] at e; exact (nI_ltI (by omega) (by omega)).mp e))]
      exact ⟨a2, a4⟩
theorem dk_span_ne {cfI cpI : Nat → Int32} {cf cp : Nat → Nat} {k : Nat} (hC : dk_Cv cfI cpI cf cp k) : ∀ i, 0 < i → i < k → ¬ cfI i - cfI (i - 1) = 0 := by
  intro i hi hk
  obtain ⟨a1, a2, a3, a4⟩ := hC.2.1 i hk
  obtain ⟨b1, b2, b3, b4⟩ := hC.2.1 (i - 1) (by omega)
  obtain ⟨r1, r2⟩ := hC.2.2 i hi hk
  rw [a1, b1, pk_sub (by omega)]
  exact nI_ne0 (by omega) (by omega)
end DkFallN
end
section
/-! BEST: a run of the class's search is the best of all choices, by the numbers -/
section DkBest
theorem dk_loop_inv {α : Type} {f : Nat → α → α} {R : α → Prop} (h : ∀ j x, R x → R (f j x)) : ∀ n j x, R x → R (dk_loop f n j x) := by
  intro n
  induction n with
  | zero => intro j x hx; exact hx
  | succ n ih => intro j x hx; exact ih (j + 1) _ (h j x hx)
theorem dk_place_pa0 {d z : Nat} {fr le pr : Nat → Int32} {F : Nat → Nat → Int32} {li en : Int32} : ∀ (k i : Nat) (p g : Int32) (st : dk_SS), (dk_place d z fr le pr F li en k i p g st).2.2.2.1 0 = st.2.2.2.1 0 := by
  intro k
  induction k with
  | zero =>
    intro i p g st
    show dk_cpL st.2.1 d 1 st.2.2.2.1 0 = _
    rw [dk_cpL_get, if_neg (by omega)]
  | succ k ih =>
    intro i p g st
    refine dk_loop_inv (R := fun x : dk_SS => x.2.2.2.1 0 = st.2.2.2.1 0) (fun j x hx => ?_) z 0 st rfl
    unfold dk_try
    split
    · exact hx
    · unfold dk_step
      generalize (if g < x.2.1 (fr i).toNatClampNeg + F i j then x.2.1 (fr i).toNatClampNeg + F i j else g) = g1
      split
      · exact hx
      · split
        · exact hx
        · rw [ih]
          exact hx
/-- the network's numbers -/
def dk_Nn (d z : Nat) (fr le fi fl ar pr : Nat → Int32) (sp : Int32) (frN leN fiN flN arN prN : Nat → Nat) (spN : Nat) : Prop :=
  d ≤ 6 ∧ z ≤ 4 ∧ (∀ i, 1 ≤ i → i ≤ d → fr i = nI (frN i) ∧ frN i < i ∧ le i = nI (leN i) ∧ leN i ≤ 100 ∧ fi i = nI (fiN i) ∧ fiN i ≤ 50) ∧ (∀ i, i ≤ d → fl i = nI (flN i) ∧ flN i ≤ 6000) ∧
  (∀ j, j < z → ar j = nI (arN j) ∧ 0 < arN j ∧ arN j ≤ 1000 ∧ pr j = nI (prN j) ∧ prN j ≤ 1000) ∧ sp = nI spN ∧ spN ≤ 100000
def dk_okN (flN arN : Nat → Nat) (spN : Nat) (i j : Nat) : Bool := !decide (spN < dk_spN (flN i) (arN j))
def dk_fN (leN fiN flN arN : Nat → Nat) (i j : Nat) : Nat := dk_faN (leN i) (fiN i) (flN i) (arN j)
def dk_bestN (d z : Nat) (frN leN fiN flN arN prN : Nat → Nat) (spN li en : Nat) : dk_Bt :=
  dk_nx (dk_okN flN arN spN) (dk_fN leN fiN flN arN) frN (fun i j => leN i * prN j) li en z d 1 0 0 (fun _ => 0) (fun _ => 0) none
theorem dk_Nn_Hy {d z : Nat} {fr le fi fl ar pr : Nat → Int32} {sp : Int32} {frN leN fiN flN arN prN : Nat → Nat} {spN : Nat} (h : dk_Nn d z fr le fi fl ar pr sp frN leN fiN flN arN prN spN) (F : Nat → Nat → Int32) {li en : Nat} (hli : li ≤ 300) (hen : en ≤ 1000) :
    dk_Hy d z fr le pr (dk_nr le fi fl ar sp z d 1 F) (nI li) (nI en) (dk_okN flN arN spN) (dk_fN leN fiN flN arN) frN leN prN li en := by
  obtain ⟨hd, hz, h1, h2, h3, h4, h5⟩ := h
  refine ⟨hd, hz, fun i a b => ⟨(h1 i a b).1, (h1 i a b).2.1, (h1 i a b).2.2.1, (h1 i a b).2.2.2.1⟩, fun j hj => ⟨(h3 j hj).2.2.2.1, (h3 j hj).2.2.2.2⟩, fun i j a b hj => ?_, rfl, hli, rfl, hen⟩
  obtain ⟨-, -, c1, c2, c3, c4⟩ := h1 i a b
  obtain ⟨d1, d2⟩ := h2 i b
  obtain ⟨e1, e2, e3, -, -⟩ := h3 j hj
  rw [dk_nr_get, if_pos (by omega), dk_fallAt_num d1 e1 c1 c3 h4 d2 e2 e3 c2 h5]
  by_cases q : spN < dk_spN (flN i) (arN j)
  · left
    refine ⟨?_, if_pos q⟩
    unfold dk_okN
    simp [q]
  · right
    refine ⟨?_, if_neg q, dk_faN_le c4⟩
    unfold dk_okN
    simp [q]
/-- a run of the search -/
theorem dk_run_num {d z : Nat} {fr le fi fl ar pr : Nat → Int32} {sp : Int32} {frN leN fiN flN arN prN : Nat → Nat} {spN : Nat} (h : dk_Nn d z fr le fi fl ar pr sp frN leN fiN flN arN prN spN) (F : Nat → Nat → Int32) {li en : Nat} (hli : li ≤ 300) (hen : en ≤ 1000) (ts tp so pa : Nat → Int32) (co ps : Int32) (h0 : tp 0 = 0) (h1 : pa 0 = 0) :
    dk_BR d (dk_place d z fr le pr (dk_nr le fi fl ar sp z d 1 F) (nI li) (nI en) d 1 0 0 (ts, tp, so, pa, 0, co, ps)) (dk_bestN d z frN leN fiN flN arN prN spN li en) ∧
    (dk_place d z fr le pr (dk_nr le fi fl ar sp z d 1 F) (nI li) (nI en) d 1 0 0 (ts, tp, so, pa, 0, co, ps)).2.1 0 = 0 ∧ (dk_place d z fr le pr (dk_nr le fi fl ar sp z d 1 F) (nI li) (nI en) d 1 0 0 (ts, tp, so, pa, 0, co, ps)).2.2.2.1 0 = 0 := by
  have r := dk_place_np (dk_Nn_Hy h F hli hen) d 1 0 0 (fun _ => 0) (fun _ => 0) none (ts, tp, so, pa, 0, co, ps) (by omega) (by omega) (by omega) (by omega) (fun a _ => by omega) (fun a h1 h2 => by omega) (fun a ha => by
    have e : a = 0 := by omega
    subst e
    exact h0) rfl
  rw [dk_np_eq d 1 0 0 (fun _ => 0) (fun _ => 0) none ⟨by omega, rfl⟩] at r
  refine ⟨r.1, ?_, ?_⟩
  · exact ((r.2 0 (by omega)).2).trans h0
  · exact (dk_place_pa0 _ _ _ _ _).trans h1
end DkBest
end
section
/-! NET: what the changes of the network do to its numbers -/
section DkNet
theorem dk_cl_fuel {fr : Nat → Nat} {n d : Nat} (hfr : ∀ v, 1 ≤ v → v ≤ d → fr v < v) : ∀ k v, v ≤ k → v ≤ d → dk_cl fr n (k + 1) v = dk_cl fr n k v := by
  intro k
  induction k with
  | zero =>
    intro v hv _
    have e : v = 0 := by omega
    subst e
    show (if 0 ≤ n then 0 else _) = 0
    rw [if_pos (Nat.zero_le _)]
  | succ k ih =>
    intro v hv hd
    show (if v ≤ n then v else dk_cl fr n (k + 1) (fr v)) = (if v ≤ n then v else dk_cl fr n k (fr v))
    by_cases q : v ≤ n
    · rw [if_pos q, if_pos q]
    · rw [if_neg q, if_neg q]
      have h3 := hfr v (by omega) hd
      exact ih (fr v) (by omega) (by omega)
theorem dk_cl_congr {fr fr' : Nat → Nat} {n d : Nat} (hfr : ∀ v, 1 ≤ v → v ≤ d → fr v < v) (he : ∀ v, 1 ≤ v → v ≤ d → fr' v = fr v) : ∀ k v, v ≤ d → dk_cl fr' n k v = dk_cl fr n k v := by
  intro k
  induction k with
  | zero => intro v _; rfl
  | succ k ih =>
    intro v hd
    show (if v ≤ n then v else dk_cl fr' n k (fr' v)) = (if v ≤ n then v else dk_cl fr n k (fr v))
    by_cases q : v ≤ n
    · rw [if_pos q, if_pos q]
    · rw [if_neg q, if_neg q, he v (by omega) hd]
      have h3 := hfr v (by omega) hd
      exact ih (fr v) (by omega)
/-- a new duct, whose node needs nothing: the flows stay, its own is 0 -/
theorem dk_fl_ext {fr fr' ne : Nat → Nat} {d : Nat} (hfr : ∀ v, 1 ≤ v → v ≤ d → fr v < v) (he : ∀ v, 1 ≤ v → v ≤ d → fr' v = fr v) (hn : ne (d + 1) = 0) : ∀ a, a ≤ d → dk_fl fr' ne (d + 1) a = dk_fl fr ne d a := by
  intro a ha
  unfold dk_fl dk_Sf
  show dk_sm _ (d + 1) + (if dk_cl fr' a (d + 1) (d + 1) = a then ne (d + 1) else 0) = _
  rw [hn, ite_self, Nat.add_zero]
  refine dk_sm_congr _ (fun v hv => ?_)
  show (if dk_cl fr' a (d + 1) v = a then ne v else 0) = (if dk_cl fr a d v = a then ne v else 0)
  rw [dk_cl_congr hfr he (d + 1) v (by omega), dk_cl_fuel hfr d v (by omega) (by omega)]
theorem dk_cl_le {fr : Nat → Nat} {n d : Nat} (hfr : ∀ v, 1 ≤ v → v ≤ d → fr v < v) : ∀ k v, v ≤ d → dk_cl fr n k v ≤ v := by
  intro k
  induction k with
  | zero => intro v _; exact Nat.le_refl _
  | succ k ih =>
    intro v hd
    show (if v ≤ n then v else dk_cl fr n k (fr v)) ≤ v
    by_cases q : v ≤ n
    · rw [if_pos q]; exact Nat.le_refl _
    · rw [if_neg q]
      have h3 := hfr v (by omega) hd
      exact Nat.le_trans (ih (fr v) (by omega)) (by omega)
theorem dk_fl_new {fr' ne : Nat → Nat} {d : Nat} (hfr : ∀ v, 1 ≤ v → v ≤ d + 1 → fr' v < v) (hn : ne (d + 1) = 0) : dk_fl fr' ne (d + 1) (d + 1) = 0 := by
  unfold dk_fl dk_Sf
  show dk_sm _ (d + 1) + (if dk_cl fr' (d + 1) (d + 1) (d + 1) = d + 1 then ne (d + 1) else 0) = _
  rw [hn, ite_self, Nat.add_zero]
  have z : ∀ m, m ≤ d + 1 → dk_sm (fun v => if dk_cl fr' (d + 1) (d + 1) v = d + 1 then ne v else 0) m = 0 := by
    intro m
    induction m with
    | zero => intro _; rfl
    | succ m ih =>
      intro hm
      show dk_sm _ m + (if dk_cl fr' (d + 1) (d + 1) m = d + 1 then ne m else 0) = 0
      have := dk_cl_le (n := d + 1) hfr (d + 1) m (by omega)
      rw [ih (by omega), if_neg (by omega)]
  exact z (d + 1) (Nat.le_refl _)
theorem dk_sm_le0 {f : Nat → Nat} {c : Nat} (h0 : f 0 = 0) : ∀ m, (∀ v, v ≤ m → f v ≤ c) → dk_sm f (m + 1) ≤ m * c := by
  intro m
  induction m with
  | zero =>
    intro _
    show 0 + f 0 ≤ 0 * c
    rw [h0]
    omega
  | succ m ih =>
    intro h
    show dk_sm f (m + 1) + f (m + 1) ≤ (m + 1) * c
    rw [Nat.add_mul, Nat.one_mul]
    exact Nat.add_le_add (ih (fun v hv => h v (by omega))) (h (m + 1) (Nat.le_refl _))
theorem dk_fl_le {fr ne : Nat → Nat} {d : Nat} (hd : d ≤ 6) (h0 : ne 0 = 0) (hne : ∀ v, v ≤ d → ne v ≤ 1000) : ∀ a, dk_fl fr ne d a ≤ 6000 := by
  intro a
  have h := dk_sm_le0 (f := fun v => if dk_cl fr a d v = a then ne v else 0) (c := 1000) (by show (if _ then ne 0 else 0) = 0; rw [h0, ite_self]) d (fun v hv => by
    show (if _ then ne v else 0) ≤ 1000
    split
    · exact hne v hv
    · exact Nat.zero_le _)
  refine Nat.le_trans h ?_
  omega
theorem dk_up_out {d : Nat} {fr : Nat → Int32} {frN : Nat → Nat} (hd : d ≤ 6) (hfr : ∀ v, 1 ≤ v → v ≤ d → frN v < v) (hfI : ∀ v, 1 ≤ v → v ≤ d → fr v = nI (frN v)) : ∀ (n : Nat) (f : Nat → Int32) (a : Nat), n ≤ d → d < a → dk_up fr n f a = f a := by
  intro n
  induction n with
  | zero => intro f a _ _; rfl
  | succ n ih =>
    intro f a hn ha
    have hlt := hfr (n + 1) (by omega) hn
    have e1 : (fr (n + 1)).toNatClampNeg = frN (n + 1) := by
      rw [hfI (n + 1) (by omega) hn]
      exact nI_clamp (by omega)
    show dk_up fr n (upd f (fr (n + 1)).toNatClampNeg _) a = _
    rw [ih _ a (by omega) ha, e1, pk_un (by omega)]
/-- the whole network: the ducts, the needs, the flows, the sizes -/
def dk_Net (d z : Nat) (fr le fi ne fl ar pr : Nat → Int32) (sp : Int32) (frN leN fiN neN arN prN : Nat → Nat) (spN : Nat) : Prop :=
  dk_Nn d z fr le fi fl ar pr sp frN leN fiN (dk_fl frN neN d) arN prN spN ∧ (∀ v, v < 7 → ne v = nI (neN v) ∧ neN v ≤ 1000) ∧ neN 0 = 0 ∧ (∀ v, d < v → neN v = 0) ∧ (∀ v, v < 7 → vp_in (fr v) 7) ∧ ∀ a, d < a → a < 7 → fl a = 0
theorem dk_Net_0 : dk_Net 0 0 (fun _ => 0) (fun _ => 0) (fun _ => 0) (fun _ => 0) (fun _ => 0) (fun _ => 0) (fun _ => 0) 100000 (fun _ => 0) (fun _ => 0) (fun _ => 0) (fun _ => 0) (fun _ => 0) (fun _ => 0) 100000 := by
  refine ⟨⟨by decide, by decide, fun i h1 h2 => by omega, fun i hi => ?_, fun j hj => by omega, rfl, by decide⟩, fun v _ => ⟨rfl, Nat.zero_le _⟩, rfl, fun _ _ => rfl, fun v _ => show vp_in 0 7 by (unfold vp_in; decide), fun _ _ _ => rfl⟩
  have e : i = 0 := by omega
  subst e
  exact ⟨rfl, by decide⟩
theorem dk_Net_duct {d z : Nat} {fr le fi ne fl ar pr : Nat → Int32} {sp : Int32} {frN leN fiN neN arN prN : Nat → Nat} {spN : Nat} (h : dk_Net d z fr le fi ne fl ar pr sp frN leN fiN neN arN prN spN) (hd : d < 6) {f L t : Nat} (hf : f ≤ d) (hL : L ≤ 100) (ht : t ≤ 50) :
    dk_Net (d + 1) z (upd fr (d + 1) (nI f)) (upd le (d + 1) (nI L)) (upd fi (d + 1) (nI t)) ne fl ar pr sp (dk_un frN (d + 1) f) (dk_un leN (d + 1) L) (dk_un fiN (d + 1) t) neN arN prN spN := by
  obtain ⟨⟨h1, h2, h3, h4, h5, h6, h7⟩, i2, i3, i4, i5, i6⟩ := h
  have hn : neN (d + 1) = 0 := i4 _ (by omega)
  have hfr0 : ∀ v, 1 ≤ v → v ≤ d → frN v < v := fun v a b => (h3 v a b).2.1
  have he : ∀ v, 1 ≤ v → v ≤ d → dk_un frN (d + 1) f v = frN v := fun v a b => by unfold dk_un; rw [if_neg (by omega)]
  have hfr1 : ∀ v, 1 ≤ v → v ≤ d + 1 → dk_un frN (d + 1) f v < v := fun v a b => by
    unfold dk_un
    split
    · omega
    · exact (h3 v a (by omega)).2.1
  refine ⟨⟨by omega, h2, fun i a b => ?_, fun i hi => ?_, h5, h6, h7⟩, i2, i3, fun v hv => i4 v (by omega), fun v hv => ?_, fun a ha1 ha2 => i6 a (by omega) ha2⟩
  · by_cases q : i = d + 1
    · subst q
      unfold dk_un
      rw [pk_us, pk_us, pk_us, if_pos rfl, if_pos rfl, if_pos rfl]
      exact ⟨rfl, by omega, rfl, hL, rfl, ht⟩
    · unfold dk_un
      rw [pk_un q, pk_un q, pk_un q, if_neg q, if_neg q, if_neg q]
      exact h3 i a (by omega)
  · by_cases q : i = d + 1
    · subst q
      rw [dk_fl_new hfr1 hn]
      exact ⟨i6 _ (by omega) (by omega), by omega⟩
    · rw [dk_fl_ext hfr0 he hn i (by omega)]
      exact h4 i (by omega)
  · by_cases q : v = d + 1
    · subst q
      rw [pk_us]
      exact vp_in_nI (by omega) (by decide)
    · rw [pk_un q]
      exact i5 v hv
theorem dk_Net_need {d z : Nat} {fr le fi ne fl ar pr : Nat → Int32} {sp : Int32} {frN leN fiN neN arN prN : Nat → Nat} {spN : Nat} (h : dk_Net d z fr le fi ne fl ar pr sp frN leN fiN neN arN prN spN) {j v : Nat} (hj1 : 1 ≤ j) (hj : j ≤ d) (hv : v ≤ 1000) :
    dk_Net d z fr le fi (upd ne j (nI v)) (dk_up fr d (dk_cpL (upd ne j (nI v)) (d + 1) 0 fl)) ar pr sp frN leN fiN (dk_un neN j v) arN prN spN := by
  obtain ⟨⟨h1, h2, h3, h4, h5, h6, h7⟩, i2, i3, i4, i5, i6⟩ := h
  have hfr0 : ∀ v, 1 ≤ v → v ≤ d → frN v < v := fun v a b => (h3 v a b).2.1
  have hfI : ∀ v, 1 ≤ v → v ≤ d → fr v = nI (frN v) := fun v a b => (h3 v a b).1
  have hne : ∀ w, w < 7 → upd ne j (nI v) w = nI (dk_un neN j v w) ∧ dk_un neN j v w ≤ 1000 := fun w hw => by
    unfold dk_un
    by_cases q : w = j
    · subst q
      rw [pk_us, if_pos rfl]
      exact ⟨rfl, hv⟩
    · rw [pk_un q, if_neg q]
      exact i2 w hw
  have h0 : dk_un neN j v 0 = 0 := by
    unfold dk_un
    rw [if_neg (by omega)]
    exact i3
  refine ⟨⟨h1, h2, h3, fun i hi => ⟨dk_sumFlows h1 hfr0 hfI (fun w hw => (hne w (by omega)).1) i hi, dk_fl_le h1 h0 (fun w hw => (hne w (by omega)).2) i⟩, h5, h6, h7⟩, hne, h0, fun w hw => ?_, i5, fun a ha1 ha2 => ?_⟩
  · unfold dk_un
    rw [if_neg (by omega)]
    exact i4 w hw
  · rw [dk_up_out h1 hfr0 hfI d _ a (Nat.le_refl _) ha1, dk_cpL_get, if_neg (by omega)]
    exact i6 a ha1 ha2
theorem dk_Net_size {d z : Nat} {fr le fi ne fl ar pr : Nat → Int32} {sp : Int32} {frN leN fiN neN arN prN : Nat → Nat} {spN : Nat} (h : dk_Net d z fr le fi ne fl ar pr sp frN leN fiN neN arN prN spN) (hz : z < 4) {A Pr : Nat} (hA0 : 0 < A) (hA : A ≤ 1000) (hP : Pr ≤ 1000) :
    dk_Net d (z + 1) fr le fi ne fl (upd ar z (nI A)) (upd pr z (nI Pr)) sp frN leN fiN neN (dk_un arN z A) (dk_un prN z Pr) spN := by
  obtain ⟨⟨h1, h2, h3, h4, h5, h6, h7⟩, i⟩ := h
  refine ⟨⟨h1, by omega, h3, h4, fun j hj => ?_, h6, h7⟩, i⟩
  unfold dk_un
  by_cases q : j = z
  · subst q
    rw [pk_us, pk_us, if_pos rfl, if_pos rfl]
    exact ⟨rfl, hA0, hA, rfl, hP⟩
  · rw [pk_un q, pk_un q, if_neg q, if_neg q]
    exact h5 j (by omega)
theorem dk_Net_speed {d z : Nat} {fr le fi ne fl ar pr : Nat → Int32} {sp : Int32} {frN leN fiN neN arN prN : Nat → Nat} {spN : Nat} (h : dk_Net d z fr le fi ne fl ar pr sp frN leN fiN neN arN prN spN) {s : Nat} (hs : s ≤ 100000) : dk_Net d z fr le fi ne fl ar pr (nI s) frN leN fiN neN arN prN s := by
  obtain ⟨⟨h1, h2, h3, h4, h5, -, -⟩, i⟩ := h
  exact ⟨⟨h1, h2, h3, h4, h5, rfl, hs⟩, i⟩
theorem dk_Cv_0 : dk_Cv (fun _ => 0) (fun _ => 0) (fun _ => 0) (fun _ => 0) 0 := ⟨by decide, fun i hi => by omega, fun i _ hi => by omega⟩
theorem dk_Cv_add {cfI cpI : Nat → Int32} {cf cp : Nat → Nat} {k : Nat} (h : dk_Cv cfI cpI cf cp k) (hk : k < 5) {f q : Nat} (hf : f ≤ 10000) (hq : q ≤ 300) (hr : 0 < k → cf (k - 1) < f ∧ q ≤ cp (k - 1)) : dk_Cv (upd cfI k (nI f)) (upd cpI k (nI q)) (dk_un cf k f) (dk_un cp k q) (k + 1) := by
  obtain ⟨h1, h2, h3⟩ := h
  refine ⟨by omega, fun i hi => ?_, fun i hi0 hi => ?_⟩
  · unfold dk_un
    by_cases e : i = k
    · subst e
      rw [pk_us, pk_us, if_pos rfl, if_pos rfl]
      exact ⟨rfl, rfl, hf, hq⟩
    · rw [pk_un e, pk_un e, if_neg e, if_neg e]
      exact h2 i (by omega)
  · unfold dk_un
    by_cases e : i = k
    · subst e
      rw [if_pos rfl, if_pos rfl, if_neg (by omega), if_neg (by omega)]
      exact hr hi0
    · rw [if_neg e, if_neg e, if_neg (by omega), if_neg (by omega)]
      exact h3 i hi0 (by omega)
end DkNet
end
section
/-! CLASS: the class's invariant, what it gives to the contracts, and the answers by the numbers -/
section DkClass
/-- the best choice, by the numbers -/
def dk_best (d z k : Nat) (frN leN fiN neN arN prN cfN cpN : Nat → Nat) (spN epN : Nat) : dk_Bt := dk_bestN d z frN leN fiN (dk_fl frN neN d) arN prN spN (dk_gvN cfN cpN k (dk_fl frN neN d 0)) epN
def dk_Inv (d z k : Nat) (fr le fi ne fl ar pr cf cp : Nat → Int32) (sp ep ol : Int32) (sB sH : dk_SS) (frN leN fiN neN arN prN cfN cpN : Nat → Nat) (spN epN : Nat) : Prop :=
  dk_Net d z fr le fi ne fl ar pr sp frN leN fiN neN arN prN spN ∧ dk_Cv cf cp cfN cpN k ∧ ep = nI epN ∧ epN ≤ 1000 ∧ (sB.2.1 0 = 0 ∧ sB.2.2.2.1 0 = 0) ∧ (sH.2.1 0 = 0 ∧ sH.2.2.2.1 0 = 0) ∧ (ol = 0 → dk_BR d sB (dk_best d z k frN leN fiN neN arN prN cfN cpN spN epN))
section V
variable {d z k : Nat} {fr le fi ne fl ar pr cf cp : Nat → Int32} {sp ep ol : Int32} {sB sH : dk_SS} {frN leN fiN neN arN prN cfN cpN : Nat → Nat} {spN epN : Nat}
theorem dk_Inv_0 : dk_Inv 0 0 0 (fun _ => 0) (fun _ => 0) (fun _ => 0) (fun _ => 0) (fun _ => 0) (fun _ => 0) (fun _ => 0) (fun _ => 0) (fun _ => 0) 100000 0 1 ((fun _ => 0), (fun _ => 0), (fun _ => 0), (fun _ => 0), 0, 0, 0) ((fun _ => 0), (fun _ => 0), (fun _ => 0), (fun _ => 0), 0, 0, 0) (fun _ => 0) (fun _ => 0) (fun _ => 0) (fun _ => 0) (fun _ => 0) (fun _ => 0) (fun _ => 0) (fun _ => 0) 100000 0 :=
  ⟨dk_Net_0, dk_Cv_0, rfl, Nat.zero_le _, ⟨rfl, rfl⟩, ⟨rfl, rfl⟩, fun h => absurd h (by decide)⟩
theorem dk_Inv.HA (h : dk_Inv d z k fr le fi ne fl ar pr cf cp sp ep ol sB sH frN leN fiN neN arN prN cfN cpN spN epN) : z ≤ 4 ∧ d ≤ 6 ∧ (∀ k, k < 7 → vp_in (fr k) 7) ∧ (∀ j, j < z → ¬ ar j = 0) ∧ (∀ j, j < z → ¬ (ar j).toInt64 * (ar j).toInt64 = 0) := by
  obtain ⟨⟨⟨h1, h2, -, -, h5, -, -⟩, -, -, -, i5, -⟩, -⟩ := h
  refine ⟨h2, h1, i5, fun j hj => ?_, fun j hj => ?_⟩
  · obtain ⟨e1, e2, e3, -⟩ := h5 j hj
    rw [e1]
    exact nI_ne0 e2 (by omega)
  · obtain ⟨e1, e2, e3, -⟩ := h5 j hj
    exact dk_area64 e1 e2 e3
theorem dk_Inv.CU (h : dk_Inv d z k fr le fi ne fl ar pr cf cp sp ep ol sB sH frN leN fiN neN arN prN cfN cpN spN epN) : k ≤ 5 ∧ ∀ i, 0 < i → i < k → ¬ cf i - cf (i - 1) = 0 := ⟨h.2.1.1, dk_span_ne h.2.1⟩
theorem dk_Inv.fl0 (h : dk_Inv d z k fr le fi ne fl ar pr cf cp sp ep ol sB sH frN leN fiN neN arN prN cfN cpN spN epN) : ∀ i, i ≤ d → fl i = nI (dk_fl frN neN d i) ∧ dk_fl frN neN d i ≤ 6000 := h.1.1.2.2.2.1
/-- gives() -/
theorem dk_Inv.gives (h : dk_Inv d z k fr le fi ne fl ar pr cf cp sp ep ol sB sH frN leN fiN neN arN prN cfN cpN spN epN) : dk_gives cf cp k (fl 0) = nI (dk_gvN cfN cpN k (dk_fl frN neN d 0)) ∧ dk_gvN cfN cpN k (dk_fl frN neN d 0) ≤ 300 := by
  obtain ⟨e1, e2⟩ := h.fl0 0 (Nat.zero_le _)
  rw [e1]
  exact dk_gives_num h.2.1 e2
/-- bestChoice() -/
theorem dk_Inv.choice (h : dk_Inv d z k fr le fi ne fl ar pr cf cp sp ep ol sB sH frN leN fiN neN arN prN cfN cpN spN epN) (F : Nat → Nat → Int32) : dk_BR d (dk_bS ol d z fr le fi fl ar pr sp cf cp k ep F sB) (dk_best d z k frN leN fiN neN arN prN cfN cpN spN epN) ∧ (dk_bS ol d z fr le fi fl ar pr sp cf cp k ep F sB).2.1 0 = 0 ∧ (dk_bS ol d z fr le fi fl ar pr sp cf cp k ep F sB).2.2.2.1 0 = 0 := by
  obtain ⟨g1, g2⟩ := h.gives
  obtain ⟨hN, hC, he, he3, ⟨b1, b2⟩, -, ho⟩ := h
  unfold dk_bS
  by_cases q : ol = 0
  · rw [if_pos q]
    exact ⟨ho q, b1, b2⟩
  · rw [if_neg q, g1, he]
    exact dk_run_num hN.1 F g2 he3 _ _ _ _ _ _ b1 b2
theorem dk_Inv.keepB (h : dk_Inv d z k fr le fi ne fl ar pr cf cp sp ep ol sB sH frN leN fiN neN arN prN cfN cpN spN epN) (F : Nat → Nat → Int32) : dk_Inv d z k fr le fi ne fl ar pr cf cp sp ep 0 (dk_bS ol d z fr le fi fl ar pr sp cf cp k ep F sB) sH frN leN fiN neN arN prN cfN cpN spN epN := by
  obtain ⟨r1, r2, r3⟩ := h.choice F
  exact ⟨h.1, h.2.1, h.2.2.1, h.2.2.2.1, ⟨r2, r3⟩, h.2.2.2.2.2.1, fun _ => r1⟩
/-- least(p) -/
theorem dk_Inv.least (h : dk_Inv d z k fr le fi ne fl ar pr cf cp sp ep ol sB sH frN leN fiN neN arN prN cfN cpN spN epN) (F : Nat → Nat → Int32) {q : Nat} (hq : q ≤ 300) :
    dk_BR d (dk_place d z fr le pr (dk_nr le fi fl ar sp z d 1 F) (nI q) 0 d 1 0 0 (sH.1, sH.2.1, sH.2.2.1, sH.2.2.2.1, 0, sH.2.2.2.2.2.1, sH.2.2.2.2.2.2)) (dk_bestN d z frN leN fiN (dk_fl frN neN d) arN prN spN q 0) ∧
    dk_Inv d z k fr le fi ne fl ar pr cf cp sp ep ol sB (dk_place d z fr le pr (dk_nr le fi fl ar sp z d 1 F) (nI q) 0 d 1 0 0 (sH.1, sH.2.1, sH.2.2.1, sH.2.2.2.1, 0, sH.2.2.2.2.2.1, sH.2.2.2.2.2.2)) frN leN fiN neN arN prN cfN cpN spN epN := by
  have r := dk_run_num h.1.1 F (li := q) (en := 0) hq (by decide) sH.1 sH.2.1 sH.2.2.1 sH.2.2.2.1 sH.2.2.2.2.2.1 sH.2.2.2.2.2.2 h.2.2.2.2.2.1.1 h.2.2.2.2.2.1.2
  exact ⟨r.1, h.1, h.2.1, h.2.2.1, h.2.2.2.1, h.2.2.2.2.1, ⟨r.2.1, r.2.2⟩, h.2.2.2.2.2.2⟩
-- changes
theorem dk_Inv.duct (h : dk_Inv d z k fr le fi ne fl ar pr cf cp sp ep ol sB sH frN leN fiN neN arN prN cfN cpN spN epN) (hd : d < 6) {f L t : Nat} (hf : f ≤ d) (hL : L ≤ 100) (ht : t ≤ 50) : dk_Inv (d + 1) z k (upd fr (d + 1) (nI f)) (upd le (d + 1) (nI L)) (upd fi (d + 1) (nI t)) ne fl ar pr cf cp sp ep 1 sB sH (dk_un frN (d + 1) f) (dk_un leN (d + 1) L) (dk_un fiN (d + 1) t) neN arN prN cfN cpN spN epN :=
  ⟨dk_Net_duct h.1 hd hf hL ht, h.2.1, h.2.2.1, h.2.2.2.1, h.2.2.2.2.1, h.2.2.2.2.2.1, fun q => absurd q (by decide)⟩
theorem dk_Inv.need (h : dk_Inv d z k fr le fi ne fl ar pr cf cp sp ep ol sB sH frN leN fiN neN arN prN cfN cpN spN epN) {j v : Nat} (hj1 : 1 ≤ j) (hj : j ≤ d) (hv : v ≤ 1000) : dk_Inv d z k fr le fi (upd ne j (nI v)) (dk_up fr d (dk_cpL (upd ne j (nI v)) (d + 1) 0 fl)) ar pr cf cp sp ep 1 sB sH frN leN fiN (dk_un neN j v) arN prN cfN cpN spN epN :=
  ⟨dk_Net_need h.1 hj1 hj hv, h.2.1, h.2.2.1, h.2.2.2.1, h.2.2.2.2.1, h.2.2.2.2.2.1, fun q => absurd q (by decide)⟩
theorem dk_Inv.size (h : dk_Inv d z k fr le fi ne fl ar pr cf cp sp ep ol sB sH frN leN fiN neN arN prN cfN cpN spN epN) (hz : z < 4) {A Pr : Nat} (hA0 : 0 < A) (hA : A ≤ 1000) (hP : Pr ≤ 1000) : dk_Inv d (z + 1) k fr le fi ne fl (upd ar z (nI A)) (upd pr z (nI Pr)) cf cp sp ep 1 sB sH frN leN fiN neN (dk_un arN z A) (dk_un prN z Pr) cfN cpN spN epN :=
  ⟨dk_Net_size h.1 hz hA0 hA hP, h.2.1, h.2.2.1, h.2.2.2.1, h.2.2.2.2.1, h.2.2.2.2.2.1, fun q => absurd q (by decide)⟩
theorem dk_Inv.speed (h : dk_Inv d z k fr le fi ne fl ar pr cf cp sp ep ol sB sH frN leN fiN neN arN prN cfN cpN spN epN) {s : Nat} (hs : s ≤ 100000) : dk_Inv d z k fr le fi ne fl ar pr cf cp (nI s) ep 1 sB sH frN leN fiN neN arN prN cfN cpN s epN :=
  ⟨dk_Net_speed h.1 hs, h.2.1, h.2.2.1, h.2.2.2.1, h.2.2.2.2.1, h.2.2.2.2.2.1, fun q => absurd q (by decide)⟩
theorem dk_Inv.energy (h : dk_Inv d z k fr le fi ne fl ar pr cf cp sp ep ol sB sH frN leN fiN neN arN prN cfN cpN spN epN) {s : Nat} (hs : s ≤ 1000) : dk_Inv d z k fr le fi ne fl ar pr cf cp sp (nI s) 1 sB sH frN leN fiN neN arN prN cfN cpN spN s :=
  ⟨h.1, h.2.1, rfl, hs, h.2.2.2.2.1, h.2.2.2.2.2.1, fun q => absurd q (by decide)⟩
theorem dk_Inv.fan (h : dk_Inv d z k fr le fi ne fl ar pr cf cp sp ep ol sB sH frN leN fiN neN arN prN cfN cpN spN epN) (hk : k < 5) {f q : Nat} (hf : f ≤ 10000) (hq : q ≤ 300) (hr : 0 < k → cfN (k - 1) < f ∧ q ≤ cpN (k - 1)) : dk_Inv d z (k + 1) fr le fi ne fl ar pr (upd cf k (nI f)) (upd cp k (nI q)) sp ep 1 sB sH frN leN fiN neN arN prN (dk_un cfN k f) (dk_un cpN k q) spN epN :=
  ⟨h.1, dk_Cv_add h.2.1 hk hf hq hr, h.2.2.1, h.2.2.2.1, h.2.2.2.2.1, h.2.2.2.2.2.1, fun q => absurd q (by decide)⟩
/-- takes, by the numbers -/
theorem dk_Inv.takes (h : dk_Inv d z k fr le fi ne fl ar pr cf cp sp ep ol sB sH frN leN fiN neN arN prN cfN cpN spN epN) {f q : Nat} (hf : f ≤ 10000) (hq : q ≤ 300) : dk_takes cf cp k (nI f) (nI q) = if k < 5 ∧ (0 < k → cfN (k - 1) < f ∧ q ≤ cpN (k - 1)) then 1 else 0 := by
  obtain ⟨h1, h2, -⟩ := h.2.1
  unfold dk_takes
  rw [show (5 : Int32) = nI 5 from rfl, show (0 : Int32) = nI 0 from rfl]
  by_cases q1 : k < 5
  · rw [if_pos ((nI_ltI (by omega) (by decide)).mpr q1)]
    by_cases q2 : k = 0
    · rw [if_pos ((nI_eq (by omega) (by decide)).mpr q2), if_pos ⟨q1, fun e => by omega⟩]
    · rw [if_neg (fun e => q2 ((nI_eq (by omega) (by decide)).mp e))]
      obtain ⟨a1, a2, a3, a4⟩ := h2 (k - 1) (by omega)
      rw [a1, a2]
      by_cases q3 : f ≤ cfN (k - 1)
      · rw [if_pos ((nI_leI (by omega) (by omega)).mpr q3), if_neg (fun e => by have := e.2 (by omega); omega)]
      · rw [if_neg (fun e => q3 ((nI_leI (by omega) (by omega)).mp e))]
        by_cases q4 : cpN (k - 1) < q
        · rw [if_pos ((nI_ltI (by omega) (by omega)).mpr q4), if_neg (fun e => by have := e.2 (by omega); omega)]
        · rw [if_neg (fun e => q4 ((nI_ltI (by omega) (by omega)).mp e)), if_pos ⟨q1, fun _ => by omega⟩]
  · rw [if_neg (fun e => q1 ((nI_ltI (by omega) (by decide)).mp e)), if_neg (fun e => q1 e.1)]
/-- told(i, j, w), by the numbers -/
theorem dk_Inv.told (h : dk_Inv d z k fr le fi ne fl ar pr cf cp sp ep ol sB sH frN leN fiN neN arN prN cfN cpN spN epN) {i j : Nat} (hi1 : 1 ≤ i) (hi : i ≤ d) (hj : j < z) : dk_speed fl ar i j = nI (dk_spN (dk_fl frN neN d i) (arN j)) ∧ dk_fall le fi fl ar i j = nI (dk_faN (leN i) (fiN i) (dk_fl frN neN d i) (arN j)) := by
  obtain ⟨e1, e2⟩ := h.fl0 i hi
  obtain ⟨⟨-, -, h3, -, h5, -, -⟩, -⟩ := h.1
  obtain ⟨-, -, c1, c2, c3, c4⟩ := h3 i hi1 hi
  obtain ⟨d1, d2, d3, -, -⟩ := h5 j hj
  exact ⟨dk_speed_num e1 d1 e2 d2 d3, dk_fall_num e1 d1 c1 c3 e2 d2 d3 c2⟩
end V
end DkClass
end
section
-- ===== end of PART A; then your names; then what follows =====
/-! THE CLAIM OUT OF ONE WALK OF THE LAW'S BODY. Your part is whole_start (and what it stands on); all else here is the same for every law, but numbers. -/
def R_law : String := "DuctSizesLaw"
def lw_P (b : Addr) (xs : List Int32) (args : Array Value) (s : State) : Prop := args = #[.ref b] ∧ s.IntsAt b xs ∧ xs.length ≤ 2048 ∧ (Jvm.Cond.and given_1 narrow_1).before args s = true
def lw_Q (_ : Array Value) (s : State) (o : Outcome) (t : State) : Prop := o = .returned (some (.int 1)) ∧ Framed s o t [] 665567 7099402
def lw_Z (below : List Frame) (a : Array Value) (s : State) : State → Prop := fun t => ∃ o, t.status = .running ∧ Ended t below o ∧ lw_Q a s o t
/-- the law's own end, with 1 on the stack, nothing written that was there before, its room as the claim has it -/
theorem lw_ret {p : Program} {l : Launch} {e : Env} {s : State} {m : MethodId} {below : List Frame} {meth : Method} {c : Code} {b : Nat} (hx : p.tables.exec = Jvm.exec) (hb : c.code = code) (hr : meth.sig.returnType = ret) (hlocks : meth.locks = false) {pc : Nat} {H : Heap} {ls : Array Slot} (hdg : decode code pc = .ok (.ireturn, 1)) : W p l e room_1 s m #[Value.ref b] below meth c H [] 665567 7099402 (lw_Z below #[Value.ref b] s) (F0 m pc ls [.int 1]) := by
  intro T hT X
  obtain ⟨fs, hret, hrun, hended, hW, hframe⟩ := X.leave (v := some (.int 1)) (hlocks := hlocks) (fun h => by rw [hr] at h; cases h)
  have hmeth' : T.vm.method? m = some meth := X.method'
  refine ⟨T.setFrames fs, ?_, .returned (some (.int 1)), hrun, hended, rfl, ⟨_, rfl⟩, hW, hframe⟩
  jvm_step X.here [X.here.top, hx, hb, hdg, hmeth', hr, ret, narrow_b1]
  (try refine ⟨rfl, ?_⟩); (try refine ⟨rfl, ?_⟩)
  first | (intro acts; rw [hret _ acts rfl rfl rfl]) | rw [hret _ _ rfl rfl rfl]
  exact Steps.refl _
/-- what holds at the law's entry: the machine, the code, the tables' words (any of lw_tbl by 'hts w (by decide +kernel)'), the script of L ints xs at the cell b, what the Statement gives of the start (any of its parts by flat_of_before) -/
def lw_At (p : Program) (s : State) (m : MethodId) (meth : Method) (c : Code) (b L : Nat) (xs : Nat → Int32) : Prop :=
  p.tables.exec = Jvm.exec ∧ c.code = code ∧ meth.sig.returnType = ret ∧ c.maxLocals = 7 ∧ s.vm.findClass R_law = some m.cls ∧ (∀ w ∈ lw_tbl, w.before #[Value.ref b] s = true) ∧ va_X b L xs s s.heap ∧ b < s.heap.size ∧ meth.locks = false ∧ (Jvm.Cond.and given_1 narrow_1).before #[Value.ref b] s = true
end
section
/-! ENTRY: what the law's start gives -/
set_option maxRecDepth 100000 in
theorem dk_entry {p : Program} {s : State} {m : MethodId} {meth : Method} {c : Code} {b L : Nat} {xs : Nat → Int32} (C0 : lw_At p s m meth c b L xs) : dk_E (fun q => s.heap.size ≤ q) s ∧ va_Nc dk_ISE dk_IAE s ∧ va_AOA .int s ∧ va_Nw (.methodLinkNest RX3 9 yX1_init "DuctSizes") s ∧ va_Nw (.methodLinkNest RX3 18 yX0_init "DuctSizes") s := by
  obtain ⟨hx, hb, hr, hml, hown, hts, hX, hbl, hlocks, hgv⟩ := C0
  have hs := flat_of_before _ hgv
  have hA : ∀ a : Nat, a < s.heap.size → ¬ (fun q => s.heap.size ≤ q) a := fun a h => Nat.not_le.mpr h
  refine ⟨⟨?_, ?_, fun q hq => ?_, fun w hw => ?_⟩, ?_, ?_, ?_, ?_⟩
  · exact vx_Zqof (hts (.laysStatic "java/lang/Throwable" "UNASSIGNED_STACK" "[Ljava/lang/StackTraceElement;") (by decide +kernel)) (hts (.initialized "java/lang/Throwable") (by decide +kernel)) (hs (.isRef (.static "java/lang/Throwable" "UNASSIGNED_STACK" "[Ljava/lang/StackTraceElement;")) (by decide +kernel)) hA
  · exact vx_Zqof (hts (.laysStatic "java/lang/Throwable" "SUPPRESSED_SENTINEL" "Ljava/util/List;") (by decide +kernel)) (hts (.initialized "java/lang/Throwable") (by decide +kernel)) (hs (.isRef (.static "java/lang/Throwable" "SUPPRESSED_SENTINEL" "Ljava/util/List;")) (by decide +kernel)) hA
  · have h1 : (Cond.stringRef RX3 q.1 q.2).before #[Value.ref b] s = true := hts _ ((by decide +kernel : ∀ q ∈ dk_strs, Cond.stringRef RX3 q.1 q.2 ∈ lw_tbl) q hq)
    have h2 : (Cond.exactly (.string RX3 q.1) "java/lang/String").before #[Value.ref b] s = true := by
      simp only [dk_strs, List.mem_cons, List.not_mem_nil, or_false] at hq
      rcases hq with rfl | rfl | rfl | rfl
      · exact hs _ (by decide +kernel)
      · exact hs _ (by decide +kernel)
      · exact hs _ (by decide +kernel)
      · exact hs _ (by decide +kernel)
    obtain ⟨a, c9, ce9, k9, e1, e2⟩ := Cond.exactly_spec h2
    exact ⟨a, vk_R.of h1 e1⟩
  · exact va_Nw.of ((by decide +kernel : ∀ w ∈ dk_badA ++ dk_badS, w.onTables = true) w hw) (hts w ((by decide +kernel : ∀ w ∈ dk_badA ++ dk_badS, w ∈ lw_tbl) w hw))
  · exact va_Nc.of (hs (.not (.castable dk_ISE dk_IAE)) (by decide +kernel))
  · exact hts (.arrayOver (.array .int)) (by decide +kernel)
  · exact va_Nw.of rfl (hts (.methodLinkNest RX3 9 yX1_init "DuctSizes") (by decide +kernel))
  · exact va_Nw.of rfl (hts (.methodLinkNest RX3 18 yX0_init "DuctSizes") (by decide +kernel))
end
