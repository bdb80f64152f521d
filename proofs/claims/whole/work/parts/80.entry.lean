/-! ENTRY: what the law's start gives -/
set_option maxRecDepth 100000 in
theorem dk_entry {p : Program} {s : State} {m : MethodId} {meth : Method} {c : Code} {b L : Nat} {xs : Nat → Int32} (C0 : lw_At p s m meth c b L xs) : dk_E (fun q => s.heap.size ≤ q) s ∧ va_Nc dk_ISE dk_IAE s ∧ va_AOA .int s ∧ va_Nw (.methodLinkNest RX3 9 yX1_init "DuctSizes") s ∧ va_Nw (.methodLinkNest RX3 18 yX0_init "DuctSizes") s := by
  obtain ⟨hx, hb, hr, hml, hown, hts, hX, hbl, hlocks, hgv⟩ := C0
  have hs := flat_of_before _ hgv
  have hA : ∀ a : Nat, a < s.heap.size → ¬ (fun q => s.heap.size ≤ q) a := fun a h => Nat.not_le.mpr h
  refine ⟨⟨?_, ?_, fun q hq => ?_, fun w hw => ?_⟩, ?_, ?_, ?_, ?_⟩
  · exact vx_Zqof (hts (.laysStatic "java/lang/Throwable" "UNASSIGNED_STACK" "[Ljava/lang/StackTraceElement;") (by decide +kernel)) (hts (.initialized "java/lang/Throwable") (by decide +kernel)) (hs (.isRef (.static "java/lang/Throwable" "UNASSIGNED_STACK" "[Ljava/lang/StackTraceElement;")) (by decide +kernel)) hA
  · exact vx_Zqof (hts (.laysStatic "java/lang/Throwable" "SUPPRESSED_SENTINEL" "Ljava/util/List;") (by decide +kernel)) (hts (.initialized "java/lang/Throwable") (by decide +kernel)) (hs (.isRef (.static "java/lang/Throwable" "SUPPRESSED_SENTINEL" "Ljava/util/List;")) (by decide +kernel)) hA
  · have h1 : (Cond.stringRef RX3 q.1 q.2).before #[Value.ref b] s = true := hts _ ((by decide +kernel : ∀ q ∈ dk_strs, Cond.stringRef RX3 q.1 q.2 ∈ lw_tbl) q hq)
    have h2 : (Cond.exactly (.string RX3 q.1) "java/lang/String").before #[Value.ref b] s = true := by
      simp only [dk_strs, List.mem_cons, List.not_mem_nil, or_false] at hq
      rcases hq with rfl | rfl | rfl | rfl
      · exact hs _ (by decide +kernel)
      · exact hs _ (by decide +kernel)
      · exact hs _ (by decide +kernel)
      · exact hs _ (by decide +kernel)
    obtain ⟨a, c9, ce9, k9, e1, e2⟩ := Cond.exactly_spec h2
    exact ⟨a, vk_R.of h1 e1⟩
  · exact va_Nw.of ((by decide +kernel : ∀ w ∈ dk_badA ++ dk_badS, w.onTables = true) w hw) (hts w ((by decide +kernel : ∀ w ∈ dk_badA ++ dk_badS, w ∈ lw_tbl) w hw))
  · exact va_Nc.of (hs (.not (.castable dk_ISE dk_IAE)) (by decide +kernel))
  · exact hts (.arrayOver (.array .int)) (by decide +kernel)
  · exact va_Nw.of rfl (hts (.methodLinkNest RX3 9 yX1_init "DuctSizes") (by decide +kernel))
  · exact va_Nw.of rfl (hts (.methodLinkNest RX3 18 yX0_init "DuctSizes") (by decide +kernel))
