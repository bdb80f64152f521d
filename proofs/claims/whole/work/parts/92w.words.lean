/-! WORDS: each word that the rows use, at its place -/
theorem mw_34 : Cond.classLink "DuctSizesLaw" 8 "DuctSizes" ∈ dk_tbl := List.mem_filter.mpr ⟨List.mem_of_getElem? (i := 34) rfl, rfl⟩
theorem mw_35 : Cond.instantiable "DuctSizes" 6 ∈ dk_tbl := List.mem_filter.mpr ⟨List.mem_of_getElem? (i := 35) rfl, rfl⟩
theorem mw_36 : Cond.methodLink "DuctSizesLaw" 52 yX3_init ∈ dk_tbl := List.mem_filter.mpr ⟨List.mem_of_getElem? (i := 36) rfl, rfl⟩
theorem mw_37 : Cond.instanceMethod yX3_init ∈ dk_tbl := List.mem_filter.mpr ⟨List.mem_of_getElem? (i := 37) rfl, rfl⟩
theorem mw_38 : Cond.code yX3_init prog_1_method_1_code 1 (none : Option FieldType) ∈ dk_tbl := List.mem_filter.mpr ⟨List.mem_of_getElem? (i := 38) rfl, rfl⟩
theorem mw_454 : Cond.classLink "DuctSizesLaw" 53 "DuctSizesModel" ∈ dk_tbl := List.mem_filter.mpr ⟨List.mem_of_getElem? (i := 454) rfl, rfl⟩
theorem mw_455 : Cond.instantiable "DuctSizesModel" 22 ∈ dk_tbl := List.mem_filter.mpr ⟨List.mem_of_getElem? (i := 455) rfl, rfl⟩
theorem mw_456 : Cond.methodLink "DuctSizesLaw" 55 yX4_init ∈ dk_tbl := List.mem_filter.mpr ⟨List.mem_of_getElem? (i := 456) rfl, rfl⟩
theorem mw_457 : Cond.instanceMethod yX4_init ∈ dk_tbl := List.mem_filter.mpr ⟨List.mem_of_getElem? (i := 457) rfl, rfl⟩
theorem mw_458 : Cond.code yX4_init prog_6_method_1_code 1 (none : Option FieldType) ∈ dk_tbl := List.mem_filter.mpr ⟨List.mem_of_getElem? (i := 458) rfl, rfl⟩
