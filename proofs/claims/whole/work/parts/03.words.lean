/-! WORDS: each word that the rows use, at its place -/
theorem mw_0 : Cond.selects "DuctSizes$Curve" yX0_pressureBefore yX0_pressureBefore ∈ dk_tbl := List.mem_filter.mpr ⟨List.mem_of_getElem? (i := 0) rfl, rfl⟩
theorem mw_1 : Cond.selects "DuctSizes" yX3_bestChoice yX3_bestChoice ∈ dk_tbl := List.mem_filter.mpr ⟨List.mem_of_getElem? (i := 1) rfl, rfl⟩
theorem mw_2 : Cond.selects "DuctSizes$Search" yX2_noteFalls yX2_noteFalls ∈ dk_tbl := List.mem_filter.mpr ⟨List.mem_of_getElem? (i := 2) rfl, rfl⟩
theorem mw_3 : Cond.selects "DuctSizes$Search" yX2_placeFrom yX2_placeFrom ∈ dk_tbl := List.mem_filter.mpr ⟨List.mem_of_getElem? (i := 3) rfl, rfl⟩
theorem mw_4 : Cond.selects "DuctSizes$Search" yX2_keepTrial yX2_keepTrial ∈ dk_tbl := List.mem_filter.mpr ⟨List.mem_of_getElem? (i := 4) rfl, rfl⟩
theorem mw_5 : Cond.selects "DuctSizes$Search" yX2_placeSize yX2_placeSize ∈ dk_tbl := List.mem_filter.mpr ⟨List.mem_of_getElem? (i := 5) rfl, rfl⟩
theorem mw_6 : Cond.selects "DuctSizes$Search" yX2_isBetter yX2_isBetter ∈ dk_tbl := List.mem_filter.mpr ⟨List.mem_of_getElem? (i := 6) rfl, rfl⟩
theorem mw_8 : Cond.selects "DuctSizes$Network" yX1_sumFlows yX1_sumFlows ∈ dk_tbl := List.mem_filter.mpr ⟨List.mem_of_getElem? (i := 8) rfl, rfl⟩
theorem mw_9 : Cond.selects "DuctSizes" yX3_changeSpeedLimit yX3_changeSpeedLimit ∈ dk_tbl := List.mem_filter.mpr ⟨List.mem_of_getElem? (i := 9) rfl, rfl⟩
theorem mw_10 : Cond.selects "DuctSizes" yX3_changeEnergyPrice yX3_changeEnergyPrice ∈ dk_tbl := List.mem_filter.mpr ⟨List.mem_of_getElem? (i := 10) rfl, rfl⟩
theorem mw_23 : Cond.initialized "DuctSizes" ∈ dk_tbl := List.mem_filter.mpr ⟨List.mem_of_getElem? (i := 23) rfl, rfl⟩
theorem mw_24 : Cond.initialized "DuctSizes$Network" ∈ dk_tbl := List.mem_filter.mpr ⟨List.mem_of_getElem? (i := 24) rfl, rfl⟩
theorem mw_25 : Cond.initialized "DuctSizes$Curve" ∈ dk_tbl := List.mem_filter.mpr ⟨List.mem_of_getElem? (i := 25) rfl, rfl⟩
theorem mw_26 : Cond.initialized "DuctSizes$Search" ∈ dk_tbl := List.mem_filter.mpr ⟨List.mem_of_getElem? (i := 26) rfl, rfl⟩
theorem mw_31 : Cond.initialized "java/lang/IllegalArgumentException" ∈ dk_tbl := List.mem_filter.mpr ⟨List.mem_of_getElem? (i := 31) rfl, rfl⟩
theorem mw_32 : Cond.initialized "java/lang/IllegalStateException" ∈ dk_tbl := List.mem_filter.mpr ⟨List.mem_of_getElem? (i := 32) rfl, rfl⟩
theorem mw_33 : Cond.initialized "java/lang/Math" ∈ dk_tbl := List.mem_filter.mpr ⟨List.mem_of_getElem? (i := 33) rfl, rfl⟩
theorem mw_39 : Cond.methodLink "DuctSizes" 1 ({ cls := "java/lang/Object", name := "<init>", desc := "()V" } : Jvm.MethodName) ∈ dk_tbl := List.mem_filter.mpr ⟨List.mem_of_getElem? (i := 39) rfl, rfl⟩
theorem mw_40 : Cond.instanceMethod ({ cls := "java/lang/Object", name := "<init>", desc := "()V" } : Jvm.MethodName) ∈ dk_tbl := List.mem_filter.mpr ⟨List.mem_of_getElem? (i := 40) rfl, rfl⟩
theorem mw_41 : Cond.code ({ cls := "java/lang/Object", name := "<init>", desc := "()V" } : Jvm.MethodName) object_method_1_code 1 (none : Option FieldType) ∈ dk_tbl := List.mem_filter.mpr ⟨List.mem_of_getElem? (i := 41) rfl, rfl⟩
theorem mw_42 : Cond.classLink "DuctSizes" 7 "DuctSizes$Network" ∈ dk_tbl := List.mem_filter.mpr ⟨List.mem_of_getElem? (i := 42) rfl, rfl⟩
theorem mw_43 : Cond.instantiable "DuctSizes$Network" 10 ∈ dk_tbl := List.mem_filter.mpr ⟨List.mem_of_getElem? (i := 43) rfl, rfl⟩
theorem mw_45 : Cond.instanceMethod yX1_init ∈ dk_tbl := List.mem_filter.mpr ⟨List.mem_of_getElem? (i := 45) rfl, rfl⟩
theorem mw_46 : Cond.code yX1_init prog_3_method_1_code 1 (none : Option FieldType) ∈ dk_tbl := List.mem_filter.mpr ⟨List.mem_of_getElem? (i := 46) rfl, rfl⟩
theorem mw_47 : Cond.methodLink "DuctSizes$Network" 3 ({ cls := "java/lang/Object", name := "<init>", desc := "()V" } : Jvm.MethodName) ∈ dk_tbl := List.mem_filter.mpr ⟨List.mem_of_getElem? (i := 47) rfl, rfl⟩
theorem mw_48 : Cond.constant "DuctSizes$Network" 40 (100000 : Int32) ∈ dk_tbl := List.mem_filter.mpr ⟨List.mem_of_getElem? (i := 48) rfl, rfl⟩
theorem mw_49 : Cond.fieldLink RX1 9 "DuctSizes$Network" "from" "[I" ∈ dk_tbl := List.mem_filter.mpr ⟨List.mem_of_getElem? (i := 49) rfl, rfl⟩
theorem mw_50 : Cond.fieldLink RX2 81 "DuctSizes$Network" "from" "[I" ∈ dk_tbl := List.mem_filter.mpr ⟨List.mem_of_getElem? (i := 50) rfl, rfl⟩
theorem mw_51 : Cond.fieldLink RX1 15 "DuctSizes$Network" "lengths" "[I" ∈ dk_tbl := List.mem_filter.mpr ⟨List.mem_of_getElem? (i := 51) rfl, rfl⟩
theorem mw_52 : Cond.fieldLink RX1 18 "DuctSizes$Network" "fittings" "[I" ∈ dk_tbl := List.mem_filter.mpr ⟨List.mem_of_getElem? (i := 52) rfl, rfl⟩
theorem mw_53 : Cond.fieldLink RX1 21 "DuctSizes$Network" "needs" "[I" ∈ dk_tbl := List.mem_filter.mpr ⟨List.mem_of_getElem? (i := 53) rfl, rfl⟩
theorem mw_54 : Cond.fieldLink RX3 120 "DuctSizes$Network" "needs" "[I" ∈ dk_tbl := List.mem_filter.mpr ⟨List.mem_of_getElem? (i := 54) rfl, rfl⟩
theorem mw_55 : Cond.fieldLink RX1 24 "DuctSizes$Network" "flows" "[I" ∈ dk_tbl := List.mem_filter.mpr ⟨List.mem_of_getElem? (i := 55) rfl, rfl⟩
theorem mw_56 : Cond.fieldLink RX3 89 "DuctSizes$Network" "flows" "[I" ∈ dk_tbl := List.mem_filter.mpr ⟨List.mem_of_getElem? (i := 56) rfl, rfl⟩
theorem mw_57 : Cond.fieldLink RX1 27 "DuctSizes$Network" "ducts" "I" ∈ dk_tbl := List.mem_filter.mpr ⟨List.mem_of_getElem? (i := 57) rfl, rfl⟩
theorem mw_58 : Cond.fieldLink RX3 43 "DuctSizes$Network" "ducts" "I" ∈ dk_tbl := List.mem_filter.mpr ⟨List.mem_of_getElem? (i := 58) rfl, rfl⟩
theorem mw_59 : Cond.fieldLink RX2 57 "DuctSizes$Network" "ducts" "I" ∈ dk_tbl := List.mem_filter.mpr ⟨List.mem_of_getElem? (i := 59) rfl, rfl⟩
theorem mw_60 : Cond.fieldLink RX1 31 "DuctSizes$Network" "areas" "[I" ∈ dk_tbl := List.mem_filter.mpr ⟨List.mem_of_getElem? (i := 60) rfl, rfl⟩
theorem mw_61 : Cond.fieldLink RX1 34 "DuctSizes$Network" "prices" "[I" ∈ dk_tbl := List.mem_filter.mpr ⟨List.mem_of_getElem? (i := 61) rfl, rfl⟩
theorem mw_62 : Cond.fieldLink RX1 37 "DuctSizes$Network" "sizes" "I" ∈ dk_tbl := List.mem_filter.mpr ⟨List.mem_of_getElem? (i := 62) rfl, rfl⟩
theorem mw_63 : Cond.fieldLink RX3 65 "DuctSizes$Network" "sizes" "I" ∈ dk_tbl := List.mem_filter.mpr ⟨List.mem_of_getElem? (i := 63) rfl, rfl⟩
theorem mw_64 : Cond.fieldLink RX2 62 "DuctSizes$Network" "sizes" "I" ∈ dk_tbl := List.mem_filter.mpr ⟨List.mem_of_getElem? (i := 64) rfl, rfl⟩
theorem mw_65 : Cond.fieldLink RX1 41 "DuctSizes$Network" "speedLimit" "I" ∈ dk_tbl := List.mem_filter.mpr ⟨List.mem_of_getElem? (i := 65) rfl, rfl⟩
theorem mw_66 : Cond.fieldLink RX3 137 "DuctSizes$Network" "speedLimit" "I" ∈ dk_tbl := List.mem_filter.mpr ⟨List.mem_of_getElem? (i := 66) rfl, rfl⟩
theorem mw_88 : Cond.arrayClass FieldType.int ∈ dk_tbl := List.mem_filter.mpr ⟨List.mem_of_getElem? (i := 88) rfl, rfl⟩
theorem mw_89 : Cond.classLink "DuctSizes" 16 "DuctSizes$Curve" ∈ dk_tbl := List.mem_filter.mpr ⟨List.mem_of_getElem? (i := 89) rfl, rfl⟩
theorem mw_90 : Cond.instantiable "DuctSizes$Curve" 3 ∈ dk_tbl := List.mem_filter.mpr ⟨List.mem_of_getElem? (i := 90) rfl, rfl⟩
theorem mw_92 : Cond.instanceMethod yX0_init ∈ dk_tbl := List.mem_filter.mpr ⟨List.mem_of_getElem? (i := 92) rfl, rfl⟩
theorem mw_93 : Cond.code yX0_init prog_2_method_1_code 1 (none : Option FieldType) ∈ dk_tbl := List.mem_filter.mpr ⟨List.mem_of_getElem? (i := 93) rfl, rfl⟩
theorem mw_94 : Cond.methodLink "DuctSizes$Curve" 3 ({ cls := "java/lang/Object", name := "<init>", desc := "()V" } : Jvm.MethodName) ∈ dk_tbl := List.mem_filter.mpr ⟨List.mem_of_getElem? (i := 94) rfl, rfl⟩
theorem mw_95 : Cond.fieldLink RX0 9 "DuctSizes$Curve" "flows" "[I" ∈ dk_tbl := List.mem_filter.mpr ⟨List.mem_of_getElem? (i := 95) rfl, rfl⟩
theorem mw_96 : Cond.fieldLink RX0 15 "DuctSizes$Curve" "pressures" "[I" ∈ dk_tbl := List.mem_filter.mpr ⟨List.mem_of_getElem? (i := 96) rfl, rfl⟩
theorem mw_97 : Cond.fieldLink RX0 18 "DuctSizes$Curve" "points" "I" ∈ dk_tbl := List.mem_filter.mpr ⟨List.mem_of_getElem? (i := 97) rfl, rfl⟩
theorem mw_105 : Cond.classLink "DuctSizes" 23 "DuctSizes$Search" ∈ dk_tbl := List.mem_filter.mpr ⟨List.mem_of_getElem? (i := 105) rfl, rfl⟩
theorem mw_106 : Cond.instantiable "DuctSizes$Search" 11 ∈ dk_tbl := List.mem_filter.mpr ⟨List.mem_of_getElem? (i := 106) rfl, rfl⟩
theorem mw_107 : Cond.methodLink "DuctSizes" 25 yX2_init ∈ dk_tbl := List.mem_filter.mpr ⟨List.mem_of_getElem? (i := 107) rfl, rfl⟩
theorem mw_108 : Cond.instanceMethod yX2_init ∈ dk_tbl := List.mem_filter.mpr ⟨List.mem_of_getElem? (i := 108) rfl, rfl⟩
theorem mw_109 : Cond.code yX2_init prog_4_method_1_code 2 (none : Option FieldType) ∈ dk_tbl := List.mem_filter.mpr ⟨List.mem_of_getElem? (i := 109) rfl, rfl⟩
theorem mw_110 : Cond.methodLink "DuctSizes$Search" 3 ({ cls := "java/lang/Object", name := "<init>", desc := "()V" } : Jvm.MethodName) ∈ dk_tbl := List.mem_filter.mpr ⟨List.mem_of_getElem? (i := 110) rfl, rfl⟩
theorem mw_111 : Cond.classLink "DuctSizes$Search" 9 "[[I" ∈ dk_tbl := List.mem_filter.mpr ⟨List.mem_of_getElem? (i := 111) rfl, rfl⟩
theorem mw_113 : Cond.fieldLink RX2 46 "DuctSizes$Search" "network" "LDuctSizes$Network;" ∈ dk_tbl := List.mem_filter.mpr ⟨List.mem_of_getElem? (i := 113) rfl, rfl⟩
theorem mw_114 : Cond.fieldLink RX2 11 "DuctSizes$Search" "falls" "[[I" ∈ dk_tbl := List.mem_filter.mpr ⟨List.mem_of_getElem? (i := 114) rfl, rfl⟩
theorem mw_115 : Cond.fieldLink RX2 16 "DuctSizes$Search" "trialSizeOf" "[I" ∈ dk_tbl := List.mem_filter.mpr ⟨List.mem_of_getElem? (i := 115) rfl, rfl⟩
theorem mw_116 : Cond.fieldLink RX2 20 "DuctSizes$Search" "trialPressureAt" "[I" ∈ dk_tbl := List.mem_filter.mpr ⟨List.mem_of_getElem? (i := 116) rfl, rfl⟩
theorem mw_117 : Cond.fieldLink RX2 23 "DuctSizes$Search" "limit" "I" ∈ dk_tbl := List.mem_filter.mpr ⟨List.mem_of_getElem? (i := 117) rfl, rfl⟩
theorem mw_118 : Cond.fieldLink RX2 27 "DuctSizes$Search" "energyPrice" "I" ∈ dk_tbl := List.mem_filter.mpr ⟨List.mem_of_getElem? (i := 118) rfl, rfl⟩
theorem mw_119 : Cond.fieldLink RX2 30 "DuctSizes$Search" "sizeOf" "[I" ∈ dk_tbl := List.mem_filter.mpr ⟨List.mem_of_getElem? (i := 119) rfl, rfl⟩
theorem mw_120 : Cond.fieldLink RX3 115 "DuctSizes$Search" "sizeOf" "[I" ∈ dk_tbl := List.mem_filter.mpr ⟨List.mem_of_getElem? (i := 120) rfl, rfl⟩
theorem mw_121 : Cond.fieldLink RX2 33 "DuctSizes$Search" "pressureAt" "[I" ∈ dk_tbl := List.mem_filter.mpr ⟨List.mem_of_getElem? (i := 121) rfl, rfl⟩
theorem mw_122 : Cond.fieldLink RX3 118 "DuctSizes$Search" "pressureAt" "[I" ∈ dk_tbl := List.mem_filter.mpr ⟨List.mem_of_getElem? (i := 122) rfl, rfl⟩
theorem mw_123 : Cond.fieldLink RX2 36 "DuctSizes$Search" "found" "Z" ∈ dk_tbl := List.mem_filter.mpr ⟨List.mem_of_getElem? (i := 123) rfl, rfl⟩
theorem mw_124 : Cond.fieldLink RX3 106 "DuctSizes$Search" "found" "Z" ∈ dk_tbl := List.mem_filter.mpr ⟨List.mem_of_getElem? (i := 124) rfl, rfl⟩
theorem mw_125 : Cond.fieldLink RX2 40 "DuctSizes$Search" "cost" "I" ∈ dk_tbl := List.mem_filter.mpr ⟨List.mem_of_getElem? (i := 125) rfl, rfl⟩
theorem mw_126 : Cond.fieldLink RX3 109 "DuctSizes$Search" "cost" "I" ∈ dk_tbl := List.mem_filter.mpr ⟨List.mem_of_getElem? (i := 126) rfl, rfl⟩
theorem mw_127 : Cond.fieldLink RX2 43 "DuctSizes$Search" "pressure" "I" ∈ dk_tbl := List.mem_filter.mpr ⟨List.mem_of_getElem? (i := 127) rfl, rfl⟩
theorem mw_128 : Cond.fieldLink RX3 112 "DuctSizes$Search" "pressure" "I" ∈ dk_tbl := List.mem_filter.mpr ⟨List.mem_of_getElem? (i := 128) rfl, rfl⟩
theorem mw_152 : Cond.fieldLink RX3 10 "DuctSizes" "network" "LDuctSizes$Network;" ∈ dk_tbl := List.mem_filter.mpr ⟨List.mem_of_getElem? (i := 152) rfl, rfl⟩
theorem mw_153 : Cond.fieldLink RX3 19 "DuctSizes" "curve" "LDuctSizes$Curve;" ∈ dk_tbl := List.mem_filter.mpr ⟨List.mem_of_getElem? (i := 153) rfl, rfl⟩
theorem mw_154 : Cond.fieldLink RX3 28 "DuctSizes" "best" "LDuctSizes$Search;" ∈ dk_tbl := List.mem_filter.mpr ⟨List.mem_of_getElem? (i := 154) rfl, rfl⟩
theorem mw_155 : Cond.fieldLink RX3 32 "DuctSizes" "cheapest" "LDuctSizes$Search;" ∈ dk_tbl := List.mem_filter.mpr ⟨List.mem_of_getElem? (i := 155) rfl, rfl⟩
theorem mw_156 : Cond.fieldLink RX3 35 "DuctSizes" "energyPrice" "I" ∈ dk_tbl := List.mem_filter.mpr ⟨List.mem_of_getElem? (i := 156) rfl, rfl⟩
theorem mw_157 : Cond.fieldLink RX3 39 "DuctSizes" "bestIsOld" "Z" ∈ dk_tbl := List.mem_filter.mpr ⟨List.mem_of_getElem? (i := 157) rfl, rfl⟩
theorem mw_172 : Cond.instanceMethod yX3_gives ∈ dk_tbl := List.mem_filter.mpr ⟨List.mem_of_getElem? (i := 172) rfl, rfl⟩
theorem mw_173 : Cond.selects "DuctSizes" yX3_gives yX3_gives ∈ dk_tbl := List.mem_filter.mpr ⟨List.mem_of_getElem? (i := 173) rfl, rfl⟩
theorem mw_174 : Cond.code yX3_gives prog_1_method_7_code 1 (some FieldType.int) ∈ dk_tbl := List.mem_filter.mpr ⟨List.mem_of_getElem? (i := 174) rfl, rfl⟩
theorem mw_175 : Cond.methodLink "DuctSizes" 93 yX0_pressureAt ∈ dk_tbl := List.mem_filter.mpr ⟨List.mem_of_getElem? (i := 175) rfl, rfl⟩
theorem mw_176 : Cond.instanceMethod yX0_pressureAt ∈ dk_tbl := List.mem_filter.mpr ⟨List.mem_of_getElem? (i := 176) rfl, rfl⟩
theorem mw_177 : Cond.selects "DuctSizes$Curve" yX0_pressureAt yX0_pressureAt ∈ dk_tbl := List.mem_filter.mpr ⟨List.mem_of_getElem? (i := 177) rfl, rfl⟩
theorem mw_178 : Cond.code yX0_pressureAt prog_2_method_4_code 3 (some FieldType.int) ∈ dk_tbl := List.mem_filter.mpr ⟨List.mem_of_getElem? (i := 178) rfl, rfl⟩
theorem mw_179 : Cond.methodLink "DuctSizes$Curve" 22 yX0_pressureBefore ∈ dk_tbl := List.mem_filter.mpr ⟨List.mem_of_getElem? (i := 179) rfl, rfl⟩
theorem mw_181 : Cond.instanceMethod yX0_pressureBefore ∈ dk_tbl := List.mem_filter.mpr ⟨List.mem_of_getElem? (i := 181) rfl, rfl⟩
theorem mw_182 : Cond.code yX0_pressureBefore prog_2_method_5_code 6 (some FieldType.int) ∈ dk_tbl := List.mem_filter.mpr ⟨List.mem_of_getElem? (i := 182) rfl, rfl⟩
theorem mw_187 : Cond.methodLink "DuctSizes" 102 yX3_bestChoice ∈ dk_tbl := List.mem_filter.mpr ⟨List.mem_of_getElem? (i := 187) rfl, rfl⟩
theorem mw_189 : Cond.instanceMethod yX3_bestChoice ∈ dk_tbl := List.mem_filter.mpr ⟨List.mem_of_getElem? (i := 189) rfl, rfl⟩
theorem mw_190 : Cond.code yX3_bestChoice prog_1_method_19_code 1 (some (FieldType.object "DuctSizes$Search")) ∈ dk_tbl := List.mem_filter.mpr ⟨List.mem_of_getElem? (i := 190) rfl, rfl⟩
theorem mw_191 : Cond.methodLink "DuctSizes" 140 yX3_gives ∈ dk_tbl := List.mem_filter.mpr ⟨List.mem_of_getElem? (i := 191) rfl, rfl⟩
theorem mw_192 : Cond.methodLink "DuctSizes" 123 yX2_run ∈ dk_tbl := List.mem_filter.mpr ⟨List.mem_of_getElem? (i := 192) rfl, rfl⟩
theorem mw_193 : Cond.instanceMethod yX2_run ∈ dk_tbl := List.mem_filter.mpr ⟨List.mem_of_getElem? (i := 193) rfl, rfl⟩
theorem mw_194 : Cond.selects "DuctSizes$Search" yX2_run yX2_run ∈ dk_tbl := List.mem_filter.mpr ⟨List.mem_of_getElem? (i := 194) rfl, rfl⟩
theorem mw_195 : Cond.code yX2_run prog_4_method_2_code 3 (none : Option FieldType) ∈ dk_tbl := List.mem_filter.mpr ⟨List.mem_of_getElem? (i := 195) rfl, rfl⟩
theorem mw_196 : Cond.methodLink "DuctSizes$Search" 50 yX2_noteFalls ∈ dk_tbl := List.mem_filter.mpr ⟨List.mem_of_getElem? (i := 196) rfl, rfl⟩
theorem mw_198 : Cond.instanceMethod yX2_noteFalls ∈ dk_tbl := List.mem_filter.mpr ⟨List.mem_of_getElem? (i := 198) rfl, rfl⟩
theorem mw_199 : Cond.code yX2_noteFalls prog_4_method_4_code 3 (none : Option FieldType) ∈ dk_tbl := List.mem_filter.mpr ⟨List.mem_of_getElem? (i := 199) rfl, rfl⟩
theorem mw_200 : Cond.methodLink "DuctSizes$Search" 65 yX1_allows ∈ dk_tbl := List.mem_filter.mpr ⟨List.mem_of_getElem? (i := 200) rfl, rfl⟩
theorem mw_201 : Cond.instanceMethod yX1_allows ∈ dk_tbl := List.mem_filter.mpr ⟨List.mem_of_getElem? (i := 201) rfl, rfl⟩
theorem mw_202 : Cond.selects "DuctSizes$Network" yX1_allows yX1_allows ∈ dk_tbl := List.mem_filter.mpr ⟨List.mem_of_getElem? (i := 202) rfl, rfl⟩
theorem mw_203 : Cond.code yX1_allows prog_3_method_8_code 3 (some FieldType.boolean) ∈ dk_tbl := List.mem_filter.mpr ⟨List.mem_of_getElem? (i := 203) rfl, rfl⟩
theorem mw_204 : Cond.methodLink "DuctSizes$Network" 59 yX1_speedOf ∈ dk_tbl := List.mem_filter.mpr ⟨List.mem_of_getElem? (i := 204) rfl, rfl⟩
theorem mw_205 : Cond.instanceMethod yX1_speedOf ∈ dk_tbl := List.mem_filter.mpr ⟨List.mem_of_getElem? (i := 205) rfl, rfl⟩
theorem mw_206 : Cond.selects "DuctSizes$Network" yX1_speedOf yX1_speedOf ∈ dk_tbl := List.mem_filter.mpr ⟨List.mem_of_getElem? (i := 206) rfl, rfl⟩
theorem mw_207 : Cond.code yX1_speedOf prog_3_method_6_code 3 (some FieldType.int) ∈ dk_tbl := List.mem_filter.mpr ⟨List.mem_of_getElem? (i := 207) rfl, rfl⟩
theorem mw_208 : Cond.methodLink "DuctSizes$Search" 69 yX1_fallOf ∈ dk_tbl := List.mem_filter.mpr ⟨List.mem_of_getElem? (i := 208) rfl, rfl⟩
theorem mw_209 : Cond.instanceMethod yX1_fallOf ∈ dk_tbl := List.mem_filter.mpr ⟨List.mem_of_getElem? (i := 209) rfl, rfl⟩
theorem mw_210 : Cond.selects "DuctSizes$Network" yX1_fallOf yX1_fallOf ∈ dk_tbl := List.mem_filter.mpr ⟨List.mem_of_getElem? (i := 210) rfl, rfl⟩
theorem mw_211 : Cond.code yX1_fallOf prog_3_method_7_code 11 (some FieldType.int) ∈ dk_tbl := List.mem_filter.mpr ⟨List.mem_of_getElem? (i := 211) rfl, rfl⟩
theorem mw_212 : Cond.constantLong "DuctSizes$Network" 47 (1000 : Int64) ∈ dk_tbl := List.mem_filter.mpr ⟨List.mem_of_getElem? (i := 212) rfl, rfl⟩
theorem mw_213 : Cond.constantLong "DuctSizes$Network" 49 (100 : Int64) ∈ dk_tbl := List.mem_filter.mpr ⟨List.mem_of_getElem? (i := 213) rfl, rfl⟩
theorem mw_214 : Cond.constantLong "DuctSizes$Network" 51 (1000000 : Int64) ∈ dk_tbl := List.mem_filter.mpr ⟨List.mem_of_getElem? (i := 214) rfl, rfl⟩
theorem mw_215 : Cond.methodLink "DuctSizes$Network" 53 ({ cls := "java/lang/Math", name := "min", desc := "(JJ)J" } : Jvm.MethodName) ∈ dk_tbl := List.mem_filter.mpr ⟨List.mem_of_getElem? (i := 215) rfl, rfl⟩
theorem mw_216 : Cond.static ({ cls := "java/lang/Math", name := "min", desc := "(JJ)J" } : Jvm.MethodName) ∈ dk_tbl := List.mem_filter.mpr ⟨List.mem_of_getElem? (i := 216) rfl, rfl⟩
theorem mw_217 : Cond.code ({ cls := "java/lang/Math", name := "min", desc := "(JJ)J" } : Jvm.MethodName) prog_10_method_70_code 4 (some FieldType.long) ∈ dk_tbl := List.mem_filter.mpr ⟨List.mem_of_getElem? (i := 217) rfl, rfl⟩
theorem mw_218 : Cond.methodLink "DuctSizes$Search" 53 yX2_placeFrom ∈ dk_tbl := List.mem_filter.mpr ⟨List.mem_of_getElem? (i := 218) rfl, rfl⟩
theorem mw_220 : Cond.instanceMethod yX2_placeFrom ∈ dk_tbl := List.mem_filter.mpr ⟨List.mem_of_getElem? (i := 220) rfl, rfl⟩
theorem mw_221 : Cond.code yX2_placeFrom prog_4_method_5_code 5 (none : Option FieldType) ∈ dk_tbl := List.mem_filter.mpr ⟨List.mem_of_getElem? (i := 221) rfl, rfl⟩
theorem mw_222 : Cond.methodLink "DuctSizes$Search" 73 yX2_keepTrial ∈ dk_tbl := List.mem_filter.mpr ⟨List.mem_of_getElem? (i := 222) rfl, rfl⟩
theorem mw_224 : Cond.instanceMethod yX2_keepTrial ∈ dk_tbl := List.mem_filter.mpr ⟨List.mem_of_getElem? (i := 224) rfl, rfl⟩
theorem mw_225 : Cond.code yX2_keepTrial prog_4_method_8_code 4 (none : Option FieldType) ∈ dk_tbl := List.mem_filter.mpr ⟨List.mem_of_getElem? (i := 225) rfl, rfl⟩
theorem mw_226 : Cond.methodLink "DuctSizes$Search" 77 yX2_placeSize ∈ dk_tbl := List.mem_filter.mpr ⟨List.mem_of_getElem? (i := 226) rfl, rfl⟩
theorem mw_228 : Cond.instanceMethod yX2_placeSize ∈ dk_tbl := List.mem_filter.mpr ⟨List.mem_of_getElem? (i := 228) rfl, rfl⟩
theorem mw_229 : Cond.code yX2_placeSize prog_4_method_6_code 8 (none : Option FieldType) ∈ dk_tbl := List.mem_filter.mpr ⟨List.mem_of_getElem? (i := 229) rfl, rfl⟩
theorem mw_230 : Cond.methodLink "DuctSizes$Search" 84 ({ cls := "java/lang/Math", name := "max", desc := "(II)I" } : Jvm.MethodName) ∈ dk_tbl := List.mem_filter.mpr ⟨List.mem_of_getElem? (i := 230) rfl, rfl⟩
theorem mw_231 : Cond.static ({ cls := "java/lang/Math", name := "max", desc := "(II)I" } : Jvm.MethodName) ∈ dk_tbl := List.mem_filter.mpr ⟨List.mem_of_getElem? (i := 231) rfl, rfl⟩
theorem mw_232 : Cond.code ({ cls := "java/lang/Math", name := "max", desc := "(II)I" } : Jvm.MethodName) prog_10_method_65_code 2 (some FieldType.int) ∈ dk_tbl := List.mem_filter.mpr ⟨List.mem_of_getElem? (i := 232) rfl, rfl⟩
theorem mw_233 : Cond.methodLink "DuctSizes$Search" 89 yX1_priceOf ∈ dk_tbl := List.mem_filter.mpr ⟨List.mem_of_getElem? (i := 233) rfl, rfl⟩
theorem mw_234 : Cond.instanceMethod yX1_priceOf ∈ dk_tbl := List.mem_filter.mpr ⟨List.mem_of_getElem? (i := 234) rfl, rfl⟩
theorem mw_235 : Cond.selects "DuctSizes$Network" yX1_priceOf yX1_priceOf ∈ dk_tbl := List.mem_filter.mpr ⟨List.mem_of_getElem? (i := 235) rfl, rfl⟩
theorem mw_236 : Cond.code yX1_priceOf prog_3_method_9_code 3 (some FieldType.int) ∈ dk_tbl := List.mem_filter.mpr ⟨List.mem_of_getElem? (i := 236) rfl, rfl⟩
theorem mw_237 : Cond.methodLink "DuctSizes$Search" 92 yX2_isBetter ∈ dk_tbl := List.mem_filter.mpr ⟨List.mem_of_getElem? (i := 237) rfl, rfl⟩
theorem mw_239 : Cond.instanceMethod yX2_isBetter ∈ dk_tbl := List.mem_filter.mpr ⟨List.mem_of_getElem? (i := 239) rfl, rfl⟩
theorem mw_240 : Cond.code yX2_isBetter prog_4_method_7_code 4 (some FieldType.boolean) ∈ dk_tbl := List.mem_filter.mpr ⟨List.mem_of_getElem? (i := 240) rfl, rfl⟩
theorem mw_241 : Cond.methodLink "DuctSizes" 127 yX2_firstNodeOfGreatestPressure ∈ dk_tbl := List.mem_filter.mpr ⟨List.mem_of_getElem? (i := 241) rfl, rfl⟩
theorem mw_242 : Cond.instanceMethod yX2_firstNodeOfGreatestPressure ∈ dk_tbl := List.mem_filter.mpr ⟨List.mem_of_getElem? (i := 242) rfl, rfl⟩
theorem mw_243 : Cond.selects "DuctSizes$Search" yX2_firstNodeOfGreatestPressure yX2_firstNodeOfGreatestPressure ∈ dk_tbl := List.mem_filter.mpr ⟨List.mem_of_getElem? (i := 243) rfl, rfl⟩
theorem mw_244 : Cond.code yX2_firstNodeOfGreatestPressure prog_4_method_3_code 3 (some FieldType.int) ∈ dk_tbl := List.mem_filter.mpr ⟨List.mem_of_getElem? (i := 244) rfl, rfl⟩
theorem mw_248 : Cond.classLink "DuctSizesLaw" 13 "java/lang/IllegalArgumentException" ∈ dk_tbl := List.mem_filter.mpr ⟨List.mem_of_getElem? (i := 248) rfl, rfl⟩
theorem mw_249 : Cond.classLink "DuctSizesLaw" 15 "java/lang/IllegalStateException" ∈ dk_tbl := List.mem_filter.mpr ⟨List.mem_of_getElem? (i := 249) rfl, rfl⟩
theorem mw_250 : Cond.methodLink "DuctSizesLaw" 7 yX3_duct ∈ dk_tbl := List.mem_filter.mpr ⟨List.mem_of_getElem? (i := 250) rfl, rfl⟩
theorem mw_251 : Cond.instanceMethod yX3_duct ∈ dk_tbl := List.mem_filter.mpr ⟨List.mem_of_getElem? (i := 251) rfl, rfl⟩
theorem mw_252 : Cond.selects "DuctSizes" yX3_duct yX3_duct ∈ dk_tbl := List.mem_filter.mpr ⟨List.mem_of_getElem? (i := 252) rfl, rfl⟩
theorem mw_253 : Cond.code yX3_duct prog_1_method_2_code 4 (some FieldType.int) ∈ dk_tbl := List.mem_filter.mpr ⟨List.mem_of_getElem? (i := 253) rfl, rfl⟩
theorem mw_254 : Cond.methodLink "DuctSizes" 46 yX3_demand ∈ dk_tbl := List.mem_filter.mpr ⟨List.mem_of_getElem? (i := 254) rfl, rfl⟩
theorem mw_255 : Cond.static yX3_demand ∈ dk_tbl := List.mem_filter.mpr ⟨List.mem_of_getElem? (i := 255) rfl, rfl⟩
theorem mw_256 : Cond.code yX3_demand prog_1_method_16_code 3 (none : Option FieldType) ∈ dk_tbl := List.mem_filter.mpr ⟨List.mem_of_getElem? (i := 256) rfl, rfl⟩
theorem mw_257 : Cond.classLink "DuctSizes" 131 "java/lang/IllegalArgumentException" ∈ dk_tbl := List.mem_filter.mpr ⟨List.mem_of_getElem? (i := 257) rfl, rfl⟩
theorem mw_324 : Cond.classLink "DuctSizes" 50 "java/lang/IllegalStateException" ∈ dk_tbl := List.mem_filter.mpr ⟨List.mem_of_getElem? (i := 324) rfl, rfl⟩
theorem mw_340 : Cond.methodLink "DuctSizes" 57 yX1_addDuct ∈ dk_tbl := List.mem_filter.mpr ⟨List.mem_of_getElem? (i := 340) rfl, rfl⟩
theorem mw_341 : Cond.instanceMethod yX1_addDuct ∈ dk_tbl := List.mem_filter.mpr ⟨List.mem_of_getElem? (i := 341) rfl, rfl⟩
theorem mw_342 : Cond.selects "DuctSizes$Network" yX1_addDuct yX1_addDuct ∈ dk_tbl := List.mem_filter.mpr ⟨List.mem_of_getElem? (i := 342) rfl, rfl⟩
theorem mw_343 : Cond.code yX1_addDuct prog_3_method_2_code 4 (some FieldType.int) ∈ dk_tbl := List.mem_filter.mpr ⟨List.mem_of_getElem? (i := 343) rfl, rfl⟩
theorem mw_347 : Cond.methodLink "DuctSizesLaw" 17 yX3_need ∈ dk_tbl := List.mem_filter.mpr ⟨List.mem_of_getElem? (i := 347) rfl, rfl⟩
theorem mw_348 : Cond.instanceMethod yX3_need ∈ dk_tbl := List.mem_filter.mpr ⟨List.mem_of_getElem? (i := 348) rfl, rfl⟩
theorem mw_349 : Cond.selects "DuctSizes" yX3_need yX3_need ∈ dk_tbl := List.mem_filter.mpr ⟨List.mem_of_getElem? (i := 349) rfl, rfl⟩
theorem mw_350 : Cond.code yX3_need prog_1_method_3_code 3 (some FieldType.int) ∈ dk_tbl := List.mem_filter.mpr ⟨List.mem_of_getElem? (i := 350) rfl, rfl⟩
theorem mw_351 : Cond.methodLink "DuctSizes" 61 yX1_changeNeed ∈ dk_tbl := List.mem_filter.mpr ⟨List.mem_of_getElem? (i := 351) rfl, rfl⟩
theorem mw_352 : Cond.instanceMethod yX1_changeNeed ∈ dk_tbl := List.mem_filter.mpr ⟨List.mem_of_getElem? (i := 352) rfl, rfl⟩
theorem mw_353 : Cond.selects "DuctSizes$Network" yX1_changeNeed yX1_changeNeed ∈ dk_tbl := List.mem_filter.mpr ⟨List.mem_of_getElem? (i := 353) rfl, rfl⟩
theorem mw_354 : Cond.code yX1_changeNeed prog_3_method_4_code 4 (some FieldType.int) ∈ dk_tbl := List.mem_filter.mpr ⟨List.mem_of_getElem? (i := 354) rfl, rfl⟩
theorem mw_355 : Cond.methodLink "DuctSizes$Network" 44 yX1_sumFlows ∈ dk_tbl := List.mem_filter.mpr ⟨List.mem_of_getElem? (i := 355) rfl, rfl⟩
theorem mw_357 : Cond.instanceMethod yX1_sumFlows ∈ dk_tbl := List.mem_filter.mpr ⟨List.mem_of_getElem? (i := 357) rfl, rfl⟩
theorem mw_358 : Cond.code yX1_sumFlows prog_3_method_5_code 2 (none : Option FieldType) ∈ dk_tbl := List.mem_filter.mpr ⟨List.mem_of_getElem? (i := 358) rfl, rfl⟩
theorem mw_362 : Cond.methodLink "DuctSizesLaw" 21 yX3_size ∈ dk_tbl := List.mem_filter.mpr ⟨List.mem_of_getElem? (i := 362) rfl, rfl⟩
theorem mw_363 : Cond.instanceMethod yX3_size ∈ dk_tbl := List.mem_filter.mpr ⟨List.mem_of_getElem? (i := 363) rfl, rfl⟩
theorem mw_364 : Cond.selects "DuctSizes" yX3_size yX3_size ∈ dk_tbl := List.mem_filter.mpr ⟨List.mem_of_getElem? (i := 364) rfl, rfl⟩
theorem mw_365 : Cond.code yX3_size prog_1_method_4_code 3 (some FieldType.int) ∈ dk_tbl := List.mem_filter.mpr ⟨List.mem_of_getElem? (i := 365) rfl, rfl⟩
theorem mw_367 : Cond.methodLink "DuctSizes" 70 yX1_addSize ∈ dk_tbl := List.mem_filter.mpr ⟨List.mem_of_getElem? (i := 367) rfl, rfl⟩
theorem mw_368 : Cond.instanceMethod yX1_addSize ∈ dk_tbl := List.mem_filter.mpr ⟨List.mem_of_getElem? (i := 368) rfl, rfl⟩
theorem mw_369 : Cond.selects "DuctSizes$Network" yX1_addSize yX1_addSize ∈ dk_tbl := List.mem_filter.mpr ⟨List.mem_of_getElem? (i := 369) rfl, rfl⟩
theorem mw_370 : Cond.code yX1_addSize prog_3_method_3_code 3 (some FieldType.int) ∈ dk_tbl := List.mem_filter.mpr ⟨List.mem_of_getElem? (i := 370) rfl, rfl⟩
theorem mw_374 : Cond.methodLink "DuctSizesLaw" 24 yX3_set ∈ dk_tbl := List.mem_filter.mpr ⟨List.mem_of_getElem? (i := 374) rfl, rfl⟩
theorem mw_375 : Cond.instanceMethod yX3_set ∈ dk_tbl := List.mem_filter.mpr ⟨List.mem_of_getElem? (i := 375) rfl, rfl⟩
theorem mw_376 : Cond.selects "DuctSizes" yX3_set yX3_set ∈ dk_tbl := List.mem_filter.mpr ⟨List.mem_of_getElem? (i := 376) rfl, rfl⟩
theorem mw_377 : Cond.code yX3_set prog_1_method_5_code 3 (some FieldType.int) ∈ dk_tbl := List.mem_filter.mpr ⟨List.mem_of_getElem? (i := 377) rfl, rfl⟩
theorem mw_378 : Cond.methodLink "DuctSizes" 73 yX3_changeSpeedLimit ∈ dk_tbl := List.mem_filter.mpr ⟨List.mem_of_getElem? (i := 378) rfl, rfl⟩
theorem mw_380 : Cond.instanceMethod yX3_changeSpeedLimit ∈ dk_tbl := List.mem_filter.mpr ⟨List.mem_of_getElem? (i := 380) rfl, rfl⟩
theorem mw_381 : Cond.code yX3_changeSpeedLimit prog_1_method_17_code 3 (some FieldType.int) ∈ dk_tbl := List.mem_filter.mpr ⟨List.mem_of_getElem? (i := 381) rfl, rfl⟩
theorem mw_382 : Cond.constant "DuctSizes" 136 (100000 : Int32) ∈ dk_tbl := List.mem_filter.mpr ⟨List.mem_of_getElem? (i := 382) rfl, rfl⟩
theorem mw_383 : Cond.methodLink "DuctSizes" 77 yX3_changeEnergyPrice ∈ dk_tbl := List.mem_filter.mpr ⟨List.mem_of_getElem? (i := 383) rfl, rfl⟩
theorem mw_385 : Cond.instanceMethod yX3_changeEnergyPrice ∈ dk_tbl := List.mem_filter.mpr ⟨List.mem_of_getElem? (i := 385) rfl, rfl⟩
theorem mw_386 : Cond.code yX3_changeEnergyPrice prog_1_method_18_code 3 (some FieldType.int) ∈ dk_tbl := List.mem_filter.mpr ⟨List.mem_of_getElem? (i := 386) rfl, rfl⟩
theorem mw_390 : Cond.methodLink "DuctSizesLaw" 27 yX3_fan ∈ dk_tbl := List.mem_filter.mpr ⟨List.mem_of_getElem? (i := 390) rfl, rfl⟩
theorem mw_391 : Cond.instanceMethod yX3_fan ∈ dk_tbl := List.mem_filter.mpr ⟨List.mem_of_getElem? (i := 391) rfl, rfl⟩
theorem mw_392 : Cond.selects "DuctSizes" yX3_fan yX3_fan ∈ dk_tbl := List.mem_filter.mpr ⟨List.mem_of_getElem? (i := 392) rfl, rfl⟩
theorem mw_393 : Cond.code yX3_fan prog_1_method_6_code 3 (some FieldType.int) ∈ dk_tbl := List.mem_filter.mpr ⟨List.mem_of_getElem? (i := 393) rfl, rfl⟩
theorem mw_394 : Cond.methodLink "DuctSizes" 80 yX0_takes ∈ dk_tbl := List.mem_filter.mpr ⟨List.mem_of_getElem? (i := 394) rfl, rfl⟩
theorem mw_395 : Cond.instanceMethod yX0_takes ∈ dk_tbl := List.mem_filter.mpr ⟨List.mem_of_getElem? (i := 395) rfl, rfl⟩
theorem mw_396 : Cond.selects "DuctSizes$Curve" yX0_takes yX0_takes ∈ dk_tbl := List.mem_filter.mpr ⟨List.mem_of_getElem? (i := 396) rfl, rfl⟩
theorem mw_397 : Cond.code yX0_takes prog_2_method_2_code 3 (some FieldType.boolean) ∈ dk_tbl := List.mem_filter.mpr ⟨List.mem_of_getElem? (i := 397) rfl, rfl⟩
theorem mw_399 : Cond.methodLink "DuctSizes" 86 yX0_addPoint ∈ dk_tbl := List.mem_filter.mpr ⟨List.mem_of_getElem? (i := 399) rfl, rfl⟩
theorem mw_400 : Cond.instanceMethod yX0_addPoint ∈ dk_tbl := List.mem_filter.mpr ⟨List.mem_of_getElem? (i := 400) rfl, rfl⟩
theorem mw_401 : Cond.selects "DuctSizes$Curve" yX0_addPoint yX0_addPoint ∈ dk_tbl := List.mem_filter.mpr ⟨List.mem_of_getElem? (i := 401) rfl, rfl⟩
theorem mw_402 : Cond.code yX0_addPoint prog_2_method_3_code 3 (some FieldType.int) ∈ dk_tbl := List.mem_filter.mpr ⟨List.mem_of_getElem? (i := 402) rfl, rfl⟩
theorem mw_406 : Cond.methodLink "DuctSizesLaw" 30 yX3_flow ∈ dk_tbl := List.mem_filter.mpr ⟨List.mem_of_getElem? (i := 406) rfl, rfl⟩
theorem mw_407 : Cond.instanceMethod yX3_flow ∈ dk_tbl := List.mem_filter.mpr ⟨List.mem_of_getElem? (i := 407) rfl, rfl⟩
theorem mw_408 : Cond.selects "DuctSizes" yX3_flow yX3_flow ∈ dk_tbl := List.mem_filter.mpr ⟨List.mem_of_getElem? (i := 408) rfl, rfl⟩
theorem mw_409 : Cond.code yX3_flow prog_1_method_8_code 2 (some FieldType.int) ∈ dk_tbl := List.mem_filter.mpr ⟨List.mem_of_getElem? (i := 409) rfl, rfl⟩
theorem mw_413 : Cond.methodLink "DuctSizesLaw" 34 yX3_told ∈ dk_tbl := List.mem_filter.mpr ⟨List.mem_of_getElem? (i := 413) rfl, rfl⟩
theorem mw_414 : Cond.instanceMethod yX3_told ∈ dk_tbl := List.mem_filter.mpr ⟨List.mem_of_getElem? (i := 414) rfl, rfl⟩
theorem mw_415 : Cond.selects "DuctSizes" yX3_told yX3_told ∈ dk_tbl := List.mem_filter.mpr ⟨List.mem_of_getElem? (i := 415) rfl, rfl⟩
theorem mw_416 : Cond.code yX3_told prog_1_method_9_code 4 (some FieldType.int) ∈ dk_tbl := List.mem_filter.mpr ⟨List.mem_of_getElem? (i := 416) rfl, rfl⟩
theorem mw_417 : Cond.methodLink "DuctSizes" 96 yX1_speedOf ∈ dk_tbl := List.mem_filter.mpr ⟨List.mem_of_getElem? (i := 417) rfl, rfl⟩
theorem mw_418 : Cond.methodLink "DuctSizes" 99 yX1_fallOf ∈ dk_tbl := List.mem_filter.mpr ⟨List.mem_of_getElem? (i := 418) rfl, rfl⟩
theorem mw_422 : Cond.methodLink "DuctSizesLaw" 37 yX3_best ∈ dk_tbl := List.mem_filter.mpr ⟨List.mem_of_getElem? (i := 422) rfl, rfl⟩
theorem mw_423 : Cond.instanceMethod yX3_best ∈ dk_tbl := List.mem_filter.mpr ⟨List.mem_of_getElem? (i := 423) rfl, rfl⟩
theorem mw_424 : Cond.selects "DuctSizes" yX3_best yX3_best ∈ dk_tbl := List.mem_filter.mpr ⟨List.mem_of_getElem? (i := 424) rfl, rfl⟩
theorem mw_425 : Cond.code yX3_best prog_1_method_10_code 3 (some FieldType.int) ∈ dk_tbl := List.mem_filter.mpr ⟨List.mem_of_getElem? (i := 425) rfl, rfl⟩
theorem mw_429 : Cond.methodLink "DuctSizesLaw" 40 yX3_chosen ∈ dk_tbl := List.mem_filter.mpr ⟨List.mem_of_getElem? (i := 429) rfl, rfl⟩
theorem mw_430 : Cond.instanceMethod yX3_chosen ∈ dk_tbl := List.mem_filter.mpr ⟨List.mem_of_getElem? (i := 430) rfl, rfl⟩
theorem mw_431 : Cond.selects "DuctSizes" yX3_chosen yX3_chosen ∈ dk_tbl := List.mem_filter.mpr ⟨List.mem_of_getElem? (i := 431) rfl, rfl⟩
theorem mw_432 : Cond.code yX3_chosen prog_1_method_11_code 3 (some FieldType.int) ∈ dk_tbl := List.mem_filter.mpr ⟨List.mem_of_getElem? (i := 432) rfl, rfl⟩
theorem mw_436 : Cond.methodLink "DuctSizesLaw" 43 yX3_pressure ∈ dk_tbl := List.mem_filter.mpr ⟨List.mem_of_getElem? (i := 436) rfl, rfl⟩
theorem mw_437 : Cond.instanceMethod yX3_pressure ∈ dk_tbl := List.mem_filter.mpr ⟨List.mem_of_getElem? (i := 437) rfl, rfl⟩
theorem mw_438 : Cond.selects "DuctSizes" yX3_pressure yX3_pressure ∈ dk_tbl := List.mem_filter.mpr ⟨List.mem_of_getElem? (i := 438) rfl, rfl⟩
theorem mw_439 : Cond.code yX3_pressure prog_1_method_12_code 3 (some FieldType.int) ∈ dk_tbl := List.mem_filter.mpr ⟨List.mem_of_getElem? (i := 439) rfl, rfl⟩
theorem mw_443 : Cond.methodLink "DuctSizesLaw" 46 yX3_damper ∈ dk_tbl := List.mem_filter.mpr ⟨List.mem_of_getElem? (i := 443) rfl, rfl⟩
theorem mw_444 : Cond.instanceMethod yX3_damper ∈ dk_tbl := List.mem_filter.mpr ⟨List.mem_of_getElem? (i := 444) rfl, rfl⟩
theorem mw_445 : Cond.selects "DuctSizes" yX3_damper yX3_damper ∈ dk_tbl := List.mem_filter.mpr ⟨List.mem_of_getElem? (i := 445) rfl, rfl⟩
theorem mw_446 : Cond.code yX3_damper prog_1_method_13_code 3 (some FieldType.int) ∈ dk_tbl := List.mem_filter.mpr ⟨List.mem_of_getElem? (i := 446) rfl, rfl⟩
theorem mw_450 : Cond.methodLink "DuctSizesLaw" 49 yX3_least ∈ dk_tbl := List.mem_filter.mpr ⟨List.mem_of_getElem? (i := 450) rfl, rfl⟩
theorem mw_451 : Cond.instanceMethod yX3_least ∈ dk_tbl := List.mem_filter.mpr ⟨List.mem_of_getElem? (i := 451) rfl, rfl⟩
theorem mw_452 : Cond.selects "DuctSizes" yX3_least yX3_least ∈ dk_tbl := List.mem_filter.mpr ⟨List.mem_of_getElem? (i := 452) rfl, rfl⟩
theorem mw_453 : Cond.code yX3_least prog_1_method_14_code 2 (some FieldType.int) ∈ dk_tbl := List.mem_filter.mpr ⟨List.mem_of_getElem? (i := 453) rfl, rfl⟩
