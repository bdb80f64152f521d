/-! NAMES: classes, fields, methods, the words of the tables that are good for every state of the run, their places -/
def RX0 : String := "DuctSizes$Curve"
def TX0 : u_T := fun k => match k with
  | 0 => ("DuctSizes$Curve", "flows", "[I", true)
  | 1 => ("DuctSizes$Curve", "pressures", "[I", true)
  | _ => ("DuctSizes$Curve", "points", "I", false)
def tyX0 : Nat → FieldType := fun k => match k with
  | 0 => .array .int
  | 1 => .array .int
  | _ => .int
theorem nmX0 : ∀ a, a < 3 → ∀ b, b < 3 → a ≠ b → (TX0 a).2.1 ≠ (TX0 b).2.1 := by decide +kernel
theorem tyX0_ok : ∀ k, k < 3 → parseFieldDescriptor (TX0 k).2.2.1 = some (tyX0 k) := by decide +kernel
abbrev cX0_init : ByteArray := prog_2_method_1_code
def yX0_init : MethodName := ⟨RX0, "<init>", "()V"⟩
abbrev cX0_takes : ByteArray := prog_2_method_2_code
def yX0_takes : MethodName := ⟨RX0, "takes", "(II)Z"⟩
abbrev cX0_addPoint : ByteArray := prog_2_method_3_code
def yX0_addPoint : MethodName := ⟨RX0, "addPoint", "(II)I"⟩
abbrev cX0_pressureAt : ByteArray := prog_2_method_4_code
def yX0_pressureAt : MethodName := ⟨RX0, "pressureAt", "(I)I"⟩
abbrev cX0_pressureBefore : ByteArray := prog_2_method_5_code
def yX0_pressureBefore : MethodName := ⟨RX0, "pressureBefore", "(II)I"⟩
def RX1 : String := "DuctSizes$Network"
def TX1 : u_T := fun k => match k with
  | 0 => ("DuctSizes$Network", "from", "[I", true)
  | 1 => ("DuctSizes$Network", "lengths", "[I", true)
  | 2 => ("DuctSizes$Network", "fittings", "[I", true)
  | 3 => ("DuctSizes$Network", "needs", "[I", true)
  | 4 => ("DuctSizes$Network", "flows", "[I", true)
  | 5 => ("DuctSizes$Network", "ducts", "I", false)
  | 6 => ("DuctSizes$Network", "areas", "[I", true)
  | 7 => ("DuctSizes$Network", "prices", "[I", true)
  | 8 => ("DuctSizes$Network", "sizes", "I", false)
  | _ => ("DuctSizes$Network", "speedLimit", "I", false)
def tyX1 : Nat → FieldType := fun k => match k with
  | 0 => .array .int
  | 1 => .array .int
  | 2 => .array .int
  | 3 => .array .int
  | 4 => .array .int
  | 5 => .int
  | 6 => .array .int
  | 7 => .array .int
  | 8 => .int
  | _ => .int
theorem nmX1 : ∀ a, a < 10 → ∀ b, b < 10 → a ≠ b → (TX1 a).2.1 ≠ (TX1 b).2.1 := by decide +kernel
theorem tyX1_ok : ∀ k, k < 10 → parseFieldDescriptor (TX1 k).2.2.1 = some (tyX1 k) := by decide +kernel
abbrev cX1_init : ByteArray := prog_3_method_1_code
def yX1_init : MethodName := ⟨RX1, "<init>", "()V"⟩
abbrev cX1_addDuct : ByteArray := prog_3_method_2_code
def yX1_addDuct : MethodName := ⟨RX1, "addDuct", "(III)I"⟩
abbrev cX1_addSize : ByteArray := prog_3_method_3_code
def yX1_addSize : MethodName := ⟨RX1, "addSize", "(II)I"⟩
abbrev cX1_changeNeed : ByteArray := prog_3_method_4_code
def yX1_changeNeed : MethodName := ⟨RX1, "changeNeed", "(II)I"⟩
abbrev cX1_sumFlows : ByteArray := prog_3_method_5_code
def yX1_sumFlows : MethodName := ⟨RX1, "sumFlows", "()V"⟩
abbrev cX1_speedOf : ByteArray := prog_3_method_6_code
def yX1_speedOf : MethodName := ⟨RX1, "speedOf", "(II)I"⟩
abbrev cX1_fallOf : ByteArray := prog_3_method_7_code
def yX1_fallOf : MethodName := ⟨RX1, "fallOf", "(II)I"⟩
abbrev cX1_allows : ByteArray := prog_3_method_8_code
def yX1_allows : MethodName := ⟨RX1, "allows", "(II)Z"⟩
abbrev cX1_priceOf : ByteArray := prog_3_method_9_code
def yX1_priceOf : MethodName := ⟨RX1, "priceOf", "(II)I"⟩
def RX2 : String := "DuctSizes$Search"
def TX2 : u_T := fun k => match k with
  | 0 => ("DuctSizes$Search", "network", "LDuctSizes$Network;", true)
  | 1 => ("DuctSizes$Search", "falls", "[[I", true)
  | 2 => ("DuctSizes$Search", "trialSizeOf", "[I", true)
  | 3 => ("DuctSizes$Search", "trialPressureAt", "[I", true)
  | 4 => ("DuctSizes$Search", "limit", "I", false)
  | 5 => ("DuctSizes$Search", "energyPrice", "I", false)
  | 6 => ("DuctSizes$Search", "sizeOf", "[I", true)
  | 7 => ("DuctSizes$Search", "pressureAt", "[I", true)
  | 8 => ("DuctSizes$Search", "found", "Z", false)
  | 9 => ("DuctSizes$Search", "cost", "I", false)
  | _ => ("DuctSizes$Search", "pressure", "I", false)
def tyX2 : Nat → FieldType := fun k => match k with
  | 0 => .object "DuctSizes$Network"
  | 1 => .array (.array .int)
  | 2 => .array .int
  | 3 => .array .int
  | 4 => .int
  | 5 => .int
  | 6 => .array .int
  | 7 => .array .int
  | 8 => .boolean
  | 9 => .int
  | _ => .int
theorem nmX2 : ∀ a, a < 11 → ∀ b, b < 11 → a ≠ b → (TX2 a).2.1 ≠ (TX2 b).2.1 := by decide +kernel
theorem tyX2_ok : ∀ k, k < 11 → parseFieldDescriptor (TX2 k).2.2.1 = some (tyX2 k) := by decide +kernel
abbrev cX2_init : ByteArray := prog_4_method_1_code
def yX2_init : MethodName := ⟨RX2, "<init>", "(LDuctSizes$Network;)V"⟩
abbrev cX2_run : ByteArray := prog_4_method_2_code
def yX2_run : MethodName := ⟨RX2, "run", "(II)V"⟩
abbrev cX2_firstNodeOfGreatestPressure : ByteArray := prog_4_method_3_code
def yX2_firstNodeOfGreatestPressure : MethodName := ⟨RX2, "firstNodeOfGreatestPressure", "()I"⟩
abbrev cX2_noteFalls : ByteArray := prog_4_method_4_code
def yX2_noteFalls : MethodName := ⟨RX2, "noteFalls", "()V"⟩
abbrev cX2_placeFrom : ByteArray := prog_4_method_5_code
def yX2_placeFrom : MethodName := ⟨RX2, "placeFrom", "(III)V"⟩
abbrev cX2_placeSize : ByteArray := prog_4_method_6_code
def yX2_placeSize : MethodName := ⟨RX2, "placeSize", "(IIII)V"⟩
abbrev cX2_isBetter : ByteArray := prog_4_method_7_code
def yX2_isBetter : MethodName := ⟨RX2, "isBetter", "(II)Z"⟩
abbrev cX2_keepTrial : ByteArray := prog_4_method_8_code
def yX2_keepTrial : MethodName := ⟨RX2, "keepTrial", "(II)V"⟩
def RX3 : String := "DuctSizes"
def TX3 : u_T := fun k => match k with
  | 0 => ("DuctSizes", "network", "LDuctSizes$Network;", true)
  | 1 => ("DuctSizes", "curve", "LDuctSizes$Curve;", true)
  | 2 => ("DuctSizes", "best", "LDuctSizes$Search;", true)
  | 3 => ("DuctSizes", "cheapest", "LDuctSizes$Search;", true)
  | 4 => ("DuctSizes", "energyPrice", "I", false)
  | _ => ("DuctSizes", "bestIsOld", "Z", false)
def tyX3 : Nat → FieldType := fun k => match k with
  | 0 => .object "DuctSizes$Network"
  | 1 => .object "DuctSizes$Curve"
  | 2 => .object "DuctSizes$Search"
  | 3 => .object "DuctSizes$Search"
  | 4 => .int
  | _ => .boolean
theorem nmX3 : ∀ a, a < 6 → ∀ b, b < 6 → a ≠ b → (TX3 a).2.1 ≠ (TX3 b).2.1 := by decide +kernel
theorem tyX3_ok : ∀ k, k < 6 → parseFieldDescriptor (TX3 k).2.2.1 = some (tyX3 k) := by decide +kernel
abbrev cX3_init : ByteArray := prog_1_method_1_code
def yX3_init : MethodName := ⟨RX3, "<init>", "()V"⟩
abbrev cX3_duct : ByteArray := prog_1_method_2_code
def yX3_duct : MethodName := ⟨RX3, "duct", "(III)I"⟩
abbrev cX3_need : ByteArray := prog_1_method_3_code
def yX3_need : MethodName := ⟨RX3, "need", "(II)I"⟩
abbrev cX3_size : ByteArray := prog_1_method_4_code
def yX3_size : MethodName := ⟨RX3, "size", "(II)I"⟩
abbrev cX3_set : ByteArray := prog_1_method_5_code
def yX3_set : MethodName := ⟨RX3, "set", "(II)I"⟩
abbrev cX3_fan : ByteArray := prog_1_method_6_code
def yX3_fan : MethodName := ⟨RX3, "fan", "(II)I"⟩
abbrev cX3_gives : ByteArray := prog_1_method_7_code
def yX3_gives : MethodName := ⟨RX3, "gives", "()I"⟩
abbrev cX3_flow : ByteArray := prog_1_method_8_code
def yX3_flow : MethodName := ⟨RX3, "flow", "(I)I"⟩
abbrev cX3_told : ByteArray := prog_1_method_9_code
def yX3_told : MethodName := ⟨RX3, "told", "(III)I"⟩
abbrev cX3_best : ByteArray := prog_1_method_10_code
def yX3_best : MethodName := ⟨RX3, "best", "(I)I"⟩
abbrev cX3_chosen : ByteArray := prog_1_method_11_code
def yX3_chosen : MethodName := ⟨RX3, "chosen", "(I)I"⟩
abbrev cX3_pressure : ByteArray := prog_1_method_12_code
def yX3_pressure : MethodName := ⟨RX3, "pressure", "(I)I"⟩
abbrev cX3_damper : ByteArray := prog_1_method_13_code
def yX3_damper : MethodName := ⟨RX3, "damper", "(I)I"⟩
abbrev cX3_least : ByteArray := prog_1_method_14_code
def yX3_least : MethodName := ⟨RX3, "least", "(I)I"⟩
abbrev cX3_worst : ByteArray := prog_1_method_15_code
def yX3_worst : MethodName := ⟨RX3, "worst", "()I"⟩
abbrev cX3_demand : ByteArray := prog_1_method_16_code
def yX3_demand : MethodName := ⟨RX3, "demand", "(III)V"⟩
abbrev cX3_changeSpeedLimit : ByteArray := prog_1_method_17_code
def yX3_changeSpeedLimit : MethodName := ⟨RX3, "changeSpeedLimit", "(I)I"⟩
abbrev cX3_changeEnergyPrice : ByteArray := prog_1_method_18_code
def yX3_changeEnergyPrice : MethodName := ⟨RX3, "changeEnergyPrice", "(I)I"⟩
abbrev cX3_bestChoice : ByteArray := prog_1_method_19_code
def yX3_bestChoice : MethodName := ⟨RX3, "bestChoice", "()LDuctSizes$Search;"⟩
def dk_tbl : List Cond := lw_tbl.filter goodWord
abbrev wsX0_init : List Cond := .code yX0_init cX0_init 1 none :: dk_tbl
abbrev wsX0_takes : List Cond := .code yX0_takes cX0_takes 3 (some .boolean) :: dk_tbl
abbrev wsX0_addPoint : List Cond := .code yX0_addPoint cX0_addPoint 3 (some .int) :: dk_tbl
abbrev wsX0_pressureAt : List Cond := .code yX0_pressureAt cX0_pressureAt 3 (some .int) :: dk_tbl
abbrev wsX0_pressureBefore : List Cond := .code yX0_pressureBefore cX0_pressureBefore 6 (some .int) :: dk_tbl
abbrev wsX1_init : List Cond := .code yX1_init cX1_init 1 none :: dk_tbl
abbrev wsX1_addDuct : List Cond := .code yX1_addDuct cX1_addDuct 4 (some .int) :: dk_tbl
abbrev wsX1_addSize : List Cond := .code yX1_addSize cX1_addSize 3 (some .int) :: dk_tbl
abbrev wsX1_changeNeed : List Cond := .code yX1_changeNeed cX1_changeNeed 4 (some .int) :: dk_tbl
abbrev wsX1_sumFlows : List Cond := .code yX1_sumFlows cX1_sumFlows 2 none :: dk_tbl
abbrev wsX1_speedOf : List Cond := .code yX1_speedOf cX1_speedOf 3 (some .int) :: dk_tbl
abbrev wsX1_fallOf : List Cond := .code yX1_fallOf cX1_fallOf 11 (some .int) :: dk_tbl
abbrev wsX1_allows : List Cond := .code yX1_allows cX1_allows 3 (some .boolean) :: dk_tbl
abbrev wsX1_priceOf : List Cond := .code yX1_priceOf cX1_priceOf 3 (some .int) :: dk_tbl
abbrev wsX2_init : List Cond := .code yX2_init cX2_init 2 none :: dk_tbl
abbrev wsX2_run : List Cond := .code yX2_run cX2_run 3 none :: dk_tbl
abbrev wsX2_firstNodeOfGreatestPressure : List Cond := .code yX2_firstNodeOfGreatestPressure cX2_firstNodeOfGreatestPressure 2 (some .int) :: dk_tbl
abbrev wsX2_noteFalls : List Cond := .code yX2_noteFalls cX2_noteFalls 3 none :: dk_tbl
abbrev wsX2_placeFrom : List Cond := .code yX2_placeFrom cX2_placeFrom 5 none :: dk_tbl
abbrev wsX2_placeSize : List Cond := .code yX2_placeSize cX2_placeSize 8 none :: dk_tbl
abbrev wsX2_isBetter : List Cond := .code yX2_isBetter cX2_isBetter 4 (some .boolean) :: dk_tbl
abbrev wsX2_keepTrial : List Cond := .code yX2_keepTrial cX2_keepTrial 4 none :: dk_tbl
abbrev wsX3_init : List Cond := .code yX3_init cX3_init 1 none :: dk_tbl
abbrev wsX3_duct : List Cond := .code yX3_duct cX3_duct 4 (some .int) :: dk_tbl
abbrev wsX3_need : List Cond := .code yX3_need cX3_need 3 (some .int) :: dk_tbl
abbrev wsX3_size : List Cond := .code yX3_size cX3_size 3 (some .int) :: dk_tbl
abbrev wsX3_set : List Cond := .code yX3_set cX3_set 3 (some .int) :: dk_tbl
abbrev wsX3_fan : List Cond := .code yX3_fan cX3_fan 3 (some .int) :: dk_tbl
abbrev wsX3_gives : List Cond := .code yX3_gives cX3_gives 1 (some .int) :: dk_tbl
abbrev wsX3_flow : List Cond := .code yX3_flow cX3_flow 2 (some .int) :: dk_tbl
abbrev wsX3_told : List Cond := .code yX3_told cX3_told 4 (some .int) :: dk_tbl
abbrev wsX3_best : List Cond := .code yX3_best cX3_best 3 (some .int) :: dk_tbl
abbrev wsX3_chosen : List Cond := .code yX3_chosen cX3_chosen 3 (some .int) :: dk_tbl
abbrev wsX3_pressure : List Cond := .code yX3_pressure cX3_pressure 3 (some .int) :: dk_tbl
abbrev wsX3_damper : List Cond := .code yX3_damper cX3_damper 3 (some .int) :: dk_tbl
abbrev wsX3_least : List Cond := .code yX3_least cX3_least 2 (some .int) :: dk_tbl
abbrev wsX3_worst : List Cond := .code yX3_worst cX3_worst 2 (some .int) :: dk_tbl
abbrev wsX3_demand : List Cond := .code yX3_demand cX3_demand 3 none :: dk_tbl
abbrev wsX3_changeSpeedLimit : List Cond := .code yX3_changeSpeedLimit cX3_changeSpeedLimit 3 (some .int) :: dk_tbl
abbrev wsX3_changeEnergyPrice : List Cond := .code yX3_changeEnergyPrice cX3_changeEnergyPrice 3 (some .int) :: dk_tbl
abbrev wsX3_bestChoice : List Cond := .code yX3_bestChoice cX3_bestChoice 1 (some (.object "DuctSizes$Search")) :: dk_tbl
abbrev vwCl : List vw_C := [(RX0, TX0, 3), (RX1, TX1, 10), (RX2, TX2, 11), (RX3, TX3, 6)]
theorem in_X0 : ∀ w ∈ u_ws RX0 TX0 3, w ∈ dk_tbl := by decide +kernel
theorem in_X1 : ∀ w ∈ u_ws RX1 TX1 10, w ∈ dk_tbl := by decide +kernel
theorem in_X2 : ∀ w ∈ u_ws RX2 TX2 11, w ∈ dk_tbl := by decide +kernel
theorem in_X3 : ∀ w ∈ u_ws RX3 TX3 6, w ∈ dk_tbl := by decide +kernel
theorem dk_gd {w : Cond} (h : w ∈ dk_tbl) : w ∈ dk_tbl ∧ ((w.onTables && w.keeps) = true ∨ ∃ ty, w = .arrayClass ty) := ⟨h, good_of_word (List.mem_filter.mp h).2⟩
theorem dk_gC {c : Cond} (h : c ∈ dk_tbl) : GoodIn dk_tbl (c :: dk_tbl) := fun w hw => (List.mem_cons.mp hw).elim (fun e => by rw [e]; exact dk_gd h) dk_gd
theorem dk_gV {own C : String} {idx n : Nat} {y : MethodName} {c : ByteArray} {r : Option FieldType} (h1 : Cond.methodLink own idx y ∈ dk_tbl) (h2 : Cond.instanceMethod y ∈ dk_tbl) (h3 : Cond.selects C y y ∈ dk_tbl) (h4 : Cond.initialized C ∈ dk_tbl) (h5 : Cond.code y c n r ∈ dk_tbl) : GoodIn dk_tbl (wsV own idx C y (.code y c n r :: dk_tbl)) := by
  intro w hw
  rcases List.mem_append.mp hw with h | h
  · simp only [List.mem_cons, List.not_mem_nil, or_false] at h
    rcases h with rfl | rfl | rfl | rfl
    · exact dk_gd h1
    · exact dk_gd h2
    · exact dk_gd h3
    · exact dk_gd h4
  · exact dk_gC h5 w h
theorem dk_gS {own : String} {idx n : Nat} {y : MethodName} {c : ByteArray} {r : Option FieldType} (h1 : Cond.methodLink own idx y ∈ dk_tbl) (h2 : Cond.static y ∈ dk_tbl) (h4 : Cond.initialized y.cls ∈ dk_tbl) (h5 : Cond.code y c n r ∈ dk_tbl) : GoodIn dk_tbl (va_wsS own idx y (.code y c n r :: dk_tbl)) := by
  intro w hw
  rcases List.mem_append.mp hw with h | h
  · simp only [List.mem_cons, List.not_mem_nil, or_false] at h
    rcases h with rfl | rfl | rfl
    · exact dk_gd h1
    · exact dk_gd h2
    · exact dk_gd h4
  · exact dk_gC h5 w h
