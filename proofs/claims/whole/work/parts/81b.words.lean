/-! WORDS: each word that the rows use, at its place -/
theorem mw_11 : Cond.selects "DuctSizesModel" yX4_isDuct yX4_isDuct ∈ dk_tbl := List.mem_filter.mpr ⟨List.mem_of_getElem? (i := 11) rfl, rfl⟩
theorem mw_12 : Cond.selects "DuctSizesModel" yX4_given yX4_given ∈ dk_tbl := List.mem_filter.mpr ⟨List.mem_of_getElem? (i := 12) rfl, rfl⟩
theorem mw_13 : Cond.selects "DuctSizesModel" yX4_flowOf yX4_flowOf ∈ dk_tbl := List.mem_filter.mpr ⟨List.mem_of_getElem? (i := 13) rfl, rfl⟩
theorem mw_14 : Cond.selects "DuctSizesModel" yX4_isBelow yX4_isBelow ∈ dk_tbl := List.mem_filter.mpr ⟨List.mem_of_getElem? (i := 14) rfl, rfl⟩
theorem mw_15 : Cond.selects "DuctSizesModel" yX4_speedOf yX4_speedOf ∈ dk_tbl := List.mem_filter.mpr ⟨List.mem_of_getElem? (i := 15) rfl, rfl⟩
theorem mw_16 : Cond.selects "DuctSizesModel" yX4_fallOf yX4_fallOf ∈ dk_tbl := List.mem_filter.mpr ⟨List.mem_of_getElem? (i := 16) rfl, rfl⟩
theorem mw_17 : Cond.selects "DuctSizesModel" yX4_findBest yX4_findBest ∈ dk_tbl := List.mem_filter.mpr ⟨List.mem_of_getElem? (i := 17) rfl, rfl⟩
theorem mw_18 : Cond.selects "DuctSizesModel" yX4_findFalls yX4_findFalls ∈ dk_tbl := List.mem_filter.mpr ⟨List.mem_of_getElem? (i := 18) rfl, rfl⟩
theorem mw_19 : Cond.selects "DuctSizesModel" yX4_ways yX4_ways ∈ dk_tbl := List.mem_filter.mpr ⟨List.mem_of_getElem? (i := 19) rfl, rfl⟩
theorem mw_20 : Cond.selects "DuctSizesModel" yX4_look yX4_look ∈ dk_tbl := List.mem_filter.mpr ⟨List.mem_of_getElem? (i := 20) rfl, rfl⟩
theorem mw_21 : Cond.selects "DuctSizesModel" yX4_price yX4_price ∈ dk_tbl := List.mem_filter.mpr ⟨List.mem_of_getElem? (i := 21) rfl, rfl⟩
theorem mw_27 : Cond.initialized "DuctSizesModel" ∈ dk_tbl := List.mem_filter.mpr ⟨List.mem_of_getElem? (i := 27) rfl, rfl⟩
theorem mw_459 : Cond.methodLink "DuctSizesModel" 1 ({ cls := "java/lang/Object", name := "<init>", desc := "()V" } : Jvm.MethodName) ∈ dk_tbl := List.mem_filter.mpr ⟨List.mem_of_getElem? (i := 459) rfl, rfl⟩
theorem mw_460 : Cond.constant "DuctSizesModel" 28 (100000 : Int32) ∈ dk_tbl := List.mem_filter.mpr ⟨List.mem_of_getElem? (i := 460) rfl, rfl⟩
theorem mw_461 : Cond.fieldLink RX4 55 "DuctSizesModel" "code" "I" ∈ dk_tbl := List.mem_filter.mpr ⟨List.mem_of_getElem? (i := 461) rfl, rfl⟩
theorem mw_462 : Cond.fieldLink RX4 58 "DuctSizesModel" "ducts" "I" ∈ dk_tbl := List.mem_filter.mpr ⟨List.mem_of_getElem? (i := 462) rfl, rfl⟩
theorem mw_463 : Cond.fieldLink RX4 7 "DuctSizesModel" "from" "[I" ∈ dk_tbl := List.mem_filter.mpr ⟨List.mem_of_getElem? (i := 463) rfl, rfl⟩
theorem mw_464 : Cond.fieldLink RX4 13 "DuctSizesModel" "lengths" "[I" ∈ dk_tbl := List.mem_filter.mpr ⟨List.mem_of_getElem? (i := 464) rfl, rfl⟩
theorem mw_465 : Cond.fieldLink RX4 16 "DuctSizesModel" "fittings" "[I" ∈ dk_tbl := List.mem_filter.mpr ⟨List.mem_of_getElem? (i := 465) rfl, rfl⟩
theorem mw_466 : Cond.fieldLink RX4 19 "DuctSizesModel" "needs" "[I" ∈ dk_tbl := List.mem_filter.mpr ⟨List.mem_of_getElem? (i := 466) rfl, rfl⟩
theorem mw_467 : Cond.fieldLink RX4 75 "DuctSizesModel" "sizes" "I" ∈ dk_tbl := List.mem_filter.mpr ⟨List.mem_of_getElem? (i := 467) rfl, rfl⟩
theorem mw_468 : Cond.fieldLink RX4 22 "DuctSizesModel" "areas" "[I" ∈ dk_tbl := List.mem_filter.mpr ⟨List.mem_of_getElem? (i := 468) rfl, rfl⟩
theorem mw_469 : Cond.fieldLink RX4 25 "DuctSizesModel" "prices" "[I" ∈ dk_tbl := List.mem_filter.mpr ⟨List.mem_of_getElem? (i := 469) rfl, rfl⟩
theorem mw_470 : Cond.fieldLink RX4 29 "DuctSizesModel" "speedLimit" "I" ∈ dk_tbl := List.mem_filter.mpr ⟨List.mem_of_getElem? (i := 470) rfl, rfl⟩
theorem mw_471 : Cond.fieldLink RX4 80 "DuctSizesModel" "energy" "I" ∈ dk_tbl := List.mem_filter.mpr ⟨List.mem_of_getElem? (i := 471) rfl, rfl⟩
theorem mw_472 : Cond.fieldLink RX4 83 "DuctSizesModel" "points" "I" ∈ dk_tbl := List.mem_filter.mpr ⟨List.mem_of_getElem? (i := 472) rfl, rfl⟩
theorem mw_473 : Cond.fieldLink RX4 33 "DuctSizesModel" "flows" "[I" ∈ dk_tbl := List.mem_filter.mpr ⟨List.mem_of_getElem? (i := 473) rfl, rfl⟩
theorem mw_474 : Cond.fieldLink RX4 36 "DuctSizesModel" "pressures" "[I" ∈ dk_tbl := List.mem_filter.mpr ⟨List.mem_of_getElem? (i := 474) rfl, rfl⟩
theorem mw_475 : Cond.fieldLink RX4 39 "DuctSizesModel" "choice" "[I" ∈ dk_tbl := List.mem_filter.mpr ⟨List.mem_of_getElem? (i := 475) rfl, rfl⟩
theorem mw_476 : Cond.fieldLink RX4 42 "DuctSizesModel" "at" "[J" ∈ dk_tbl := List.mem_filter.mpr ⟨List.mem_of_getElem? (i := 476) rfl, rfl⟩
theorem mw_477 : Cond.fieldLink RX4 113 "DuctSizesModel" "found" "Z" ∈ dk_tbl := List.mem_filter.mpr ⟨List.mem_of_getElem? (i := 477) rfl, rfl⟩
theorem mw_478 : Cond.fieldLink RX4 130 "DuctSizesModel" "bestCost" "J" ∈ dk_tbl := List.mem_filter.mpr ⟨List.mem_of_getElem? (i := 478) rfl, rfl⟩
theorem mw_479 : Cond.fieldLink RX4 134 "DuctSizesModel" "bestPressure" "J" ∈ dk_tbl := List.mem_filter.mpr ⟨List.mem_of_getElem? (i := 479) rfl, rfl⟩
theorem mw_480 : Cond.fieldLink RX4 46 "DuctSizesModel" "bestChoice" "[I" ∈ dk_tbl := List.mem_filter.mpr ⟨List.mem_of_getElem? (i := 480) rfl, rfl⟩
theorem mw_481 : Cond.fieldLink RX4 49 "DuctSizesModel" "bestAt" "[J" ∈ dk_tbl := List.mem_filter.mpr ⟨List.mem_of_getElem? (i := 481) rfl, rfl⟩
theorem mw_482 : Cond.fieldLink RX4 52 "DuctSizesModel" "falls" "[J" ∈ dk_tbl := List.mem_filter.mpr ⟨List.mem_of_getElem? (i := 482) rfl, rfl⟩
set_option maxRecDepth 100000 in
theorem mw_528 : Cond.arrayClass FieldType.long ∈ dk_tbl := List.mem_filter.mpr ⟨List.mem_of_getElem? (i := 528) rfl, rfl⟩
set_option maxRecDepth 100000 in
theorem mw_537 : Cond.methodLink "DuctSizesModel" 61 yX4_isIn ∈ dk_tbl := List.mem_filter.mpr ⟨List.mem_of_getElem? (i := 537) rfl, rfl⟩
set_option maxRecDepth 100000 in
theorem mw_538 : Cond.static yX4_isIn ∈ dk_tbl := List.mem_filter.mpr ⟨List.mem_of_getElem? (i := 538) rfl, rfl⟩
set_option maxRecDepth 100000 in
theorem mw_539 : Cond.code yX4_isIn prog_6_method_3_code 6 (some FieldType.boolean) ∈ dk_tbl := List.mem_filter.mpr ⟨List.mem_of_getElem? (i := 539) rfl, rfl⟩
set_option maxRecDepth 100000 in
theorem mw_540 : Cond.constantLong "DuctSizesModel" 65 (100 : Int64) ∈ dk_tbl := List.mem_filter.mpr ⟨List.mem_of_getElem? (i := 540) rfl, rfl⟩
set_option maxRecDepth 100000 in
theorem mw_541 : Cond.constantLong "DuctSizesModel" 67 (50 : Int64) ∈ dk_tbl := List.mem_filter.mpr ⟨List.mem_of_getElem? (i := 541) rfl, rfl⟩
set_option maxRecDepth 100000 in
theorem mw_546 : Cond.methodLink "DuctSizesModel" 69 yX4_isDuct ∈ dk_tbl := List.mem_filter.mpr ⟨List.mem_of_getElem? (i := 546) rfl, rfl⟩
set_option maxRecDepth 100000 in
theorem mw_548 : Cond.instanceMethod yX4_isDuct ∈ dk_tbl := List.mem_filter.mpr ⟨List.mem_of_getElem? (i := 548) rfl, rfl⟩
set_option maxRecDepth 100000 in
theorem mw_549 : Cond.code yX4_isDuct prog_6_method_4_code 2 (some FieldType.boolean) ∈ dk_tbl := List.mem_filter.mpr ⟨List.mem_of_getElem? (i := 549) rfl, rfl⟩
set_option maxRecDepth 100000 in
theorem mw_550 : Cond.constantLong "DuctSizesModel" 73 (1000 : Int64) ∈ dk_tbl := List.mem_filter.mpr ⟨List.mem_of_getElem? (i := 550) rfl, rfl⟩
set_option maxRecDepth 100000 in
theorem mw_559 : Cond.constantLong "DuctSizesModel" 78 (100000 : Int64) ∈ dk_tbl := List.mem_filter.mpr ⟨List.mem_of_getElem? (i := 559) rfl, rfl⟩
set_option maxRecDepth 100000 in
theorem mw_564 : Cond.constantLong "DuctSizesModel" 86 (10000 : Int64) ∈ dk_tbl := List.mem_filter.mpr ⟨List.mem_of_getElem? (i := 564) rfl, rfl⟩
set_option maxRecDepth 100000 in
theorem mw_565 : Cond.constantLong "DuctSizesModel" 88 (300 : Int64) ∈ dk_tbl := List.mem_filter.mpr ⟨List.mem_of_getElem? (i := 565) rfl, rfl⟩
set_option maxRecDepth 100000 in
theorem mw_570 : Cond.methodLink "DuctSizesModel" 90 yX4_given ∈ dk_tbl := List.mem_filter.mpr ⟨List.mem_of_getElem? (i := 570) rfl, rfl⟩
set_option maxRecDepth 100000 in
theorem mw_572 : Cond.instanceMethod yX4_given ∈ dk_tbl := List.mem_filter.mpr ⟨List.mem_of_getElem? (i := 572) rfl, rfl⟩
set_option maxRecDepth 100000 in
theorem mw_573 : Cond.code yX4_given prog_6_method_10_code 5 (some FieldType.int) ∈ dk_tbl := List.mem_filter.mpr ⟨List.mem_of_getElem? (i := 573) rfl, rfl⟩
set_option maxRecDepth 100000 in
theorem mw_578 : Cond.methodLink "DuctSizesModel" 98 yX4_flowOf ∈ dk_tbl := List.mem_filter.mpr ⟨List.mem_of_getElem? (i := 578) rfl, rfl⟩
set_option maxRecDepth 100000 in
theorem mw_580 : Cond.instanceMethod yX4_flowOf ∈ dk_tbl := List.mem_filter.mpr ⟨List.mem_of_getElem? (i := 580) rfl, rfl⟩
set_option maxRecDepth 100000 in
theorem mw_581 : Cond.code yX4_flowOf prog_6_method_13_code 5 (some FieldType.long) ∈ dk_tbl := List.mem_filter.mpr ⟨List.mem_of_getElem? (i := 581) rfl, rfl⟩
set_option maxRecDepth 100000 in
theorem mw_582 : Cond.methodLink "DuctSizesModel" 94 yX4_isBelow ∈ dk_tbl := List.mem_filter.mpr ⟨List.mem_of_getElem? (i := 582) rfl, rfl⟩
set_option maxRecDepth 100000 in
theorem mw_584 : Cond.instanceMethod yX4_isBelow ∈ dk_tbl := List.mem_filter.mpr ⟨List.mem_of_getElem? (i := 584) rfl, rfl⟩
set_option maxRecDepth 100000 in
theorem mw_585 : Cond.code yX4_isBelow prog_6_method_12_code 4 (some FieldType.boolean) ∈ dk_tbl := List.mem_filter.mpr ⟨List.mem_of_getElem? (i := 585) rfl, rfl⟩
set_option maxRecDepth 100000 in
theorem mw_590 : Cond.methodLink "DuctSizesModel" 104 yX4_speedOf ∈ dk_tbl := List.mem_filter.mpr ⟨List.mem_of_getElem? (i := 590) rfl, rfl⟩
set_option maxRecDepth 100000 in
theorem mw_592 : Cond.instanceMethod yX4_speedOf ∈ dk_tbl := List.mem_filter.mpr ⟨List.mem_of_getElem? (i := 592) rfl, rfl⟩
set_option maxRecDepth 100000 in
theorem mw_593 : Cond.code yX4_speedOf prog_6_method_15_code 3 (some FieldType.long) ∈ dk_tbl := List.mem_filter.mpr ⟨List.mem_of_getElem? (i := 593) rfl, rfl⟩
set_option maxRecDepth 100000 in
theorem mw_594 : Cond.methodLink "DuctSizesModel" 108 yX4_fallOf ∈ dk_tbl := List.mem_filter.mpr ⟨List.mem_of_getElem? (i := 594) rfl, rfl⟩
set_option maxRecDepth 100000 in
theorem mw_596 : Cond.instanceMethod yX4_fallOf ∈ dk_tbl := List.mem_filter.mpr ⟨List.mem_of_getElem? (i := 596) rfl, rfl⟩
set_option maxRecDepth 100000 in
theorem mw_597 : Cond.code yX4_fallOf prog_6_method_16_code 7 (some FieldType.long) ∈ dk_tbl := List.mem_filter.mpr ⟨List.mem_of_getElem? (i := 597) rfl, rfl⟩
set_option maxRecDepth 100000 in
theorem mw_598 : Cond.constantLong "DuctSizesModel" 102 (1000000 : Int64) ∈ dk_tbl := List.mem_filter.mpr ⟨List.mem_of_getElem? (i := 598) rfl, rfl⟩
set_option maxRecDepth 100000 in
theorem mw_603 : Cond.methodLink "DuctSizesModel" 137 yX4_findBest ∈ dk_tbl := List.mem_filter.mpr ⟨List.mem_of_getElem? (i := 603) rfl, rfl⟩
set_option maxRecDepth 100000 in
theorem mw_605 : Cond.instanceMethod yX4_findBest ∈ dk_tbl := List.mem_filter.mpr ⟨List.mem_of_getElem? (i := 605) rfl, rfl⟩
set_option maxRecDepth 100000 in
theorem mw_606 : Cond.code yX4_findBest prog_6_method_22_code 10 (none : Option FieldType) ∈ dk_tbl := List.mem_filter.mpr ⟨List.mem_of_getElem? (i := 606) rfl, rfl⟩
set_option maxRecDepth 100000 in
theorem mw_607 : Cond.methodLink "DuctSizesModel" 117 yX4_findFalls ∈ dk_tbl := List.mem_filter.mpr ⟨List.mem_of_getElem? (i := 607) rfl, rfl⟩
set_option maxRecDepth 100000 in
theorem mw_609 : Cond.instanceMethod yX4_findFalls ∈ dk_tbl := List.mem_filter.mpr ⟨List.mem_of_getElem? (i := 609) rfl, rfl⟩
set_option maxRecDepth 100000 in
theorem mw_610 : Cond.code yX4_findFalls prog_6_method_18_code 3 (none : Option FieldType) ∈ dk_tbl := List.mem_filter.mpr ⟨List.mem_of_getElem? (i := 610) rfl, rfl⟩
set_option maxRecDepth 100000 in
theorem mw_611 : Cond.constantLong "DuctSizesModel" 111 (-1 : Int64) ∈ dk_tbl := List.mem_filter.mpr ⟨List.mem_of_getElem? (i := 611) rfl, rfl⟩
set_option maxRecDepth 100000 in
theorem mw_612 : Cond.methodLink "DuctSizesModel" 120 yX4_ways ∈ dk_tbl := List.mem_filter.mpr ⟨List.mem_of_getElem? (i := 612) rfl, rfl⟩
set_option maxRecDepth 100000 in
theorem mw_614 : Cond.instanceMethod yX4_ways ∈ dk_tbl := List.mem_filter.mpr ⟨List.mem_of_getElem? (i := 614) rfl, rfl⟩
set_option maxRecDepth 100000 in
theorem mw_615 : Cond.code yX4_ways prog_6_method_19_code 3 (some FieldType.int) ∈ dk_tbl := List.mem_filter.mpr ⟨List.mem_of_getElem? (i := 615) rfl, rfl⟩
set_option maxRecDepth 100000 in
theorem mw_616 : Cond.methodLink "DuctSizesModel" 123 yX4_look ∈ dk_tbl := List.mem_filter.mpr ⟨List.mem_of_getElem? (i := 616) rfl, rfl⟩
set_option maxRecDepth 100000 in
theorem mw_618 : Cond.instanceMethod yX4_look ∈ dk_tbl := List.mem_filter.mpr ⟨List.mem_of_getElem? (i := 618) rfl, rfl⟩
set_option maxRecDepth 100000 in
theorem mw_619 : Cond.code yX4_look prog_6_method_20_code 8 (some FieldType.long) ∈ dk_tbl := List.mem_filter.mpr ⟨List.mem_of_getElem? (i := 619) rfl, rfl⟩
set_option maxRecDepth 100000 in
theorem mw_620 : Cond.methodLink "DuctSizesModel" 126 yX4_price ∈ dk_tbl := List.mem_filter.mpr ⟨List.mem_of_getElem? (i := 620) rfl, rfl⟩
set_option maxRecDepth 100000 in
theorem mw_622 : Cond.instanceMethod yX4_price ∈ dk_tbl := List.mem_filter.mpr ⟨List.mem_of_getElem? (i := 622) rfl, rfl⟩
set_option maxRecDepth 100000 in
theorem mw_623 : Cond.code yX4_price prog_6_method_21_code 4 (some FieldType.long) ∈ dk_tbl := List.mem_filter.mpr ⟨List.mem_of_getElem? (i := 623) rfl, rfl⟩
