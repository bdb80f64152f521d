/-! WORDS: each word that the rows use, at its place -/
theorem mw_22 : Cond.initialized "DuctSizesLaw" ∈ dk_tbl := List.mem_filter.mpr ⟨List.mem_of_getElem? (i := 22) rfl, rfl⟩
theorem mw_171 : Cond.methodLink "DuctSizesLaw" 79 yX3_gives ∈ dk_tbl := List.mem_filter.mpr ⟨List.mem_of_getElem? (i := 171) rfl, rfl⟩
theorem mw_183 : Cond.methodLink "DuctSizesLaw" 105 yX3_worst ∈ dk_tbl := List.mem_filter.mpr ⟨List.mem_of_getElem? (i := 183) rfl, rfl⟩
theorem mw_184 : Cond.instanceMethod yX3_worst ∈ dk_tbl := List.mem_filter.mpr ⟨List.mem_of_getElem? (i := 184) rfl, rfl⟩
theorem mw_185 : Cond.selects "DuctSizes" yX3_worst yX3_worst ∈ dk_tbl := List.mem_filter.mpr ⟨List.mem_of_getElem? (i := 185) rfl, rfl⟩
theorem mw_186 : Cond.code yX3_worst prog_1_method_15_code 2 (some FieldType.int) ∈ dk_tbl := List.mem_filter.mpr ⟨List.mem_of_getElem? (i := 186) rfl, rfl⟩
theorem mw_245 : Cond.methodLink "DuctSizesLaw" 56 yL_duct ∈ dk_tbl := List.mem_filter.mpr ⟨List.mem_of_getElem? (i := 245) rfl, rfl⟩
theorem mw_246 : Cond.static yL_duct ∈ dk_tbl := List.mem_filter.mpr ⟨List.mem_of_getElem? (i := 246) rfl, rfl⟩
theorem mw_247 : Cond.codeWith yL_duct method_3_code 6 (some FieldType.int) [(0, 12, 15, 13), (0, 12, 19, 15)] ∈ dk_tbl := List.mem_filter.mpr ⟨List.mem_of_getElem? (i := 247) rfl, rfl⟩
theorem mw_344 : Cond.methodLink "DuctSizesLaw" 66 yL_need ∈ dk_tbl := List.mem_filter.mpr ⟨List.mem_of_getElem? (i := 344) rfl, rfl⟩
theorem mw_345 : Cond.static yL_need ∈ dk_tbl := List.mem_filter.mpr ⟨List.mem_of_getElem? (i := 345) rfl, rfl⟩
theorem mw_346 : Cond.codeWith yL_need method_4_code 5 (some FieldType.int) [(0, 10, 13, 13)] ∈ dk_tbl := List.mem_filter.mpr ⟨List.mem_of_getElem? (i := 346) rfl, rfl⟩
theorem mw_359 : Cond.methodLink "DuctSizesLaw" 70 yL_size ∈ dk_tbl := List.mem_filter.mpr ⟨List.mem_of_getElem? (i := 359) rfl, rfl⟩
theorem mw_360 : Cond.static yL_size ∈ dk_tbl := List.mem_filter.mpr ⟨List.mem_of_getElem? (i := 360) rfl, rfl⟩
theorem mw_361 : Cond.codeWith yL_size method_5_code 5 (some FieldType.int) [(0, 10, 13, 13), (0, 10, 17, 15)] ∈ dk_tbl := List.mem_filter.mpr ⟨List.mem_of_getElem? (i := 361) rfl, rfl⟩
theorem mw_371 : Cond.methodLink "DuctSizesLaw" 73 yL_set ∈ dk_tbl := List.mem_filter.mpr ⟨List.mem_of_getElem? (i := 371) rfl, rfl⟩
theorem mw_372 : Cond.static yL_set ∈ dk_tbl := List.mem_filter.mpr ⟨List.mem_of_getElem? (i := 372) rfl, rfl⟩
theorem mw_373 : Cond.codeWith yL_set method_6_code 5 (some FieldType.int) [(0, 10, 13, 13)] ∈ dk_tbl := List.mem_filter.mpr ⟨List.mem_of_getElem? (i := 373) rfl, rfl⟩
theorem mw_387 : Cond.methodLink "DuctSizesLaw" 76 yL_fan ∈ dk_tbl := List.mem_filter.mpr ⟨List.mem_of_getElem? (i := 387) rfl, rfl⟩
theorem mw_388 : Cond.static yL_fan ∈ dk_tbl := List.mem_filter.mpr ⟨List.mem_of_getElem? (i := 388) rfl, rfl⟩
theorem mw_389 : Cond.codeWith yL_fan method_7_code 5 (some FieldType.int) [(0, 10, 13, 13), (0, 10, 17, 15)] ∈ dk_tbl := List.mem_filter.mpr ⟨List.mem_of_getElem? (i := 389) rfl, rfl⟩
theorem mw_403 : Cond.methodLink "DuctSizesLaw" 83 yL_flow ∈ dk_tbl := List.mem_filter.mpr ⟨List.mem_of_getElem? (i := 403) rfl, rfl⟩
theorem mw_404 : Cond.static yL_flow ∈ dk_tbl := List.mem_filter.mpr ⟨List.mem_of_getElem? (i := 404) rfl, rfl⟩
theorem mw_405 : Cond.codeWith yL_flow method_8_code 4 (some FieldType.int) [(0, 9, 12, 13)] ∈ dk_tbl := List.mem_filter.mpr ⟨List.mem_of_getElem? (i := 405) rfl, rfl⟩
theorem mw_410 : Cond.methodLink "DuctSizesLaw" 87 yL_told ∈ dk_tbl := List.mem_filter.mpr ⟨List.mem_of_getElem? (i := 410) rfl, rfl⟩
theorem mw_411 : Cond.static yL_told ∈ dk_tbl := List.mem_filter.mpr ⟨List.mem_of_getElem? (i := 411) rfl, rfl⟩
theorem mw_412 : Cond.codeWith yL_told method_9_code 6 (some FieldType.int) [(0, 12, 15, 13)] ∈ dk_tbl := List.mem_filter.mpr ⟨List.mem_of_getElem? (i := 412) rfl, rfl⟩
theorem mw_419 : Cond.methodLink "DuctSizesLaw" 90 yL_best ∈ dk_tbl := List.mem_filter.mpr ⟨List.mem_of_getElem? (i := 419) rfl, rfl⟩
theorem mw_420 : Cond.static yL_best ∈ dk_tbl := List.mem_filter.mpr ⟨List.mem_of_getElem? (i := 420) rfl, rfl⟩
theorem mw_421 : Cond.codeWith yL_best method_10_code 4 (some FieldType.int) [(0, 9, 12, 13)] ∈ dk_tbl := List.mem_filter.mpr ⟨List.mem_of_getElem? (i := 421) rfl, rfl⟩
theorem mw_426 : Cond.methodLink "DuctSizesLaw" 93 yL_chosen ∈ dk_tbl := List.mem_filter.mpr ⟨List.mem_of_getElem? (i := 426) rfl, rfl⟩
theorem mw_427 : Cond.static yL_chosen ∈ dk_tbl := List.mem_filter.mpr ⟨List.mem_of_getElem? (i := 427) rfl, rfl⟩
theorem mw_428 : Cond.codeWith yL_chosen method_11_code 4 (some FieldType.int) [(0, 9, 12, 13)] ∈ dk_tbl := List.mem_filter.mpr ⟨List.mem_of_getElem? (i := 428) rfl, rfl⟩
theorem mw_433 : Cond.methodLink "DuctSizesLaw" 96 yL_pressure ∈ dk_tbl := List.mem_filter.mpr ⟨List.mem_of_getElem? (i := 433) rfl, rfl⟩
theorem mw_434 : Cond.static yL_pressure ∈ dk_tbl := List.mem_filter.mpr ⟨List.mem_of_getElem? (i := 434) rfl, rfl⟩
theorem mw_435 : Cond.codeWith yL_pressure method_12_code 4 (some FieldType.int) [(0, 9, 12, 13)] ∈ dk_tbl := List.mem_filter.mpr ⟨List.mem_of_getElem? (i := 435) rfl, rfl⟩
theorem mw_440 : Cond.methodLink "DuctSizesLaw" 99 yL_damper ∈ dk_tbl := List.mem_filter.mpr ⟨List.mem_of_getElem? (i := 440) rfl, rfl⟩
theorem mw_441 : Cond.static yL_damper ∈ dk_tbl := List.mem_filter.mpr ⟨List.mem_of_getElem? (i := 441) rfl, rfl⟩
theorem mw_442 : Cond.codeWith yL_damper method_13_code 4 (some FieldType.int) [(0, 9, 12, 13)] ∈ dk_tbl := List.mem_filter.mpr ⟨List.mem_of_getElem? (i := 442) rfl, rfl⟩
theorem mw_447 : Cond.methodLink "DuctSizesLaw" 102 yL_least ∈ dk_tbl := List.mem_filter.mpr ⟨List.mem_of_getElem? (i := 447) rfl, rfl⟩
theorem mw_448 : Cond.static yL_least ∈ dk_tbl := List.mem_filter.mpr ⟨List.mem_of_getElem? (i := 448) rfl, rfl⟩
theorem mw_449 : Cond.codeWith yL_least method_14_code 4 (some FieldType.int) [(0, 9, 12, 13)] ∈ dk_tbl := List.mem_filter.mpr ⟨List.mem_of_getElem? (i := 449) rfl, rfl⟩
set_option maxRecDepth 100000 in
theorem mw_529 : Cond.methodLink "DuctSizesLaw" 62 yX4_thrown ∈ dk_tbl := List.mem_filter.mpr ⟨List.mem_of_getElem? (i := 529) rfl, rfl⟩
set_option maxRecDepth 100000 in
theorem mw_530 : Cond.instanceMethod yX4_thrown ∈ dk_tbl := List.mem_filter.mpr ⟨List.mem_of_getElem? (i := 530) rfl, rfl⟩
set_option maxRecDepth 100000 in
theorem mw_531 : Cond.selects "DuctSizesModel" yX4_thrown yX4_thrown ∈ dk_tbl := List.mem_filter.mpr ⟨List.mem_of_getElem? (i := 531) rfl, rfl⟩
set_option maxRecDepth 100000 in
theorem mw_532 : Cond.code yX4_thrown prog_6_method_2_code 1 (some FieldType.int) ∈ dk_tbl := List.mem_filter.mpr ⟨List.mem_of_getElem? (i := 532) rfl, rfl⟩
set_option maxRecDepth 100000 in
theorem mw_533 : Cond.methodLink "DuctSizesLaw" 61 yX4_duct ∈ dk_tbl := List.mem_filter.mpr ⟨List.mem_of_getElem? (i := 533) rfl, rfl⟩
set_option maxRecDepth 100000 in
theorem mw_534 : Cond.instanceMethod yX4_duct ∈ dk_tbl := List.mem_filter.mpr ⟨List.mem_of_getElem? (i := 534) rfl, rfl⟩
set_option maxRecDepth 100000 in
theorem mw_535 : Cond.selects "DuctSizesModel" yX4_duct yX4_duct ∈ dk_tbl := List.mem_filter.mpr ⟨List.mem_of_getElem? (i := 535) rfl, rfl⟩
set_option maxRecDepth 100000 in
theorem mw_536 : Cond.code yX4_duct prog_6_method_5_code 4 (some FieldType.int) ∈ dk_tbl := List.mem_filter.mpr ⟨List.mem_of_getElem? (i := 536) rfl, rfl⟩
set_option maxRecDepth 100000 in
theorem mw_542 : Cond.methodLink "DuctSizesLaw" 69 yX4_need ∈ dk_tbl := List.mem_filter.mpr ⟨List.mem_of_getElem? (i := 542) rfl, rfl⟩
set_option maxRecDepth 100000 in
theorem mw_543 : Cond.instanceMethod yX4_need ∈ dk_tbl := List.mem_filter.mpr ⟨List.mem_of_getElem? (i := 543) rfl, rfl⟩
set_option maxRecDepth 100000 in
theorem mw_544 : Cond.selects "DuctSizesModel" yX4_need yX4_need ∈ dk_tbl := List.mem_filter.mpr ⟨List.mem_of_getElem? (i := 544) rfl, rfl⟩
set_option maxRecDepth 100000 in
theorem mw_545 : Cond.code yX4_need prog_6_method_6_code 4 (some FieldType.int) ∈ dk_tbl := List.mem_filter.mpr ⟨List.mem_of_getElem? (i := 545) rfl, rfl⟩
set_option maxRecDepth 100000 in
theorem mw_551 : Cond.methodLink "DuctSizesLaw" 72 yX4_size ∈ dk_tbl := List.mem_filter.mpr ⟨List.mem_of_getElem? (i := 551) rfl, rfl⟩
set_option maxRecDepth 100000 in
theorem mw_552 : Cond.instanceMethod yX4_size ∈ dk_tbl := List.mem_filter.mpr ⟨List.mem_of_getElem? (i := 552) rfl, rfl⟩
set_option maxRecDepth 100000 in
theorem mw_553 : Cond.selects "DuctSizesModel" yX4_size yX4_size ∈ dk_tbl := List.mem_filter.mpr ⟨List.mem_of_getElem? (i := 553) rfl, rfl⟩
set_option maxRecDepth 100000 in
theorem mw_554 : Cond.code yX4_size prog_6_method_7_code 3 (some FieldType.int) ∈ dk_tbl := List.mem_filter.mpr ⟨List.mem_of_getElem? (i := 554) rfl, rfl⟩
set_option maxRecDepth 100000 in
theorem mw_555 : Cond.methodLink "DuctSizesLaw" 75 yX4_set ∈ dk_tbl := List.mem_filter.mpr ⟨List.mem_of_getElem? (i := 555) rfl, rfl⟩
set_option maxRecDepth 100000 in
theorem mw_556 : Cond.instanceMethod yX4_set ∈ dk_tbl := List.mem_filter.mpr ⟨List.mem_of_getElem? (i := 556) rfl, rfl⟩
set_option maxRecDepth 100000 in
theorem mw_557 : Cond.selects "DuctSizesModel" yX4_set yX4_set ∈ dk_tbl := List.mem_filter.mpr ⟨List.mem_of_getElem? (i := 557) rfl, rfl⟩
set_option maxRecDepth 100000 in
theorem mw_558 : Cond.code yX4_set prog_6_method_8_code 4 (some FieldType.int) ∈ dk_tbl := List.mem_filter.mpr ⟨List.mem_of_getElem? (i := 558) rfl, rfl⟩
set_option maxRecDepth 100000 in
theorem mw_560 : Cond.methodLink "DuctSizesLaw" 78 yX4_fan ∈ dk_tbl := List.mem_filter.mpr ⟨List.mem_of_getElem? (i := 560) rfl, rfl⟩
set_option maxRecDepth 100000 in
theorem mw_561 : Cond.instanceMethod yX4_fan ∈ dk_tbl := List.mem_filter.mpr ⟨List.mem_of_getElem? (i := 561) rfl, rfl⟩
set_option maxRecDepth 100000 in
theorem mw_562 : Cond.selects "DuctSizesModel" yX4_fan yX4_fan ∈ dk_tbl := List.mem_filter.mpr ⟨List.mem_of_getElem? (i := 562) rfl, rfl⟩
set_option maxRecDepth 100000 in
theorem mw_563 : Cond.code yX4_fan prog_6_method_9_code 4 (some FieldType.int) ∈ dk_tbl := List.mem_filter.mpr ⟨List.mem_of_getElem? (i := 563) rfl, rfl⟩
set_option maxRecDepth 100000 in
theorem mw_566 : Cond.methodLink "DuctSizesLaw" 82 yX4_gives ∈ dk_tbl := List.mem_filter.mpr ⟨List.mem_of_getElem? (i := 566) rfl, rfl⟩
set_option maxRecDepth 100000 in
theorem mw_567 : Cond.instanceMethod yX4_gives ∈ dk_tbl := List.mem_filter.mpr ⟨List.mem_of_getElem? (i := 567) rfl, rfl⟩
set_option maxRecDepth 100000 in
theorem mw_568 : Cond.selects "DuctSizesModel" yX4_gives yX4_gives ∈ dk_tbl := List.mem_filter.mpr ⟨List.mem_of_getElem? (i := 568) rfl, rfl⟩
set_option maxRecDepth 100000 in
theorem mw_569 : Cond.code yX4_gives prog_6_method_11_code 1 (some FieldType.int) ∈ dk_tbl := List.mem_filter.mpr ⟨List.mem_of_getElem? (i := 569) rfl, rfl⟩
set_option maxRecDepth 100000 in
theorem mw_574 : Cond.methodLink "DuctSizesLaw" 86 yX4_flow ∈ dk_tbl := List.mem_filter.mpr ⟨List.mem_of_getElem? (i := 574) rfl, rfl⟩
set_option maxRecDepth 100000 in
theorem mw_575 : Cond.instanceMethod yX4_flow ∈ dk_tbl := List.mem_filter.mpr ⟨List.mem_of_getElem? (i := 575) rfl, rfl⟩
set_option maxRecDepth 100000 in
theorem mw_576 : Cond.selects "DuctSizesModel" yX4_flow yX4_flow ∈ dk_tbl := List.mem_filter.mpr ⟨List.mem_of_getElem? (i := 576) rfl, rfl⟩
set_option maxRecDepth 100000 in
theorem mw_577 : Cond.code yX4_flow prog_6_method_14_code 2 (some FieldType.int) ∈ dk_tbl := List.mem_filter.mpr ⟨List.mem_of_getElem? (i := 577) rfl, rfl⟩
set_option maxRecDepth 100000 in
theorem mw_586 : Cond.methodLink "DuctSizesLaw" 89 yX4_told ∈ dk_tbl := List.mem_filter.mpr ⟨List.mem_of_getElem? (i := 586) rfl, rfl⟩
set_option maxRecDepth 100000 in
theorem mw_587 : Cond.instanceMethod yX4_told ∈ dk_tbl := List.mem_filter.mpr ⟨List.mem_of_getElem? (i := 587) rfl, rfl⟩
set_option maxRecDepth 100000 in
theorem mw_588 : Cond.selects "DuctSizesModel" yX4_told yX4_told ∈ dk_tbl := List.mem_filter.mpr ⟨List.mem_of_getElem? (i := 588) rfl, rfl⟩
set_option maxRecDepth 100000 in
theorem mw_589 : Cond.code yX4_told prog_6_method_17_code 4 (some FieldType.int) ∈ dk_tbl := List.mem_filter.mpr ⟨List.mem_of_getElem? (i := 589) rfl, rfl⟩
set_option maxRecDepth 100000 in
theorem mw_599 : Cond.methodLink "DuctSizesLaw" 92 yX4_best ∈ dk_tbl := List.mem_filter.mpr ⟨List.mem_of_getElem? (i := 599) rfl, rfl⟩
set_option maxRecDepth 100000 in
theorem mw_600 : Cond.instanceMethod yX4_best ∈ dk_tbl := List.mem_filter.mpr ⟨List.mem_of_getElem? (i := 600) rfl, rfl⟩
set_option maxRecDepth 100000 in
theorem mw_601 : Cond.selects "DuctSizesModel" yX4_best yX4_best ∈ dk_tbl := List.mem_filter.mpr ⟨List.mem_of_getElem? (i := 601) rfl, rfl⟩
set_option maxRecDepth 100000 in
theorem mw_602 : Cond.code yX4_best prog_6_method_23_code 2 (some FieldType.int) ∈ dk_tbl := List.mem_filter.mpr ⟨List.mem_of_getElem? (i := 602) rfl, rfl⟩
set_option maxRecDepth 100000 in
theorem mw_624 : Cond.methodLink "DuctSizesLaw" 95 yX4_chosen ∈ dk_tbl := List.mem_filter.mpr ⟨List.mem_of_getElem? (i := 624) rfl, rfl⟩
set_option maxRecDepth 100000 in
theorem mw_625 : Cond.instanceMethod yX4_chosen ∈ dk_tbl := List.mem_filter.mpr ⟨List.mem_of_getElem? (i := 625) rfl, rfl⟩
set_option maxRecDepth 100000 in
theorem mw_626 : Cond.selects "DuctSizesModel" yX4_chosen yX4_chosen ∈ dk_tbl := List.mem_filter.mpr ⟨List.mem_of_getElem? (i := 626) rfl, rfl⟩
set_option maxRecDepth 100000 in
theorem mw_627 : Cond.code yX4_chosen prog_6_method_24_code 2 (some FieldType.int) ∈ dk_tbl := List.mem_filter.mpr ⟨List.mem_of_getElem? (i := 627) rfl, rfl⟩
set_option maxRecDepth 100000 in
theorem mw_628 : Cond.methodLink "DuctSizesLaw" 98 yX4_pressure ∈ dk_tbl := List.mem_filter.mpr ⟨List.mem_of_getElem? (i := 628) rfl, rfl⟩
set_option maxRecDepth 100000 in
theorem mw_629 : Cond.instanceMethod yX4_pressure ∈ dk_tbl := List.mem_filter.mpr ⟨List.mem_of_getElem? (i := 629) rfl, rfl⟩
set_option maxRecDepth 100000 in
theorem mw_630 : Cond.selects "DuctSizesModel" yX4_pressure yX4_pressure ∈ dk_tbl := List.mem_filter.mpr ⟨List.mem_of_getElem? (i := 630) rfl, rfl⟩
set_option maxRecDepth 100000 in
theorem mw_631 : Cond.code yX4_pressure prog_6_method_25_code 2 (some FieldType.int) ∈ dk_tbl := List.mem_filter.mpr ⟨List.mem_of_getElem? (i := 631) rfl, rfl⟩
set_option maxRecDepth 100000 in
theorem mw_632 : Cond.methodLink "DuctSizesLaw" 101 yX4_damper ∈ dk_tbl := List.mem_filter.mpr ⟨List.mem_of_getElem? (i := 632) rfl, rfl⟩
set_option maxRecDepth 100000 in
theorem mw_633 : Cond.instanceMethod yX4_damper ∈ dk_tbl := List.mem_filter.mpr ⟨List.mem_of_getElem? (i := 633) rfl, rfl⟩
set_option maxRecDepth 100000 in
theorem mw_634 : Cond.selects "DuctSizesModel" yX4_damper yX4_damper ∈ dk_tbl := List.mem_filter.mpr ⟨List.mem_of_getElem? (i := 634) rfl, rfl⟩
set_option maxRecDepth 100000 in
theorem mw_635 : Cond.code yX4_damper prog_6_method_26_code 2 (some FieldType.int) ∈ dk_tbl := List.mem_filter.mpr ⟨List.mem_of_getElem? (i := 635) rfl, rfl⟩
set_option maxRecDepth 100000 in
theorem mw_636 : Cond.methodLink "DuctSizesLaw" 104 yX4_least ∈ dk_tbl := List.mem_filter.mpr ⟨List.mem_of_getElem? (i := 636) rfl, rfl⟩
set_option maxRecDepth 100000 in
theorem mw_637 : Cond.instanceMethod yX4_least ∈ dk_tbl := List.mem_filter.mpr ⟨List.mem_of_getElem? (i := 637) rfl, rfl⟩
set_option maxRecDepth 100000 in
theorem mw_638 : Cond.selects "DuctSizesModel" yX4_least yX4_least ∈ dk_tbl := List.mem_filter.mpr ⟨List.mem_of_getElem? (i := 638) rfl, rfl⟩
set_option maxRecDepth 100000 in
theorem mw_639 : Cond.code yX4_least prog_6_method_27_code 8 (some FieldType.int) ∈ dk_tbl := List.mem_filter.mpr ⟨List.mem_of_getElem? (i := 639) rfl, rfl⟩
set_option maxRecDepth 100000 in
theorem mw_640 : Cond.methodLink "DuctSizesLaw" 108 yX4_worst ∈ dk_tbl := List.mem_filter.mpr ⟨List.mem_of_getElem? (i := 640) rfl, rfl⟩
set_option maxRecDepth 100000 in
theorem mw_641 : Cond.instanceMethod yX4_worst ∈ dk_tbl := List.mem_filter.mpr ⟨List.mem_of_getElem? (i := 641) rfl, rfl⟩
set_option maxRecDepth 100000 in
theorem mw_642 : Cond.selects "DuctSizesModel" yX4_worst yX4_worst ∈ dk_tbl := List.mem_filter.mpr ⟨List.mem_of_getElem? (i := 642) rfl, rfl⟩
set_option maxRecDepth 100000 in
theorem mw_643 : Cond.code yX4_worst prog_6_method_28_code 2 (some FieldType.int) ∈ dk_tbl := List.mem_filter.mpr ⟨List.mem_of_getElem? (i := 643) rfl, rfl⟩
