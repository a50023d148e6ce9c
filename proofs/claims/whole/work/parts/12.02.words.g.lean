set_option maxRecDepth 100000 in
theorem wd_462 : (Jvm.Cond.selects "HoleWater$Open" ({ cls := "HoleWater$Way", name := "kind", desc := "()I" } : Jvm.MethodName) ({ cls := "HoleWater$Open", name := "kind", desc := "()I" } : Jvm.MethodName)) ∈ mh_T := mh_T_in (List.mem_append_right _ (List.mem_of_getElem? (i := 462) (by decide +kernel))) (by decide +kernel)
set_option maxRecDepth 100000 in
theorem wd_463 : (Jvm.Cond.instanceMethod ({ cls := "HoleWater$Open", name := "kind", desc := "()I" } : Jvm.MethodName)) ∈ mh_T := mh_T_in (List.mem_append_right _ (List.mem_of_getElem? (i := 463) (by decide +kernel))) (by decide +kernel)
set_option maxRecDepth 100000 in
theorem wd_464 : (Jvm.Cond.code ({ cls := "HoleWater$Open", name := "kind", desc := "()I" } : Jvm.MethodName) prog_4_method_2_code (1 : Nat) (Option.some Jvm.ClassFile.FieldType.int)) ∈ mh_T := mh_T_in (List.mem_append_right _ (List.mem_of_getElem? (i := 464) (by decide +kernel))) (by decide +kernel)
set_option maxRecDepth 100000 in
theorem wd_465 : (Jvm.Cond.selects "HoleWater$Overflow" ({ cls := "HoleWater$Way", name := "kind", desc := "()I" } : Jvm.MethodName) ({ cls := "HoleWater$Overflow", name := "kind", desc := "()I" } : Jvm.MethodName)) ∈ mh_T := mh_T_in (List.mem_append_right _ (List.mem_of_getElem? (i := 465) (by decide +kernel))) (by decide +kernel)
set_option maxRecDepth 100000 in
theorem wd_466 : (Jvm.Cond.instanceMethod ({ cls := "HoleWater$Overflow", name := "kind", desc := "()I" } : Jvm.MethodName)) ∈ mh_T := mh_T_in (List.mem_append_right _ (List.mem_of_getElem? (i := 466) (by decide +kernel))) (by decide +kernel)
set_option maxRecDepth 100000 in
theorem wd_467 : (Jvm.Cond.code ({ cls := "HoleWater$Overflow", name := "kind", desc := "()I" } : Jvm.MethodName) prog_5_method_2_code (1 : Nat) (Option.some Jvm.ClassFile.FieldType.int)) ∈ mh_T := mh_T_in (List.mem_append_right _ (List.mem_of_getElem? (i := 467) (by decide +kernel))) (by decide +kernel)
set_option maxRecDepth 100000 in
theorem wd_468 : (Jvm.Cond.selects "HoleWater$Pool" ({ cls := "HoleWater$Way", name := "kind", desc := "()I" } : Jvm.MethodName) ({ cls := "HoleWater$Pool", name := "kind", desc := "()I" } : Jvm.MethodName)) ∈ mh_T := mh_T_in (List.mem_append_right _ (List.mem_of_getElem? (i := 468) (by decide +kernel))) (by decide +kernel)
set_option maxRecDepth 100000 in
theorem wd_469 : (Jvm.Cond.instanceMethod ({ cls := "HoleWater$Pool", name := "kind", desc := "()I" } : Jvm.MethodName)) ∈ mh_T := mh_T_in (List.mem_append_right _ (List.mem_of_getElem? (i := 469) (by decide +kernel))) (by decide +kernel)
set_option maxRecDepth 100000 in
theorem wd_470 : (Jvm.Cond.code ({ cls := "HoleWater$Pool", name := "kind", desc := "()I" } : Jvm.MethodName) prog_6_method_2_code (1 : Nat) (Option.some Jvm.ClassFile.FieldType.int)) ∈ mh_T := mh_T_in (List.mem_append_right _ (List.mem_of_getElem? (i := 470) (by decide +kernel))) (by decide +kernel)
set_option maxRecDepth 100000 in
theorem wd_471 : (Jvm.Cond.selects "HoleWater$Sieve" ({ cls := "HoleWater$Way", name := "kind", desc := "()I" } : Jvm.MethodName) ({ cls := "HoleWater$Sieve", name := "kind", desc := "()I" } : Jvm.MethodName)) ∈ mh_T := mh_T_in (List.mem_append_right _ (List.mem_of_getElem? (i := 471) (by decide +kernel))) (by decide +kernel)
set_option maxRecDepth 100000 in
theorem wd_472 : (Jvm.Cond.instanceMethod ({ cls := "HoleWater$Sieve", name := "kind", desc := "()I" } : Jvm.MethodName)) ∈ mh_T := mh_T_in (List.mem_append_right _ (List.mem_of_getElem? (i := 472) (by decide +kernel))) (by decide +kernel)
set_option maxRecDepth 100000 in
theorem wd_473 : (Jvm.Cond.code ({ cls := "HoleWater$Sieve", name := "kind", desc := "()I" } : Jvm.MethodName) prog_9_method_2_code (1 : Nat) (Option.some Jvm.ClassFile.FieldType.int)) ∈ mh_T := mh_T_in (List.mem_append_right _ (List.mem_of_getElem? (i := 473) (by decide +kernel))) (by decide +kernel)
set_option maxRecDepth 100000 in
theorem wd_474 : (Jvm.Cond.code ({ cls := "HoleWater$Way", name := "kind", desc := "()I" } : Jvm.MethodName) prog_11_method_2_code (1 : Nat) (Option.some Jvm.ClassFile.FieldType.int)) ∈ mh_T := mh_T_in (List.mem_append_right _ (List.mem_of_getElem? (i := 474) (by decide +kernel))) (by decide +kernel)
set_option maxRecDepth 100000 in
theorem wd_475 : (Jvm.Cond.methodLink "HoleWater" (159 : Nat) ({ cls := "HoleWater$Water", name := "inWay", desc := "(II)I" } : Jvm.MethodName)) ∈ mh_T := mh_T_in (List.mem_append_right _ (List.mem_of_getElem? (i := 475) (by decide +kernel))) (by decide +kernel)
set_option maxRecDepth 100000 in
theorem wd_476 : (Jvm.Cond.instanceMethod ({ cls := "HoleWater$Water", name := "inWay", desc := "(II)I" } : Jvm.MethodName)) ∈ mh_T := mh_T_in (List.mem_append_right _ (List.mem_of_getElem? (i := 476) (by decide +kernel))) (by decide +kernel)
set_option maxRecDepth 100000 in
theorem wd_477 : (Jvm.Cond.selects "HoleWater$Water" ({ cls := "HoleWater$Water", name := "inWay", desc := "(II)I" } : Jvm.MethodName) ({ cls := "HoleWater$Water", name := "inWay", desc := "(II)I" } : Jvm.MethodName)) ∈ mh_T := mh_T_in (List.mem_append_right _ (List.mem_of_getElem? (i := 477) (by decide +kernel))) (by decide +kernel)
set_option maxRecDepth 100000 in
theorem wd_478 : (Jvm.Cond.code ({ cls := "HoleWater$Water", name := "inWay", desc := "(II)I" } : Jvm.MethodName) prog_10_method_4_code (5 : Nat) (Option.some Jvm.ClassFile.FieldType.int)) ∈ mh_T := mh_T_in (List.mem_append_right _ (List.mem_of_getElem? (i := 478) (by decide +kernel))) (by decide +kernel)
set_option maxRecDepth 100000 in
theorem wd_479 : (Jvm.Cond.methodLink "HoleWaterLaw" (36 : Nat) ({ cls := "HoleWater", name := "hangs", desc := "(IZ)I" } : Jvm.MethodName)) ∈ mh_T := mh_T_in (List.mem_append_right _ (List.mem_of_getElem? (i := 479) (by decide +kernel))) (by decide +kernel)
set_option maxRecDepth 100000 in
theorem wd_480 : (Jvm.Cond.instanceMethod ({ cls := "HoleWater", name := "hangs", desc := "(IZ)I" } : Jvm.MethodName)) ∈ mh_T := mh_T_in (List.mem_append_right _ (List.mem_of_getElem? (i := 480) (by decide +kernel))) (by decide +kernel)
set_option maxRecDepth 100000 in
theorem wd_481 : (Jvm.Cond.selects "HoleWater" ({ cls := "HoleWater", name := "hangs", desc := "(IZ)I" } : Jvm.MethodName) ({ cls := "HoleWater", name := "hangs", desc := "(IZ)I" } : Jvm.MethodName)) ∈ mh_T := mh_T_in (List.mem_append_right _ (List.mem_of_getElem? (i := 481) (by decide +kernel))) (by decide +kernel)
set_option maxRecDepth 100000 in
theorem wd_482 : (Jvm.Cond.code ({ cls := "HoleWater", name := "hangs", desc := "(IZ)I" } : Jvm.MethodName) prog_1_method_7_code (8 : Nat) (Option.some Jvm.ClassFile.FieldType.int)) ∈ mh_T := mh_T_in (List.mem_append_right _ (List.mem_of_getElem? (i := 482) (by decide +kernel))) (by decide +kernel)
set_option maxRecDepth 100000 in
theorem wd_483 : (Jvm.Cond.methodLink "HoleWater" (166 : Nat) ({ cls := "HoleWater$World", name := "bitsOf", desc := "(I)I" } : Jvm.MethodName)) ∈ mh_T := mh_T_in (List.mem_append_right _ (List.mem_of_getElem? (i := 483) (by decide +kernel))) (by decide +kernel)
set_option maxRecDepth 100000 in
theorem wd_484 : (Jvm.Cond.instanceMethod ({ cls := "HoleWater$World", name := "bitsOf", desc := "(I)I" } : Jvm.MethodName)) ∈ mh_T := mh_T_in (List.mem_append_right _ (List.mem_of_getElem? (i := 484) (by decide +kernel))) (by decide +kernel)
set_option maxRecDepth 100000 in
theorem wd_485 : (Jvm.Cond.selects "HoleWater$World" ({ cls := "HoleWater$World", name := "bitsOf", desc := "(I)I" } : Jvm.MethodName) ({ cls := "HoleWater$World", name := "bitsOf", desc := "(I)I" } : Jvm.MethodName)) ∈ mh_T := mh_T_in (List.mem_append_right _ (List.mem_of_getElem? (i := 485) (by decide +kernel))) (by decide +kernel)
set_option maxRecDepth 100000 in
theorem wd_486 : (Jvm.Cond.code ({ cls := "HoleWater$World", name := "bitsOf", desc := "(I)I" } : Jvm.MethodName) prog_12_method_7_code (4 : Nat) (Option.some Jvm.ClassFile.FieldType.int)) ∈ mh_T := mh_T_in (List.mem_append_right _ (List.mem_of_getElem? (i := 486) (by decide +kernel))) (by decide +kernel)
set_option maxRecDepth 100000 in
theorem wd_487 : (Jvm.Cond.methodLink "HoleWaterLaw" (41 : Nat) ({ cls := "HoleWater", name := "quick", desc := "(II)I" } : Jvm.MethodName)) ∈ mh_T := mh_T_in (List.mem_append_right _ (List.mem_of_getElem? (i := 487) (by decide +kernel))) (by decide +kernel)
set_option maxRecDepth 100000 in
theorem wd_488 : (Jvm.Cond.instanceMethod ({ cls := "HoleWater", name := "quick", desc := "(II)I" } : Jvm.MethodName)) ∈ mh_T := mh_T_in (List.mem_append_right _ (List.mem_of_getElem? (i := 488) (by decide +kernel))) (by decide +kernel)
set_option maxRecDepth 100000 in
theorem wd_489 : (Jvm.Cond.selects "HoleWater" ({ cls := "HoleWater", name := "quick", desc := "(II)I" } : Jvm.MethodName) ({ cls := "HoleWater", name := "quick", desc := "(II)I" } : Jvm.MethodName)) ∈ mh_T := mh_T_in (List.mem_append_right _ (List.mem_of_getElem? (i := 489) (by decide +kernel))) (by decide +kernel)
set_option maxRecDepth 100000 in
theorem wd_490 : (Jvm.Cond.code ({ cls := "HoleWater", name := "quick", desc := "(II)I" } : Jvm.MethodName) prog_1_method_8_code (5 : Nat) (Option.some Jvm.ClassFile.FieldType.int)) ∈ mh_T := mh_T_in (List.mem_append_right _ (List.mem_of_getElem? (i := 490) (by decide +kernel))) (by decide +kernel)
set_option maxRecDepth 100000 in
theorem wd_491 : (Jvm.Cond.methodLink "HoleWater" (169 : Nat) ({ cls := "java/util/Arrays", name := "fill", desc := "([II)V" } : Jvm.MethodName)) ∈ mh_T := mh_T_in (List.mem_append_right _ (List.mem_of_getElem? (i := 491) (by decide +kernel))) (by decide +kernel)
set_option maxRecDepth 100000 in
theorem wd_492 : (Jvm.Cond.static ({ cls := "java/util/Arrays", name := "fill", desc := "([II)V" } : Jvm.MethodName)) ∈ mh_T := mh_T_in (List.mem_append_right _ (List.mem_of_getElem? (i := 492) (by decide +kernel))) (by decide +kernel)
set_option maxRecDepth 100000 in
theorem wd_493 : (Jvm.Cond.code ({ cls := "java/util/Arrays", name := "fill", desc := "([II)V" } : Jvm.MethodName) prog_22_method_103_code (4 : Nat) (Option.none : Option Jvm.ClassFile.FieldType)) ∈ mh_T := mh_T_in (List.mem_append_right _ (List.mem_of_getElem? (i := 493) (by decide +kernel))) (by decide +kernel)
set_option maxRecDepth 100000 in
theorem wd_494 : (Jvm.Cond.methodLink "HoleWater" (175 : Nat) ({ cls := "HoleWater", name := "goAlong", desc := "(LHoleWater$Way;)V" } : Jvm.MethodName)) ∈ mh_T := mh_T_in (List.mem_append_right _ (List.mem_of_getElem? (i := 494) (by decide +kernel))) (by decide +kernel)
set_option maxRecDepth 100000 in
theorem wd_496 : (Jvm.Cond.instanceMethod ({ cls := "HoleWater", name := "goAlong", desc := "(LHoleWater$Way;)V" } : Jvm.MethodName)) ∈ mh_T := mh_T_in (List.mem_append_right _ (List.mem_of_getElem? (i := 496) (by decide +kernel))) (by decide +kernel)
set_option maxRecDepth 100000 in
theorem wd_497 : (Jvm.Cond.code ({ cls := "HoleWater", name := "goAlong", desc := "(LHoleWater$Way;)V" } : Jvm.MethodName) prog_1_method_57_code (3 : Nat) (Option.none : Option Jvm.ClassFile.FieldType)) ∈ mh_T := mh_T_in (List.mem_append_right _ (List.mem_of_getElem? (i := 497) (by decide +kernel))) (by decide +kernel)
set_option maxRecDepth 100000 in
theorem wd_498 : (Jvm.Cond.methodLink "HoleWaterLaw" (45 : Nat) ({ cls := "HoleWater", name := "flood", desc := "(Z)I" } : Jvm.MethodName)) ∈ mh_T := mh_T_in (List.mem_append_right _ (List.mem_of_getElem? (i := 498) (by decide +kernel))) (by decide +kernel)
set_option maxRecDepth 100000 in
theorem wd_499 : (Jvm.Cond.instanceMethod ({ cls := "HoleWater", name := "flood", desc := "(Z)I" } : Jvm.MethodName)) ∈ mh_T := mh_T_in (List.mem_append_right _ (List.mem_of_getElem? (i := 499) (by decide +kernel))) (by decide +kernel)
set_option maxRecDepth 100000 in
theorem wd_500 : (Jvm.Cond.selects "HoleWater" ({ cls := "HoleWater", name := "flood", desc := "(Z)I" } : Jvm.MethodName) ({ cls := "HoleWater", name := "flood", desc := "(Z)I" } : Jvm.MethodName)) ∈ mh_T := mh_T_in (List.mem_append_right _ (List.mem_of_getElem? (i := 500) (by decide +kernel))) (by decide +kernel)
set_option maxRecDepth 100000 in
theorem wd_501 : (Jvm.Cond.code ({ cls := "HoleWater", name := "flood", desc := "(Z)I" } : Jvm.MethodName) prog_1_method_9_code (3 : Nat) (Option.some Jvm.ClassFile.FieldType.int)) ∈ mh_T := mh_T_in (List.mem_append_right _ (List.mem_of_getElem? (i := 501) (by decide +kernel))) (by decide +kernel)
set_option maxRecDepth 100000 in
theorem wd_502 : (Jvm.Cond.methodLink "HoleWaterLaw" (50 : Nat) ({ cls := "HoleWater", name := "fade", desc := "(II)I" } : Jvm.MethodName)) ∈ mh_T := mh_T_in (List.mem_append_right _ (List.mem_of_getElem? (i := 502) (by decide +kernel))) (by decide +kernel)
set_option maxRecDepth 100000 in
theorem wd_503 : (Jvm.Cond.instanceMethod ({ cls := "HoleWater", name := "fade", desc := "(II)I" } : Jvm.MethodName)) ∈ mh_T := mh_T_in (List.mem_append_right _ (List.mem_of_getElem? (i := 503) (by decide +kernel))) (by decide +kernel)
set_option maxRecDepth 100000 in
theorem wd_504 : (Jvm.Cond.selects "HoleWater" ({ cls := "HoleWater", name := "fade", desc := "(II)I" } : Jvm.MethodName) ({ cls := "HoleWater", name := "fade", desc := "(II)I" } : Jvm.MethodName)) ∈ mh_T := mh_T_in (List.mem_append_right _ (List.mem_of_getElem? (i := 504) (by decide +kernel))) (by decide +kernel)
set_option maxRecDepth 100000 in
theorem wd_505 : (Jvm.Cond.code ({ cls := "HoleWater", name := "fade", desc := "(II)I" } : Jvm.MethodName) prog_1_method_10_code (4 : Nat) (Option.some Jvm.ClassFile.FieldType.int)) ∈ mh_T := mh_T_in (List.mem_append_right _ (List.mem_of_getElem? (i := 505) (by decide +kernel))) (by decide +kernel)
set_option maxRecDepth 100000 in
theorem wd_506 : (Jvm.Cond.methodLink "HoleWater" (183 : Nat) ({ cls := "HoleWater", name := "isColour", desc := "(I)Z" } : Jvm.MethodName)) ∈ mh_T := mh_T_in (List.mem_append_right _ (List.mem_of_getElem? (i := 506) (by decide +kernel))) (by decide +kernel)
set_option maxRecDepth 100000 in
theorem wd_507 : (Jvm.Cond.static ({ cls := "HoleWater", name := "isColour", desc := "(I)Z" } : Jvm.MethodName)) ∈ mh_T := mh_T_in (List.mem_append_right _ (List.mem_of_getElem? (i := 507) (by decide +kernel))) (by decide +kernel)
set_option maxRecDepth 100000 in
theorem wd_508 : (Jvm.Cond.code ({ cls := "HoleWater", name := "isColour", desc := "(I)Z" } : Jvm.MethodName) prog_1_method_49_code (1 : Nat) (Option.some Jvm.ClassFile.FieldType.boolean)) ∈ mh_T := mh_T_in (List.mem_append_right _ (List.mem_of_getElem? (i := 508) (by decide +kernel))) (by decide +kernel)
set_option maxRecDepth 100000 in
theorem wd_509 : (Jvm.Cond.methodLink "HoleWaterLaw" (54 : Nat) ({ cls := "HoleWater", name := "hours", desc := "(I)I" } : Jvm.MethodName)) ∈ mh_T := mh_T_in (List.mem_append_right _ (List.mem_of_getElem? (i := 509) (by decide +kernel))) (by decide +kernel)
set_option maxRecDepth 100000 in
theorem wd_510 : (Jvm.Cond.instanceMethod ({ cls := "HoleWater", name := "hours", desc := "(I)I" } : Jvm.MethodName)) ∈ mh_T := mh_T_in (List.mem_append_right _ (List.mem_of_getElem? (i := 510) (by decide +kernel))) (by decide +kernel)
set_option maxRecDepth 100000 in
theorem wd_511 : (Jvm.Cond.selects "HoleWater" ({ cls := "HoleWater", name := "hours", desc := "(I)I" } : Jvm.MethodName) ({ cls := "HoleWater", name := "hours", desc := "(I)I" } : Jvm.MethodName)) ∈ mh_T := mh_T_in (List.mem_append_right _ (List.mem_of_getElem? (i := 511) (by decide +kernel))) (by decide +kernel)
set_option maxRecDepth 100000 in
theorem wd_512 : (Jvm.Cond.code ({ cls := "HoleWater", name := "hours", desc := "(I)I" } : Jvm.MethodName) prog_1_method_11_code (3 : Nat) (Option.some Jvm.ClassFile.FieldType.int)) ∈ mh_T := mh_T_in (List.mem_append_right _ (List.mem_of_getElem? (i := 512) (by decide +kernel))) (by decide +kernel)
set_option maxRecDepth 100000 in
theorem wd_513 : (Jvm.Cond.methodLink "HoleWater" (192 : Nat) ({ cls := "HoleWater$Water", name := "passHour", desc := "(LHoleWater$World;LHoleWater$Reader;)V" } : Jvm.MethodName)) ∈ mh_T := mh_T_in (List.mem_append_right _ (List.mem_of_getElem? (i := 513) (by decide +kernel))) (by decide +kernel)
set_option maxRecDepth 100000 in
theorem wd_514 : (Jvm.Cond.instanceMethod ({ cls := "HoleWater$Water", name := "passHour", desc := "(LHoleWater$World;LHoleWater$Reader;)V" } : Jvm.MethodName)) ∈ mh_T := mh_T_in (List.mem_append_right _ (List.mem_of_getElem? (i := 514) (by decide +kernel))) (by decide +kernel)
set_option maxRecDepth 100000 in
theorem wd_515 : (Jvm.Cond.selects "HoleWater$Water" ({ cls := "HoleWater$Water", name := "passHour", desc := "(LHoleWater$World;LHoleWater$Reader;)V" } : Jvm.MethodName) ({ cls := "HoleWater$Water", name := "passHour", desc := "(LHoleWater$World;LHoleWater$Reader;)V" } : Jvm.MethodName)) ∈ mh_T := mh_T_in (List.mem_append_right _ (List.mem_of_getElem? (i := 515) (by decide +kernel))) (by decide +kernel)
set_option maxRecDepth 100000 in
theorem wd_516 : (Jvm.Cond.code ({ cls := "HoleWater$Water", name := "passHour", desc := "(LHoleWater$World;LHoleWater$Reader;)V" } : Jvm.MethodName) prog_10_method_6_code (4 : Nat) (Option.none : Option Jvm.ClassFile.FieldType)) ∈ mh_T := mh_T_in (List.mem_append_right _ (List.mem_of_getElem? (i := 516) (by decide +kernel))) (by decide +kernel)
set_option maxRecDepth 100000 in
theorem wd_517 : (Jvm.Cond.methodLink "HoleWater$Water" (69 : Nat) ({ cls := "HoleWater$Water", name := "leave", desc := "(ILHoleWater$Way;)V" } : Jvm.MethodName)) ∈ mh_T := mh_T_in (List.mem_append_right _ (List.mem_of_getElem? (i := 517) (by decide +kernel))) (by decide +kernel)
set_option maxRecDepth 100000 in
theorem wd_519 : (Jvm.Cond.instanceMethod ({ cls := "HoleWater$Water", name := "leave", desc := "(ILHoleWater$Way;)V" } : Jvm.MethodName)) ∈ mh_T := mh_T_in (List.mem_append_right _ (List.mem_of_getElem? (i := 519) (by decide +kernel))) (by decide +kernel)
set_option maxRecDepth 100000 in
theorem wd_520 : (Jvm.Cond.code ({ cls := "HoleWater$Water", name := "leave", desc := "(ILHoleWater$Way;)V" } : Jvm.MethodName) prog_10_method_8_code (9 : Nat) (Option.none : Option Jvm.ClassFile.FieldType)) ∈ mh_T := mh_T_in (List.mem_append_right _ (List.mem_of_getElem? (i := 520) (by decide +kernel))) (by decide +kernel)
set_option maxRecDepth 100000 in
theorem wd_521 : (Jvm.Cond.methodLink "HoleWater$Water" (96 : Nat) ({ cls := "HoleWater$Way", name := "takes", desc := "()I" } : Jvm.MethodName)) ∈ mh_T := mh_T_in (List.mem_append_right _ (List.mem_of_getElem? (i := 521) (by decide +kernel))) (by decide +kernel)
set_option maxRecDepth 100000 in
theorem wd_522 : (Jvm.Cond.methodLink "HoleWater$Water" (102 : Nat) ({ cls := "HoleWater$Water", name := "slotNow", desc := "(II)I" } : Jvm.MethodName)) ∈ mh_T := mh_T_in (List.mem_append_right _ (List.mem_of_getElem? (i := 522) (by decide +kernel))) (by decide +kernel)
set_option maxRecDepth 100000 in
theorem wd_524 : (Jvm.Cond.instanceMethod ({ cls := "HoleWater$Water", name := "slotNow", desc := "(II)I" } : Jvm.MethodName)) ∈ mh_T := mh_T_in (List.mem_append_right _ (List.mem_of_getElem? (i := 524) (by decide +kernel))) (by decide +kernel)
set_option maxRecDepth 100000 in
theorem wd_525 : (Jvm.Cond.code ({ cls := "HoleWater$Water", name := "slotNow", desc := "(II)I" } : Jvm.MethodName) prog_10_method_7_code (4 : Nat) (Option.some Jvm.ClassFile.FieldType.int)) ∈ mh_T := mh_T_in (List.mem_append_right _ (List.mem_of_getElem? (i := 525) (by decide +kernel))) (by decide +kernel)
set_option maxRecDepth 100000 in
theorem wd_526 : (Jvm.Cond.methodLink "HoleWater$Water" (106 : Nat) ({ cls := "HoleWater$Water", name := "fadeAway", desc := "(III)I" } : Jvm.MethodName)) ∈ mh_T := mh_T_in (List.mem_append_right _ (List.mem_of_getElem? (i := 526) (by decide +kernel))) (by decide +kernel)
set_option maxRecDepth 100000 in
theorem wd_528 : (Jvm.Cond.instanceMethod ({ cls := "HoleWater$Water", name := "fadeAway", desc := "(III)I" } : Jvm.MethodName)) ∈ mh_T := mh_T_in (List.mem_append_right _ (List.mem_of_getElem? (i := 528) (by decide +kernel))) (by decide +kernel)
set_option maxRecDepth 100000 in
theorem wd_529 : (Jvm.Cond.code ({ cls := "HoleWater$Water", name := "fadeAway", desc := "(III)I" } : Jvm.MethodName) prog_10_method_9_code (5 : Nat) (Option.some Jvm.ClassFile.FieldType.int)) ∈ mh_T := mh_T_in (List.mem_append_right _ (List.mem_of_getElem? (i := 529) (by decide +kernel))) (by decide +kernel)
set_option maxRecDepth 100000 in
theorem wd_530 : (Jvm.Cond.methodLink "HoleWater$Water" (119 : Nat) ({ cls := "java/lang/Math", name := "min", desc := "(II)I" } : Jvm.MethodName)) ∈ mh_T := mh_T_in (List.mem_append_right _ (List.mem_of_getElem? (i := 530) (by decide +kernel))) (by decide +kernel)
set_option maxRecDepth 100000 in
theorem wd_533 : (Jvm.Cond.classLink "HoleWater$Water" (110 : Nat) "HoleWater$Pool") ∈ mh_T := mh_T_in (List.mem_append_right _ (List.mem_of_getElem? (i := 533) (by decide +kernel))) (by decide +kernel)
set_option maxRecDepth 100000 in
theorem wd_534 : (Jvm.Cond.methodLink "HoleWater$Water" (112 : Nat) ({ cls := "HoleWater$Pool", name := "lets", desc := "(I)I" } : Jvm.MethodName)) ∈ mh_T := mh_T_in (List.mem_append_right _ (List.mem_of_getElem? (i := 534) (by decide +kernel))) (by decide +kernel)
set_option maxRecDepth 100000 in
theorem wd_535 : (Jvm.Cond.instanceMethod ({ cls := "HoleWater$Pool", name := "lets", desc := "(I)I" } : Jvm.MethodName)) ∈ mh_T := mh_T_in (List.mem_append_right _ (List.mem_of_getElem? (i := 535) (by decide +kernel))) (by decide +kernel)
set_option maxRecDepth 100000 in
theorem wd_536 : (Jvm.Cond.selects "HoleWater$Pool" ({ cls := "HoleWater$Pool", name := "lets", desc := "(I)I" } : Jvm.MethodName) ({ cls := "HoleWater$Pool", name := "lets", desc := "(I)I" } : Jvm.MethodName)) ∈ mh_T := mh_T_in (List.mem_append_right _ (List.mem_of_getElem? (i := 536) (by decide +kernel))) (by decide +kernel)
set_option maxRecDepth 100000 in
theorem wd_537 : (Jvm.Cond.code ({ cls := "HoleWater$Pool", name := "lets", desc := "(I)I" } : Jvm.MethodName) prog_6_method_3_code (3 : Nat) (Option.some Jvm.ClassFile.FieldType.int)) ∈ mh_T := mh_T_in (List.mem_append_right _ (List.mem_of_getElem? (i := 537) (by decide +kernel))) (by decide +kernel)
set_option maxRecDepth 100000 in
theorem wd_539 : (Jvm.Cond.static ({ cls := "HoleWater", name := "by", desc := "(II)I" } : Jvm.MethodName)) ∈ mh_T := mh_T_in (List.mem_append_right _ (List.mem_of_getElem? (i := 539) (by decide +kernel))) (by decide +kernel)
set_option maxRecDepth 100000 in
theorem wd_540 : (Jvm.Cond.code ({ cls := "HoleWater", name := "by", desc := "(II)I" } : Jvm.MethodName) prog_1_method_52_code (2 : Nat) (Option.some Jvm.ClassFile.FieldType.int)) ∈ mh_T := mh_T_in (List.mem_append_right _ (List.mem_of_getElem? (i := 540) (by decide +kernel))) (by decide +kernel)
set_option maxRecDepth 100000 in
theorem wd_541 : (Jvm.Cond.methodLink "HoleWater$Water" (76 : Nat) ({ cls := "HoleWater$World", name := "isOf", desc := "(II)Z" } : Jvm.MethodName)) ∈ mh_T := mh_T_in (List.mem_append_right _ (List.mem_of_getElem? (i := 541) (by decide +kernel))) (by decide +kernel)
set_option maxRecDepth 100000 in
theorem wd_542 : (Jvm.Cond.methodLink "HoleWater$Water" (80 : Nat) ({ cls := "HoleWater$World", name := "rainOn", desc := "(ILHoleWater$Water;LHoleWater$Reader;)I" } : Jvm.MethodName)) ∈ mh_T := mh_T_in (List.mem_append_right _ (List.mem_of_getElem? (i := 542) (by decide +kernel))) (by decide +kernel)
set_option maxRecDepth 100000 in
theorem wd_543 : (Jvm.Cond.instanceMethod ({ cls := "HoleWater$World", name := "rainOn", desc := "(ILHoleWater$Water;LHoleWater$Reader;)I" } : Jvm.MethodName)) ∈ mh_T := mh_T_in (List.mem_append_right _ (List.mem_of_getElem? (i := 543) (by decide +kernel))) (by decide +kernel)
set_option maxRecDepth 100000 in
theorem wd_544 : (Jvm.Cond.selects "HoleWater$World" ({ cls := "HoleWater$World", name := "rainOn", desc := "(ILHoleWater$Water;LHoleWater$Reader;)I" } : Jvm.MethodName) ({ cls := "HoleWater$World", name := "rainOn", desc := "(ILHoleWater$Water;LHoleWater$Reader;)I" } : Jvm.MethodName)) ∈ mh_T := mh_T_in (List.mem_append_right _ (List.mem_of_getElem? (i := 544) (by decide +kernel))) (by decide +kernel)
set_option maxRecDepth 100000 in
theorem wd_545 : (Jvm.Cond.code ({ cls := "HoleWater$World", name := "rainOn", desc := "(ILHoleWater$Water;LHoleWater$Reader;)I" } : Jvm.MethodName) prog_12_method_12_code (4 : Nat) (Option.some Jvm.ClassFile.FieldType.int)) ∈ mh_T := mh_T_in (List.mem_append_right _ (List.mem_of_getElem? (i := 545) (by decide +kernel))) (by decide +kernel)
set_option maxRecDepth 100000 in
theorem wd_546 : (Jvm.Cond.methodLink "HoleWater$World" (125 : Nat) ({ cls := "HoleWater$Reader", name := "toldBy", desc := "(LHoleWater$Row;)I" } : Jvm.MethodName)) ∈ mh_T := mh_T_in (List.mem_append_right _ (List.mem_of_getElem? (i := 546) (by decide +kernel))) (by decide +kernel)
set_option maxRecDepth 100000 in
theorem wd_547 : (Jvm.Cond.instanceMethod ({ cls := "HoleWater$Reader", name := "toldBy", desc := "(LHoleWater$Row;)I" } : Jvm.MethodName)) ∈ mh_T := mh_T_in (List.mem_append_right _ (List.mem_of_getElem? (i := 547) (by decide +kernel))) (by decide +kernel)
set_option maxRecDepth 100000 in
theorem wd_548 : (Jvm.Cond.selects "HoleWater$Reader" ({ cls := "HoleWater$Reader", name := "toldBy", desc := "(LHoleWater$Row;)I" } : Jvm.MethodName) ({ cls := "HoleWater$Reader", name := "toldBy", desc := "(LHoleWater$Row;)I" } : Jvm.MethodName)) ∈ mh_T := mh_T_in (List.mem_append_right _ (List.mem_of_getElem? (i := 548) (by decide +kernel))) (by decide +kernel)
set_option maxRecDepth 100000 in
theorem wd_549 : (Jvm.Cond.code ({ cls := "HoleWater$Reader", name := "toldBy", desc := "(LHoleWater$Row;)I" } : Jvm.MethodName) prog_7_method_12_code (6 : Nat) (Option.some Jvm.ClassFile.FieldType.int)) ∈ mh_T := mh_T_in (List.mem_append_right _ (List.mem_of_getElem? (i := 549) (by decide +kernel))) (by decide +kernel)
set_option maxRecDepth 100000 in
theorem wd_550 : (Jvm.Cond.methodLink "HoleWater$Reader" (99 : Nat) ({ cls := "HoleWater$Row", name := "get", desc := "(I)I" } : Jvm.MethodName)) ∈ mh_T := mh_T_in (List.mem_append_right _ (List.mem_of_getElem? (i := 550) (by decide +kernel))) (by decide +kernel)
set_option maxRecDepth 100000 in
theorem wd_551 : (Jvm.Cond.instanceMethod ({ cls := "HoleWater$Row", name := "get", desc := "(I)I" } : Jvm.MethodName)) ∈ mh_T := mh_T_in (List.mem_append_right _ (List.mem_of_getElem? (i := 551) (by decide +kernel))) (by decide +kernel)
set_option maxRecDepth 100000 in
theorem wd_552 : (Jvm.Cond.selects "HoleWater$Row" ({ cls := "HoleWater$Row", name := "get", desc := "(I)I" } : Jvm.MethodName) ({ cls := "HoleWater$Row", name := "get", desc := "(I)I" } : Jvm.MethodName)) ∈ mh_T := mh_T_in (List.mem_append_right _ (List.mem_of_getElem? (i := 552) (by decide +kernel))) (by decide +kernel)
set_option maxRecDepth 100000 in
theorem wd_553 : (Jvm.Cond.code ({ cls := "HoleWater$Row", name := "get", desc := "(I)I" } : Jvm.MethodName) prog_8_method_3_code (2 : Nat) (Option.some Jvm.ClassFile.FieldType.int)) ∈ mh_T := mh_T_in (List.mem_append_right _ (List.mem_of_getElem? (i := 553) (by decide +kernel))) (by decide +kernel)
set_option maxRecDepth 100000 in
theorem wd_554 : (Jvm.Cond.methodLink "HoleWater$Reader" (102 : Nat) ({ cls := "HoleWater$Reader", name := "valueOf", desc := "(I)I" } : Jvm.MethodName)) ∈ mh_T := mh_T_in (List.mem_append_right _ (List.mem_of_getElem? (i := 554) (by decide +kernel))) (by decide +kernel)
set_option maxRecDepth 100000 in
theorem wd_556 : (Jvm.Cond.instanceMethod ({ cls := "HoleWater$Reader", name := "valueOf", desc := "(I)I" } : Jvm.MethodName)) ∈ mh_T := mh_T_in (List.mem_append_right _ (List.mem_of_getElem? (i := 556) (by decide +kernel))) (by decide +kernel)
set_option maxRecDepth 100000 in
theorem wd_557 : (Jvm.Cond.code ({ cls := "HoleWater$Reader", name := "valueOf", desc := "(I)I" } : Jvm.MethodName) prog_7_method_13_code (2 : Nat) (Option.some Jvm.ClassFile.FieldType.int)) ∈ mh_T := mh_T_in (List.mem_append_right _ (List.mem_of_getElem? (i := 557) (by decide +kernel))) (by decide +kernel)
set_option maxRecDepth 100000 in
theorem wd_558 : (Jvm.Cond.methodLink "HoleWater$Reader" (105 : Nat) ({ cls := "HoleWater$Reader", name := "push", desc := "(I)V" } : Jvm.MethodName)) ∈ mh_T := mh_T_in (List.mem_append_right _ (List.mem_of_getElem? (i := 558) (by decide +kernel))) (by decide +kernel)
set_option maxRecDepth 100000 in
theorem wd_560 : (Jvm.Cond.instanceMethod ({ cls := "HoleWater$Reader", name := "push", desc := "(I)V" } : Jvm.MethodName)) ∈ mh_T := mh_T_in (List.mem_append_right _ (List.mem_of_getElem? (i := 560) (by decide +kernel))) (by decide +kernel)
set_option maxRecDepth 100000 in
theorem wd_561 : (Jvm.Cond.code ({ cls := "HoleWater$Reader", name := "push", desc := "(I)V" } : Jvm.MethodName) prog_7_method_14_code (2 : Nat) (Option.none : Option Jvm.ClassFile.FieldType)) ∈ mh_T := mh_T_in (List.mem_append_right _ (List.mem_of_getElem? (i := 561) (by decide +kernel))) (by decide +kernel)
set_option maxRecDepth 100000 in
theorem wd_562 : (Jvm.Cond.methodLink "HoleWater$Reader" (108 : Nat) ({ cls := "HoleWater$Reader", name := "pop", desc := "()I" } : Jvm.MethodName)) ∈ mh_T := mh_T_in (List.mem_append_right _ (List.mem_of_getElem? (i := 562) (by decide +kernel))) (by decide +kernel)
set_option maxRecDepth 100000 in
theorem wd_564 : (Jvm.Cond.instanceMethod ({ cls := "HoleWater$Reader", name := "pop", desc := "()I" } : Jvm.MethodName)) ∈ mh_T := mh_T_in (List.mem_append_right _ (List.mem_of_getElem? (i := 564) (by decide +kernel))) (by decide +kernel)
set_option maxRecDepth 100000 in
theorem wd_565 : (Jvm.Cond.code ({ cls := "HoleWater$Reader", name := "pop", desc := "()I" } : Jvm.MethodName) prog_7_method_15_code (1 : Nat) (Option.some Jvm.ClassFile.FieldType.int)) ∈ mh_T := mh_T_in (List.mem_append_right _ (List.mem_of_getElem? (i := 565) (by decide +kernel))) (by decide +kernel)
set_option maxRecDepth 100000 in
theorem wd_566 : (Jvm.Cond.methodLink "HoleWater$Reader" (111 : Nat) ({ cls := "HoleWater$Reader", name := "workOut", desc := "(III)I" } : Jvm.MethodName)) ∈ mh_T := mh_T_in (List.mem_append_right _ (List.mem_of_getElem? (i := 566) (by decide +kernel))) (by decide +kernel)
set_option maxRecDepth 100000 in
theorem wd_567 : (Jvm.Cond.static ({ cls := "HoleWater$Reader", name := "workOut", desc := "(III)I" } : Jvm.MethodName)) ∈ mh_T := mh_T_in (List.mem_append_right _ (List.mem_of_getElem? (i := 567) (by decide +kernel))) (by decide +kernel)
set_option maxRecDepth 100000 in
theorem wd_568 : (Jvm.Cond.code ({ cls := "HoleWater$Reader", name := "workOut", desc := "(III)I" } : Jvm.MethodName) prog_7_method_16_code (3 : Nat) (Option.some Jvm.ClassFile.FieldType.int)) ∈ mh_T := mh_T_in (List.mem_append_right _ (List.mem_of_getElem? (i := 568) (by decide +kernel))) (by decide +kernel)
set_option maxRecDepth 100000 in
theorem wd_571 : (Jvm.Cond.static ({ cls := "HoleWater", name := "held", desc := "(III)I" } : Jvm.MethodName)) ∈ mh_T := mh_T_in (List.mem_append_right _ (List.mem_of_getElem? (i := 571) (by decide +kernel))) (by decide +kernel)
set_option maxRecDepth 100000 in
theorem wd_572 : (Jvm.Cond.code ({ cls := "HoleWater", name := "held", desc := "(III)I" } : Jvm.MethodName) prog_1_method_53_code (3 : Nat) (Option.some Jvm.ClassFile.FieldType.int)) ∈ mh_T := mh_T_in (List.mem_append_right _ (List.mem_of_getElem? (i := 572) (by decide +kernel))) (by decide +kernel)
set_option maxRecDepth 100000 in
theorem wd_573 : (Jvm.Cond.methodLink "HoleWater" (377 : Nat) ({ cls := "java/lang/Math", name := "min", desc := "(II)I" } : Jvm.MethodName)) ∈ mh_T := mh_T_in (List.mem_append_right _ (List.mem_of_getElem? (i := 573) (by decide +kernel))) (by decide +kernel)
set_option maxRecDepth 100000 in
theorem wd_574 : (Jvm.Cond.methodLink "HoleWater" (382 : Nat) ({ cls := "java/lang/Math", name := "max", desc := "(II)I" } : Jvm.MethodName)) ∈ mh_T := mh_T_in (List.mem_append_right _ (List.mem_of_getElem? (i := 574) (by decide +kernel))) (by decide +kernel)
set_option maxRecDepth 100000 in
theorem wd_575 : (Jvm.Cond.methodLink "HoleWater$Water" (84 : Nat) ({ cls := "HoleWater$World", name := "isOutlet", desc := "(I)Z" } : Jvm.MethodName)) ∈ mh_T := mh_T_in (List.mem_append_right _ (List.mem_of_getElem? (i := 575) (by decide +kernel))) (by decide +kernel)
set_option maxRecDepth 100000 in
theorem wd_576 : (Jvm.Cond.methodLink "HoleWater$Water" (88 : Nat) ({ cls := "HoleWater$Water", name := "comeOut", desc := "(II)V" } : Jvm.MethodName)) ∈ mh_T := mh_T_in (List.mem_append_right _ (List.mem_of_getElem? (i := 576) (by decide +kernel))) (by decide +kernel)
set_option maxRecDepth 100000 in
theorem wd_578 : (Jvm.Cond.instanceMethod ({ cls := "HoleWater$Water", name := "comeOut", desc := "(II)V" } : Jvm.MethodName)) ∈ mh_T := mh_T_in (List.mem_append_right _ (List.mem_of_getElem? (i := 578) (by decide +kernel))) (by decide +kernel)
set_option maxRecDepth 100000 in
theorem wd_579 : (Jvm.Cond.code ({ cls := "HoleWater$Water", name := "comeOut", desc := "(II)V" } : Jvm.MethodName) prog_10_method_10_code (5 : Nat) (Option.none : Option Jvm.ClassFile.FieldType)) ∈ mh_T := mh_T_in (List.mem_append_right _ (List.mem_of_getElem? (i := 579) (by decide +kernel))) (by decide +kernel)
set_option maxRecDepth 100000 in
theorem wd_580 : (Jvm.Cond.methodLink "HoleWater$Water" (92 : Nat) ({ cls := "HoleWater$Water", name := "sendOff", desc := "(ILHoleWater$World;)V" } : Jvm.MethodName)) ∈ mh_T := mh_T_in (List.mem_append_right _ (List.mem_of_getElem? (i := 580) (by decide +kernel))) (by decide +kernel)
set_option maxRecDepth 100000 in
theorem wd_582 : (Jvm.Cond.instanceMethod ({ cls := "HoleWater$Water", name := "sendOff", desc := "(ILHoleWater$World;)V" } : Jvm.MethodName)) ∈ mh_T := mh_T_in (List.mem_append_right _ (List.mem_of_getElem? (i := 582) (by decide +kernel))) (by decide +kernel)
set_option maxRecDepth 100000 in
theorem wd_583 : (Jvm.Cond.code ({ cls := "HoleWater$Water", name := "sendOff", desc := "(ILHoleWater$World;)V" } : Jvm.MethodName) prog_10_method_11_code (7 : Nat) (Option.none : Option Jvm.ClassFile.FieldType)) ∈ mh_T := mh_T_in (List.mem_append_right _ (List.mem_of_getElem? (i := 583) (by decide +kernel))) (by decide +kernel)
set_option maxRecDepth 100000 in
theorem wd_584 : (Jvm.Cond.methodLink "HoleWater$Water" (124 : Nat) ({ cls := "HoleWater$Water", name := "shareOut", desc := "(IILHoleWater$World;)I" } : Jvm.MethodName)) ∈ mh_T := mh_T_in (List.mem_append_right _ (List.mem_of_getElem? (i := 584) (by decide +kernel))) (by decide +kernel)
set_option maxRecDepth 100000 in
theorem wd_586 : (Jvm.Cond.instanceMethod ({ cls := "HoleWater$Water", name := "shareOut", desc := "(IILHoleWater$World;)I" } : Jvm.MethodName)) ∈ mh_T := mh_T_in (List.mem_append_right _ (List.mem_of_getElem? (i := 586) (by decide +kernel))) (by decide +kernel)
set_option maxRecDepth 100000 in
theorem wd_587 : (Jvm.Cond.code ({ cls := "HoleWater$Water", name := "shareOut", desc := "(IILHoleWater$World;)I" } : Jvm.MethodName) prog_10_method_13_code (10 : Nat) (Option.some Jvm.ClassFile.FieldType.int)) ∈ mh_T := mh_T_in (List.mem_append_right _ (List.mem_of_getElem? (i := 587) (by decide +kernel))) (by decide +kernel)
set_option maxRecDepth 100000 in
theorem wd_588 : (Jvm.Cond.classLink "HoleWater$Water" (142 : Nat) "HoleWater$Overflow") ∈ mh_T := mh_T_in (List.mem_append_right _ (List.mem_of_getElem? (i := 588) (by decide +kernel))) (by decide +kernel)
set_option maxRecDepth 100000 in
theorem wd_589 : (Jvm.Cond.methodLink "HoleWater$Water" (147 : Nat) ({ cls := "java/lang/Math", name := "max", desc := "(II)I" } : Jvm.MethodName)) ∈ mh_T := mh_T_in (List.mem_append_right _ (List.mem_of_getElem? (i := 589) (by decide +kernel))) (by decide +kernel)
set_option maxRecDepth 100000 in
theorem wd_591 : (Jvm.Cond.methodLink "HoleWater$Water" (131 : Nat) ({ cls := "HoleWater$Water", name := "enter", desc := "(ILHoleWater$Way;II)V" } : Jvm.MethodName)) ∈ mh_T := mh_T_in (List.mem_append_right _ (List.mem_of_getElem? (i := 591) (by decide +kernel))) (by decide +kernel)
set_option maxRecDepth 100000 in
theorem wd_593 : (Jvm.Cond.instanceMethod ({ cls := "HoleWater$Water", name := "enter", desc := "(ILHoleWater$Way;II)V" } : Jvm.MethodName)) ∈ mh_T := mh_T_in (List.mem_append_right _ (List.mem_of_getElem? (i := 593) (by decide +kernel))) (by decide +kernel)
set_option maxRecDepth 100000 in
theorem wd_594 : (Jvm.Cond.code ({ cls := "HoleWater$Water", name := "enter", desc := "(ILHoleWater$Way;II)V" } : Jvm.MethodName) prog_10_method_15_code (7 : Nat) (Option.none : Option Jvm.ClassFile.FieldType)) ∈ mh_T := mh_T_in (List.mem_append_right _ (List.mem_of_getElem? (i := 594) (by decide +kernel))) (by decide +kernel)
set_option maxRecDepth 100000 in
theorem wd_595 : (Jvm.Cond.methodLink "HoleWater$Water" (153 : Nat) ({ cls := "HoleWater$Way", name := "keeps", desc := "(I)I" } : Jvm.MethodName)) ∈ mh_T := mh_T_in (List.mem_append_right _ (List.mem_of_getElem? (i := 595) (by decide +kernel))) (by decide +kernel)
set_option maxRecDepth 100000 in
theorem wd_596 : (Jvm.Cond.instanceMethod ({ cls := "HoleWater$Way", name := "keeps", desc := "(I)I" } : Jvm.MethodName)) ∈ mh_T := mh_T_in (List.mem_append_right _ (List.mem_of_getElem? (i := 596) (by decide +kernel))) (by decide +kernel)
set_option maxRecDepth 100000 in
theorem wd_597 : (Jvm.Cond.selects "HoleWater$Way" ({ cls := "HoleWater$Way", name := "keeps", desc := "(I)I" } : Jvm.MethodName) ({ cls := "HoleWater$Way", name := "keeps", desc := "(I)I" } : Jvm.MethodName)) ∈ mh_T := mh_T_in (List.mem_append_right _ (List.mem_of_getElem? (i := 597) (by decide +kernel))) (by decide +kernel)
set_option maxRecDepth 100000 in
theorem wd_598 : (Jvm.Cond.sameMethod "HoleWater$Way" "HoleWater$Way" "keeps" "(I)I") ∈ mh_T := mh_T_in (List.mem_append_right _ (List.mem_of_getElem? (i := 598) (by decide +kernel))) (by decide +kernel)
set_option maxRecDepth 100000 in
theorem wd_599 : (Jvm.Cond.selects "HoleWater$Blind" ({ cls := "HoleWater$Way", name := "keeps", desc := "(I)I" } : Jvm.MethodName) ({ cls := "HoleWater$Sieve", name := "keeps", desc := "(I)I" } : Jvm.MethodName)) ∈ mh_T := mh_T_in (List.mem_append_right _ (List.mem_of_getElem? (i := 599) (by decide +kernel))) (by decide +kernel)
set_option maxRecDepth 100000 in
theorem wd_600 : (Jvm.Cond.instanceMethod ({ cls := "HoleWater$Sieve", name := "keeps", desc := "(I)I" } : Jvm.MethodName)) ∈ mh_T := mh_T_in (List.mem_append_right _ (List.mem_of_getElem? (i := 600) (by decide +kernel))) (by decide +kernel)
set_option maxRecDepth 100000 in
theorem wd_601 : (Jvm.Cond.code ({ cls := "HoleWater$Sieve", name := "keeps", desc := "(I)I" } : Jvm.MethodName) prog_9_method_4_code (2 : Nat) (Option.some Jvm.ClassFile.FieldType.int)) ∈ mh_T := mh_T_in (List.mem_append_right _ (List.mem_of_getElem? (i := 601) (by decide +kernel))) (by decide +kernel)
set_option maxRecDepth 100000 in
theorem wd_603 : (Jvm.Cond.selects "HoleWater$Open" ({ cls := "HoleWater$Way", name := "keeps", desc := "(I)I" } : Jvm.MethodName) ({ cls := "HoleWater$Way", name := "keeps", desc := "(I)I" } : Jvm.MethodName)) ∈ mh_T := mh_T_in (List.mem_append_right _ (List.mem_of_getElem? (i := 603) (by decide +kernel))) (by decide +kernel)
set_option maxRecDepth 100000 in
theorem wd_604 : (Jvm.Cond.selects "HoleWater$Overflow" ({ cls := "HoleWater$Way", name := "keeps", desc := "(I)I" } : Jvm.MethodName) ({ cls := "HoleWater$Way", name := "keeps", desc := "(I)I" } : Jvm.MethodName)) ∈ mh_T := mh_T_in (List.mem_append_right _ (List.mem_of_getElem? (i := 604) (by decide +kernel))) (by decide +kernel)
set_option maxRecDepth 100000 in
theorem wd_605 : (Jvm.Cond.selects "HoleWater$Pool" ({ cls := "HoleWater$Way", name := "keeps", desc := "(I)I" } : Jvm.MethodName) ({ cls := "HoleWater$Way", name := "keeps", desc := "(I)I" } : Jvm.MethodName)) ∈ mh_T := mh_T_in (List.mem_append_right _ (List.mem_of_getElem? (i := 605) (by decide +kernel))) (by decide +kernel)
set_option maxRecDepth 100000 in
theorem wd_606 : (Jvm.Cond.selects "HoleWater$Sieve" ({ cls := "HoleWater$Way", name := "keeps", desc := "(I)I" } : Jvm.MethodName) ({ cls := "HoleWater$Sieve", name := "keeps", desc := "(I)I" } : Jvm.MethodName)) ∈ mh_T := mh_T_in (List.mem_append_right _ (List.mem_of_getElem? (i := 606) (by decide +kernel))) (by decide +kernel)
set_option maxRecDepth 100000 in
theorem wd_607 : (Jvm.Cond.code ({ cls := "HoleWater$Way", name := "keeps", desc := "(I)I" } : Jvm.MethodName) prog_11_method_4_code (2 : Nat) (Option.some Jvm.ClassFile.FieldType.int)) ∈ mh_T := mh_T_in (List.mem_append_right _ (List.mem_of_getElem? (i := 607) (by decide +kernel))) (by decide +kernel)
set_option maxRecDepth 100000 in
theorem wd_608 : (Jvm.Cond.classLink "HoleWater$Water" (156 : Nat) "HoleWater$Blind") ∈ mh_T := mh_T_in (List.mem_append_right _ (List.mem_of_getElem? (i := 608) (by decide +kernel))) (by decide +kernel)
set_option maxRecDepth 100000 in
theorem wd_609 : (Jvm.Cond.methodLink "HoleWater$Water" (135 : Nat) ({ cls := "HoleWater$Water", name := "sendGrains", desc := "(IIIILHoleWater$World;)V" } : Jvm.MethodName)) ∈ mh_T := mh_T_in (List.mem_append_right _ (List.mem_of_getElem? (i := 609) (by decide +kernel))) (by decide +kernel)
set_option maxRecDepth 100000 in
theorem wd_611 : (Jvm.Cond.instanceMethod ({ cls := "HoleWater$Water", name := "sendGrains", desc := "(IIIILHoleWater$World;)V" } : Jvm.MethodName)) ∈ mh_T := mh_T_in (List.mem_append_right _ (List.mem_of_getElem? (i := 611) (by decide +kernel))) (by decide +kernel)
set_option maxRecDepth 100000 in
theorem wd_612 : (Jvm.Cond.code ({ cls := "HoleWater$Water", name := "sendGrains", desc := "(IIIILHoleWater$World;)V" } : Jvm.MethodName) prog_10_method_12_code (10 : Nat) (Option.none : Option Jvm.ClassFile.FieldType)) ∈ mh_T := mh_T_in (List.mem_append_right _ (List.mem_of_getElem? (i := 612) (by decide +kernel))) (by decide +kernel)
set_option maxRecDepth 100000 in
theorem wd_613 : (Jvm.Cond.methodLink "HoleWater$Water" (139 : Nat) ({ cls := "HoleWater$Water", name := "part", desc := "(III)I" } : Jvm.MethodName)) ∈ mh_T := mh_T_in (List.mem_append_right _ (List.mem_of_getElem? (i := 613) (by decide +kernel))) (by decide +kernel)
set_option maxRecDepth 100000 in
theorem wd_614 : (Jvm.Cond.static ({ cls := "HoleWater$Water", name := "part", desc := "(III)I" } : Jvm.MethodName)) ∈ mh_T := mh_T_in (List.mem_append_right _ (List.mem_of_getElem? (i := 614) (by decide +kernel))) (by decide +kernel)
set_option maxRecDepth 100000 in
theorem wd_615 : (Jvm.Cond.code ({ cls := "HoleWater$Water", name := "part", desc := "(III)I" } : Jvm.MethodName) prog_10_method_14_code (3 : Nat) (Option.some Jvm.ClassFile.FieldType.int)) ∈ mh_T := mh_T_in (List.mem_append_right _ (List.mem_of_getElem? (i := 615) (by decide +kernel))) (by decide +kernel)
set_option maxRecDepth 100000 in
theorem wd_616 : (Jvm.Cond.methodLink "HoleWaterLaw" (59 : Nat) ({ cls := "HoleWater", name := "put", desc := "(III)I" } : Jvm.MethodName)) ∈ mh_T := mh_T_in (List.mem_append_right _ (List.mem_of_getElem? (i := 616) (by decide +kernel))) (by decide +kernel)
set_option maxRecDepth 100000 in
theorem wd_617 : (Jvm.Cond.instanceMethod ({ cls := "HoleWater", name := "put", desc := "(III)I" } : Jvm.MethodName)) ∈ mh_T := mh_T_in (List.mem_append_right _ (List.mem_of_getElem? (i := 617) (by decide +kernel))) (by decide +kernel)
set_option maxRecDepth 100000 in
theorem wd_618 : (Jvm.Cond.selects "HoleWater" ({ cls := "HoleWater", name := "put", desc := "(III)I" } : Jvm.MethodName) ({ cls := "HoleWater", name := "put", desc := "(III)I" } : Jvm.MethodName)) ∈ mh_T := mh_T_in (List.mem_append_right _ (List.mem_of_getElem? (i := 618) (by decide +kernel))) (by decide +kernel)
set_option maxRecDepth 100000 in
theorem wd_619 : (Jvm.Cond.code ({ cls := "HoleWater", name := "put", desc := "(III)I" } : Jvm.MethodName) prog_1_method_12_code (4 : Nat) (Option.some Jvm.ClassFile.FieldType.int)) ∈ mh_T := mh_T_in (List.mem_append_right _ (List.mem_of_getElem? (i := 619) (by decide +kernel))) (by decide +kernel)
set_option maxRecDepth 100000 in
theorem wd_620 : (Jvm.Cond.methodLink "HoleWater" (205 : Nat) ({ cls := "HoleWater$World", name := "putIn", desc := "(III)I" } : Jvm.MethodName)) ∈ mh_T := mh_T_in (List.mem_append_right _ (List.mem_of_getElem? (i := 620) (by decide +kernel))) (by decide +kernel)
set_option maxRecDepth 100000 in
theorem wd_621 : (Jvm.Cond.instanceMethod ({ cls := "HoleWater$World", name := "putIn", desc := "(III)I" } : Jvm.MethodName)) ∈ mh_T := mh_T_in (List.mem_append_right _ (List.mem_of_getElem? (i := 621) (by decide +kernel))) (by decide +kernel)
set_option maxRecDepth 100000 in
theorem wd_622 : (Jvm.Cond.selects "HoleWater$World" ({ cls := "HoleWater$World", name := "putIn", desc := "(III)I" } : Jvm.MethodName) ({ cls := "HoleWater$World", name := "putIn", desc := "(III)I" } : Jvm.MethodName)) ∈ mh_T := mh_T_in (List.mem_append_right _ (List.mem_of_getElem? (i := 622) (by decide +kernel))) (by decide +kernel)
set_option maxRecDepth 100000 in
theorem wd_623 : (Jvm.Cond.code ({ cls := "HoleWater$World", name := "putIn", desc := "(III)I" } : Jvm.MethodName) prog_12_method_10_code (4 : Nat) (Option.some Jvm.ClassFile.FieldType.int)) ∈ mh_T := mh_T_in (List.mem_append_right _ (List.mem_of_getElem? (i := 623) (by decide +kernel))) (by decide +kernel)
set_option maxRecDepth 100000 in
theorem wd_624 : (Jvm.Cond.methodLink "HoleWater$World" (105 : Nat) ({ cls := "HoleWater$Looks", name := "addPut", desc := "(IIII)I" } : Jvm.MethodName)) ∈ mh_T := mh_T_in (List.mem_append_right _ (List.mem_of_getElem? (i := 624) (by decide +kernel))) (by decide +kernel)
set_option maxRecDepth 100000 in
theorem wd_625 : (Jvm.Cond.instanceMethod ({ cls := "HoleWater$Looks", name := "addPut", desc := "(IIII)I" } : Jvm.MethodName)) ∈ mh_T := mh_T_in (List.mem_append_right _ (List.mem_of_getElem? (i := 625) (by decide +kernel))) (by decide +kernel)
set_option maxRecDepth 100000 in
theorem wd_626 : (Jvm.Cond.selects "HoleWater$Looks" ({ cls := "HoleWater$Looks", name := "addPut", desc := "(IIII)I" } : Jvm.MethodName) ({ cls := "HoleWater$Looks", name := "addPut", desc := "(IIII)I" } : Jvm.MethodName)) ∈ mh_T := mh_T_in (List.mem_append_right _ (List.mem_of_getElem? (i := 626) (by decide +kernel))) (by decide +kernel)
set_option maxRecDepth 100000 in
theorem wd_627 : (Jvm.Cond.code ({ cls := "HoleWater$Looks", name := "addPut", desc := "(IIII)I" } : Jvm.MethodName) prog_3_method_5_code (6 : Nat) (Option.some Jvm.ClassFile.FieldType.int)) ∈ mh_T := mh_T_in (List.mem_append_right _ (List.mem_of_getElem? (i := 627) (by decide +kernel))) (by decide +kernel)
set_option maxRecDepth 100000 in
theorem wd_628 : (Jvm.Cond.methodLink "HoleWaterLaw" (63 : Nat) ({ cls := "HoleWater", name := "putIs", desc := "(II)I" } : Jvm.MethodName)) ∈ mh_T := mh_T_in (List.mem_append_right _ (List.mem_of_getElem? (i := 628) (by decide +kernel))) (by decide +kernel)
set_option maxRecDepth 100000 in
theorem wd_629 : (Jvm.Cond.instanceMethod ({ cls := "HoleWater", name := "putIs", desc := "(II)I" } : Jvm.MethodName)) ∈ mh_T := mh_T_in (List.mem_append_right _ (List.mem_of_getElem? (i := 629) (by decide +kernel))) (by decide +kernel)
set_option maxRecDepth 100000 in
theorem wd_630 : (Jvm.Cond.selects "HoleWater" ({ cls := "HoleWater", name := "putIs", desc := "(II)I" } : Jvm.MethodName) ({ cls := "HoleWater", name := "putIs", desc := "(II)I" } : Jvm.MethodName)) ∈ mh_T := mh_T_in (List.mem_append_right _ (List.mem_of_getElem? (i := 630) (by decide +kernel))) (by decide +kernel)
