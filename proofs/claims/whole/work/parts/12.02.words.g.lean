set_option maxRecDepth 100000 in
theorem wd_484 : (Jvm.Cond.instanceMethod ({ cls := "HoleWater", name := "goAlong", desc := "(LHoleWater$Way;)V" } : Jvm.MethodName)) ∈ mh_T := mh_T_in (List.mem_append_right _ (List.mem_of_getElem? (i := 484) (by decide +kernel))) (by decide +kernel)
set_option maxRecDepth 100000 in
theorem wd_485 : (Jvm.Cond.code ({ cls := "HoleWater", name := "goAlong", desc := "(LHoleWater$Way;)V" } : Jvm.MethodName) prog_1_method_57_code (3 : Nat) (Option.none : Option Jvm.ClassFile.FieldType)) ∈ mh_T := mh_T_in (List.mem_append_right _ (List.mem_of_getElem? (i := 485) (by decide +kernel))) (by decide +kernel)
set_option maxRecDepth 100000 in
theorem wd_489 : (Jvm.Cond.code ({ cls := "HoleWater", name := "flood", desc := "(Z)I" } : Jvm.MethodName) prog_1_method_9_code (3 : Nat) (Option.some Jvm.ClassFile.FieldType.int)) ∈ mh_T := mh_T_in (List.mem_append_right _ (List.mem_of_getElem? (i := 489) (by decide +kernel))) (by decide +kernel)
set_option maxRecDepth 100000 in
theorem wd_493 : (Jvm.Cond.code ({ cls := "HoleWater", name := "fade", desc := "(II)I" } : Jvm.MethodName) prog_1_method_10_code (4 : Nat) (Option.some Jvm.ClassFile.FieldType.int)) ∈ mh_T := mh_T_in (List.mem_append_right _ (List.mem_of_getElem? (i := 493) (by decide +kernel))) (by decide +kernel)
set_option maxRecDepth 100000 in
theorem wd_494 : (Jvm.Cond.methodLink "HoleWater" (183 : Nat) ({ cls := "HoleWater", name := "isColour", desc := "(I)Z" } : Jvm.MethodName)) ∈ mh_T := mh_T_in (List.mem_append_right _ (List.mem_of_getElem? (i := 494) (by decide +kernel))) (by decide +kernel)
set_option maxRecDepth 100000 in
theorem wd_495 : (Jvm.Cond.static ({ cls := "HoleWater", name := "isColour", desc := "(I)Z" } : Jvm.MethodName)) ∈ mh_T := mh_T_in (List.mem_append_right _ (List.mem_of_getElem? (i := 495) (by decide +kernel))) (by decide +kernel)
set_option maxRecDepth 100000 in
theorem wd_496 : (Jvm.Cond.code ({ cls := "HoleWater", name := "isColour", desc := "(I)Z" } : Jvm.MethodName) prog_1_method_49_code (1 : Nat) (Option.some Jvm.ClassFile.FieldType.boolean)) ∈ mh_T := mh_T_in (List.mem_append_right _ (List.mem_of_getElem? (i := 496) (by decide +kernel))) (by decide +kernel)
set_option maxRecDepth 100000 in
theorem wd_500 : (Jvm.Cond.code ({ cls := "HoleWater", name := "hours", desc := "(I)I" } : Jvm.MethodName) prog_1_method_11_code (3 : Nat) (Option.some Jvm.ClassFile.FieldType.int)) ∈ mh_T := mh_T_in (List.mem_append_right _ (List.mem_of_getElem? (i := 500) (by decide +kernel))) (by decide +kernel)
set_option maxRecDepth 100000 in
theorem wd_501 : (Jvm.Cond.methodLink "HoleWater" (192 : Nat) ({ cls := "HoleWater$Water", name := "passHour", desc := "(LHoleWater$World;LHoleWater$Reader;)V" } : Jvm.MethodName)) ∈ mh_T := mh_T_in (List.mem_append_right _ (List.mem_of_getElem? (i := 501) (by decide +kernel))) (by decide +kernel)
set_option maxRecDepth 100000 in
theorem wd_502 : (Jvm.Cond.instanceMethod ({ cls := "HoleWater$Water", name := "passHour", desc := "(LHoleWater$World;LHoleWater$Reader;)V" } : Jvm.MethodName)) ∈ mh_T := mh_T_in (List.mem_append_right _ (List.mem_of_getElem? (i := 502) (by decide +kernel))) (by decide +kernel)
set_option maxRecDepth 100000 in
theorem wd_503 : (Jvm.Cond.selects "HoleWater$Water" ({ cls := "HoleWater$Water", name := "passHour", desc := "(LHoleWater$World;LHoleWater$Reader;)V" } : Jvm.MethodName) ({ cls := "HoleWater$Water", name := "passHour", desc := "(LHoleWater$World;LHoleWater$Reader;)V" } : Jvm.MethodName)) ∈ mh_T := mh_T_in (List.mem_append_right _ (List.mem_of_getElem? (i := 503) (by decide +kernel))) (by decide +kernel)
set_option maxRecDepth 100000 in
theorem wd_504 : (Jvm.Cond.code ({ cls := "HoleWater$Water", name := "passHour", desc := "(LHoleWater$World;LHoleWater$Reader;)V" } : Jvm.MethodName) prog_10_method_6_code (4 : Nat) (Option.none : Option Jvm.ClassFile.FieldType)) ∈ mh_T := mh_T_in (List.mem_append_right _ (List.mem_of_getElem? (i := 504) (by decide +kernel))) (by decide +kernel)
set_option maxRecDepth 100000 in
theorem wd_505 : (Jvm.Cond.methodLink "HoleWater$Water" (69 : Nat) ({ cls := "HoleWater$Water", name := "leave", desc := "(ILHoleWater$Way;)V" } : Jvm.MethodName)) ∈ mh_T := mh_T_in (List.mem_append_right _ (List.mem_of_getElem? (i := 505) (by decide +kernel))) (by decide +kernel)
set_option maxRecDepth 100000 in
theorem wd_507 : (Jvm.Cond.instanceMethod ({ cls := "HoleWater$Water", name := "leave", desc := "(ILHoleWater$Way;)V" } : Jvm.MethodName)) ∈ mh_T := mh_T_in (List.mem_append_right _ (List.mem_of_getElem? (i := 507) (by decide +kernel))) (by decide +kernel)
set_option maxRecDepth 100000 in
theorem wd_508 : (Jvm.Cond.code ({ cls := "HoleWater$Water", name := "leave", desc := "(ILHoleWater$Way;)V" } : Jvm.MethodName) prog_10_method_8_code (9 : Nat) (Option.none : Option Jvm.ClassFile.FieldType)) ∈ mh_T := mh_T_in (List.mem_append_right _ (List.mem_of_getElem? (i := 508) (by decide +kernel))) (by decide +kernel)
set_option maxRecDepth 100000 in
theorem wd_509 : (Jvm.Cond.methodLink "HoleWater$Water" (96 : Nat) ({ cls := "HoleWater$Way", name := "takes", desc := "()I" } : Jvm.MethodName)) ∈ mh_T := mh_T_in (List.mem_append_right _ (List.mem_of_getElem? (i := 509) (by decide +kernel))) (by decide +kernel)
set_option maxRecDepth 100000 in
theorem wd_510 : (Jvm.Cond.methodLink "HoleWater$Water" (102 : Nat) ({ cls := "HoleWater$Water", name := "slotNow", desc := "(II)I" } : Jvm.MethodName)) ∈ mh_T := mh_T_in (List.mem_append_right _ (List.mem_of_getElem? (i := 510) (by decide +kernel))) (by decide +kernel)
set_option maxRecDepth 100000 in
theorem wd_512 : (Jvm.Cond.instanceMethod ({ cls := "HoleWater$Water", name := "slotNow", desc := "(II)I" } : Jvm.MethodName)) ∈ mh_T := mh_T_in (List.mem_append_right _ (List.mem_of_getElem? (i := 512) (by decide +kernel))) (by decide +kernel)
set_option maxRecDepth 100000 in
theorem wd_513 : (Jvm.Cond.code ({ cls := "HoleWater$Water", name := "slotNow", desc := "(II)I" } : Jvm.MethodName) prog_10_method_7_code (4 : Nat) (Option.some Jvm.ClassFile.FieldType.int)) ∈ mh_T := mh_T_in (List.mem_append_right _ (List.mem_of_getElem? (i := 513) (by decide +kernel))) (by decide +kernel)
set_option maxRecDepth 100000 in
theorem wd_514 : (Jvm.Cond.methodLink "HoleWater$Water" (106 : Nat) ({ cls := "HoleWater$Water", name := "fadeAway", desc := "(III)I" } : Jvm.MethodName)) ∈ mh_T := mh_T_in (List.mem_append_right _ (List.mem_of_getElem? (i := 514) (by decide +kernel))) (by decide +kernel)
set_option maxRecDepth 100000 in
theorem wd_516 : (Jvm.Cond.instanceMethod ({ cls := "HoleWater$Water", name := "fadeAway", desc := "(III)I" } : Jvm.MethodName)) ∈ mh_T := mh_T_in (List.mem_append_right _ (List.mem_of_getElem? (i := 516) (by decide +kernel))) (by decide +kernel)
set_option maxRecDepth 100000 in
theorem wd_517 : (Jvm.Cond.code ({ cls := "HoleWater$Water", name := "fadeAway", desc := "(III)I" } : Jvm.MethodName) prog_10_method_9_code (5 : Nat) (Option.some Jvm.ClassFile.FieldType.int)) ∈ mh_T := mh_T_in (List.mem_append_right _ (List.mem_of_getElem? (i := 517) (by decide +kernel))) (by decide +kernel)
set_option maxRecDepth 100000 in
theorem wd_518 : (Jvm.Cond.methodLink "HoleWater$Water" (119 : Nat) ({ cls := "java/lang/Math", name := "min", desc := "(II)I" } : Jvm.MethodName)) ∈ mh_T := mh_T_in (List.mem_append_right _ (List.mem_of_getElem? (i := 518) (by decide +kernel))) (by decide +kernel)
set_option maxRecDepth 100000 in
theorem wd_521 : (Jvm.Cond.classLink "HoleWater$Water" (110 : Nat) "HoleWater$Pool") ∈ mh_T := mh_T_in (List.mem_append_right _ (List.mem_of_getElem? (i := 521) (by decide +kernel))) (by decide +kernel)
set_option maxRecDepth 100000 in
theorem wd_522 : (Jvm.Cond.methodLink "HoleWater$Water" (112 : Nat) ({ cls := "HoleWater$Pool", name := "lets", desc := "(I)I" } : Jvm.MethodName)) ∈ mh_T := mh_T_in (List.mem_append_right _ (List.mem_of_getElem? (i := 522) (by decide +kernel))) (by decide +kernel)
set_option maxRecDepth 100000 in
theorem wd_523 : (Jvm.Cond.instanceMethod ({ cls := "HoleWater$Pool", name := "lets", desc := "(I)I" } : Jvm.MethodName)) ∈ mh_T := mh_T_in (List.mem_append_right _ (List.mem_of_getElem? (i := 523) (by decide +kernel))) (by decide +kernel)
set_option maxRecDepth 100000 in
theorem wd_524 : (Jvm.Cond.selects "HoleWater$Pool" ({ cls := "HoleWater$Pool", name := "lets", desc := "(I)I" } : Jvm.MethodName) ({ cls := "HoleWater$Pool", name := "lets", desc := "(I)I" } : Jvm.MethodName)) ∈ mh_T := mh_T_in (List.mem_append_right _ (List.mem_of_getElem? (i := 524) (by decide +kernel))) (by decide +kernel)
set_option maxRecDepth 100000 in
theorem wd_525 : (Jvm.Cond.code ({ cls := "HoleWater$Pool", name := "lets", desc := "(I)I" } : Jvm.MethodName) prog_6_method_3_code (3 : Nat) (Option.some Jvm.ClassFile.FieldType.int)) ∈ mh_T := mh_T_in (List.mem_append_right _ (List.mem_of_getElem? (i := 525) (by decide +kernel))) (by decide +kernel)
set_option maxRecDepth 100000 in
theorem wd_527 : (Jvm.Cond.static ({ cls := "HoleWater", name := "by", desc := "(II)I" } : Jvm.MethodName)) ∈ mh_T := mh_T_in (List.mem_append_right _ (List.mem_of_getElem? (i := 527) (by decide +kernel))) (by decide +kernel)
set_option maxRecDepth 100000 in
theorem wd_528 : (Jvm.Cond.code ({ cls := "HoleWater", name := "by", desc := "(II)I" } : Jvm.MethodName) prog_1_method_52_code (2 : Nat) (Option.some Jvm.ClassFile.FieldType.int)) ∈ mh_T := mh_T_in (List.mem_append_right _ (List.mem_of_getElem? (i := 528) (by decide +kernel))) (by decide +kernel)
set_option maxRecDepth 100000 in
theorem wd_529 : (Jvm.Cond.methodLink "HoleWater$Water" (76 : Nat) ({ cls := "HoleWater$World", name := "isOf", desc := "(II)Z" } : Jvm.MethodName)) ∈ mh_T := mh_T_in (List.mem_append_right _ (List.mem_of_getElem? (i := 529) (by decide +kernel))) (by decide +kernel)
set_option maxRecDepth 100000 in
theorem wd_530 : (Jvm.Cond.methodLink "HoleWater$Water" (80 : Nat) ({ cls := "HoleWater$World", name := "rainOn", desc := "(ILHoleWater$Water;LHoleWater$Reader;)I" } : Jvm.MethodName)) ∈ mh_T := mh_T_in (List.mem_append_right _ (List.mem_of_getElem? (i := 530) (by decide +kernel))) (by decide +kernel)
set_option maxRecDepth 100000 in
theorem wd_531 : (Jvm.Cond.instanceMethod ({ cls := "HoleWater$World", name := "rainOn", desc := "(ILHoleWater$Water;LHoleWater$Reader;)I" } : Jvm.MethodName)) ∈ mh_T := mh_T_in (List.mem_append_right _ (List.mem_of_getElem? (i := 531) (by decide +kernel))) (by decide +kernel)
set_option maxRecDepth 100000 in
theorem wd_532 : (Jvm.Cond.selects "HoleWater$World" ({ cls := "HoleWater$World", name := "rainOn", desc := "(ILHoleWater$Water;LHoleWater$Reader;)I" } : Jvm.MethodName) ({ cls := "HoleWater$World", name := "rainOn", desc := "(ILHoleWater$Water;LHoleWater$Reader;)I" } : Jvm.MethodName)) ∈ mh_T := mh_T_in (List.mem_append_right _ (List.mem_of_getElem? (i := 532) (by decide +kernel))) (by decide +kernel)
set_option maxRecDepth 100000 in
theorem wd_533 : (Jvm.Cond.code ({ cls := "HoleWater$World", name := "rainOn", desc := "(ILHoleWater$Water;LHoleWater$Reader;)I" } : Jvm.MethodName) prog_12_method_12_code (4 : Nat) (Option.some Jvm.ClassFile.FieldType.int)) ∈ mh_T := mh_T_in (List.mem_append_right _ (List.mem_of_getElem? (i := 533) (by decide +kernel))) (by decide +kernel)
set_option maxRecDepth 100000 in
theorem wd_535 : (Jvm.Cond.methodLink "HoleWater$World" (127 : Nat) ({ cls := "HoleWater$Reader", name := "toldBy", desc := "(LHoleWater$Row;Ljava/lang/String;)I" } : Jvm.MethodName)) ∈ mh_T := mh_T_in (List.mem_append_right _ (List.mem_of_getElem? (i := 535) (by decide +kernel))) (by decide +kernel)
set_option maxRecDepth 100000 in
theorem wd_536 : (Jvm.Cond.instanceMethod ({ cls := "HoleWater$Reader", name := "toldBy", desc := "(LHoleWater$Row;Ljava/lang/String;)I" } : Jvm.MethodName)) ∈ mh_T := mh_T_in (List.mem_append_right _ (List.mem_of_getElem? (i := 536) (by decide +kernel))) (by decide +kernel)
set_option maxRecDepth 100000 in
theorem wd_537 : (Jvm.Cond.selects "HoleWater$Reader" ({ cls := "HoleWater$Reader", name := "toldBy", desc := "(LHoleWater$Row;Ljava/lang/String;)I" } : Jvm.MethodName) ({ cls := "HoleWater$Reader", name := "toldBy", desc := "(LHoleWater$Row;Ljava/lang/String;)I" } : Jvm.MethodName)) ∈ mh_T := mh_T_in (List.mem_append_right _ (List.mem_of_getElem? (i := 537) (by decide +kernel))) (by decide +kernel)
set_option maxRecDepth 100000 in
theorem wd_538 : (Jvm.Cond.code ({ cls := "HoleWater$Reader", name := "toldBy", desc := "(LHoleWater$Row;Ljava/lang/String;)I" } : Jvm.MethodName) prog_7_method_3_code (5 : Nat) (Option.some Jvm.ClassFile.FieldType.int)) ∈ mh_T := mh_T_in (List.mem_append_right _ (List.mem_of_getElem? (i := 538) (by decide +kernel))) (by decide +kernel)
set_option maxRecDepth 100000 in
theorem wd_539 : (Jvm.Cond.methodLink "HoleWater$Reader" (35 : Nat) ({ cls := "HoleWater$Reader", name := "begin", desc := "(LHoleWater$Row;Ljava/lang/String;)V" } : Jvm.MethodName)) ∈ mh_T := mh_T_in (List.mem_append_right _ (List.mem_of_getElem? (i := 539) (by decide +kernel))) (by decide +kernel)
set_option maxRecDepth 100000 in
theorem wd_541 : (Jvm.Cond.instanceMethod ({ cls := "HoleWater$Reader", name := "begin", desc := "(LHoleWater$Row;Ljava/lang/String;)V" } : Jvm.MethodName)) ∈ mh_T := mh_T_in (List.mem_append_right _ (List.mem_of_getElem? (i := 541) (by decide +kernel))) (by decide +kernel)
set_option maxRecDepth 100000 in
theorem wd_542 : (Jvm.Cond.code ({ cls := "HoleWater$Reader", name := "begin", desc := "(LHoleWater$Row;Ljava/lang/String;)V" } : Jvm.MethodName) prog_7_method_4_code (3 : Nat) (Option.none : Option Jvm.ClassFile.FieldType)) ∈ mh_T := mh_T_in (List.mem_append_right _ (List.mem_of_getElem? (i := 542) (by decide +kernel))) (by decide +kernel)
set_option maxRecDepth 100000 in
theorem wd_543 : (Jvm.Cond.methodLink "HoleWater$Reader" (57 : Nat) ({ cls := "java/lang/Math", name := "min", desc := "(II)I" } : Jvm.MethodName)) ∈ mh_T := mh_T_in (List.mem_append_right _ (List.mem_of_getElem? (i := 543) (by decide +kernel))) (by decide +kernel)
set_option maxRecDepth 100000 in
theorem wd_544 : (Jvm.Cond.methodLink "HoleWater$Reader" (39 : Nat) ({ cls := "HoleWater$Reader", name := "sum", desc := "(I)I" } : Jvm.MethodName)) ∈ mh_T := mh_T_in (List.mem_append_right _ (List.mem_of_getElem? (i := 544) (by decide +kernel))) (by decide +kernel)
set_option maxRecDepth 100000 in
theorem wd_546 : (Jvm.Cond.instanceMethod ({ cls := "HoleWater$Reader", name := "sum", desc := "(I)I" } : Jvm.MethodName)) ∈ mh_T := mh_T_in (List.mem_append_right _ (List.mem_of_getElem? (i := 546) (by decide +kernel))) (by decide +kernel)
set_option maxRecDepth 100000 in
theorem wd_547 : (Jvm.Cond.code ({ cls := "HoleWater$Reader", name := "sum", desc := "(I)I" } : Jvm.MethodName) prog_7_method_8_code (4 : Nat) (Option.some Jvm.ClassFile.FieldType.int)) ∈ mh_T := mh_T_in (List.mem_append_right _ (List.mem_of_getElem? (i := 547) (by decide +kernel))) (by decide +kernel)
set_option maxRecDepth 100000 in
theorem wd_548 : (Jvm.Cond.methodLink "HoleWater$Reader" (67 : Nat) ({ cls := "HoleWater$Reader", name := "term", desc := "(I)I" } : Jvm.MethodName)) ∈ mh_T := mh_T_in (List.mem_append_right _ (List.mem_of_getElem? (i := 548) (by decide +kernel))) (by decide +kernel)
set_option maxRecDepth 100000 in
theorem wd_550 : (Jvm.Cond.instanceMethod ({ cls := "HoleWater$Reader", name := "term", desc := "(I)I" } : Jvm.MethodName)) ∈ mh_T := mh_T_in (List.mem_append_right _ (List.mem_of_getElem? (i := 550) (by decide +kernel))) (by decide +kernel)
set_option maxRecDepth 100000 in
theorem wd_551 : (Jvm.Cond.code ({ cls := "HoleWater$Reader", name := "term", desc := "(I)I" } : Jvm.MethodName) prog_7_method_9_code (4 : Nat) (Option.some Jvm.ClassFile.FieldType.int)) ∈ mh_T := mh_T_in (List.mem_append_right _ (List.mem_of_getElem? (i := 551) (by decide +kernel))) (by decide +kernel)
set_option maxRecDepth 100000 in
theorem wd_552 : (Jvm.Cond.methodLink "HoleWater$Reader" (70 : Nat) ({ cls := "HoleWater$Reader", name := "one", desc := "(I)I" } : Jvm.MethodName)) ∈ mh_T := mh_T_in (List.mem_append_right _ (List.mem_of_getElem? (i := 552) (by decide +kernel))) (by decide +kernel)
set_option maxRecDepth 100000 in
theorem wd_554 : (Jvm.Cond.instanceMethod ({ cls := "HoleWater$Reader", name := "one", desc := "(I)I" } : Jvm.MethodName)) ∈ mh_T := mh_T_in (List.mem_append_right _ (List.mem_of_getElem? (i := 554) (by decide +kernel))) (by decide +kernel)
set_option maxRecDepth 100000 in
theorem wd_555 : (Jvm.Cond.code ({ cls := "HoleWater$Reader", name := "one", desc := "(I)I" } : Jvm.MethodName) prog_7_method_10_code (3 : Nat) (Option.some Jvm.ClassFile.FieldType.int)) ∈ mh_T := mh_T_in (List.mem_append_right _ (List.mem_of_getElem? (i := 555) (by decide +kernel))) (by decide +kernel)
set_option maxRecDepth 100000 in
theorem wd_556 : (Jvm.Cond.methodLink "HoleWater$Reader" (63 : Nat) ({ cls := "HoleWater$Reader", name := "next", desc := "()I" } : Jvm.MethodName)) ∈ mh_T := mh_T_in (List.mem_append_right _ (List.mem_of_getElem? (i := 556) (by decide +kernel))) (by decide +kernel)
set_option maxRecDepth 100000 in
theorem wd_558 : (Jvm.Cond.instanceMethod ({ cls := "HoleWater$Reader", name := "next", desc := "()I" } : Jvm.MethodName)) ∈ mh_T := mh_T_in (List.mem_append_right _ (List.mem_of_getElem? (i := 558) (by decide +kernel))) (by decide +kernel)
set_option maxRecDepth 100000 in
theorem wd_559 : (Jvm.Cond.code ({ cls := "HoleWater$Reader", name := "next", desc := "()I" } : Jvm.MethodName) prog_7_method_5_code (1 : Nat) (Option.some Jvm.ClassFile.FieldType.int)) ∈ mh_T := mh_T_in (List.mem_append_right _ (List.mem_of_getElem? (i := 559) (by decide +kernel))) (by decide +kernel)
set_option maxRecDepth 100000 in
theorem wd_560 : (Jvm.Cond.methodLink "HoleWater$Reader" (76 : Nat) ({ cls := "HoleWater$Reader", name := "isDigit", desc := "(I)Z" } : Jvm.MethodName)) ∈ mh_T := mh_T_in (List.mem_append_right _ (List.mem_of_getElem? (i := 560) (by decide +kernel))) (by decide +kernel)
set_option maxRecDepth 100000 in
theorem wd_561 : (Jvm.Cond.static ({ cls := "HoleWater$Reader", name := "isDigit", desc := "(I)Z" } : Jvm.MethodName)) ∈ mh_T := mh_T_in (List.mem_append_right _ (List.mem_of_getElem? (i := 561) (by decide +kernel))) (by decide +kernel)
set_option maxRecDepth 100000 in
theorem wd_562 : (Jvm.Cond.code ({ cls := "HoleWater$Reader", name := "isDigit", desc := "(I)Z" } : Jvm.MethodName) prog_7_method_12_code (1 : Nat) (Option.some Jvm.ClassFile.FieldType.boolean)) ∈ mh_T := mh_T_in (List.mem_append_right _ (List.mem_of_getElem? (i := 562) (by decide +kernel))) (by decide +kernel)
set_option maxRecDepth 100000 in
theorem wd_563 : (Jvm.Cond.methodLink "HoleWater$Reader" (79 : Nat) ({ cls := "HoleWater$Reader", name := "number", desc := "()I" } : Jvm.MethodName)) ∈ mh_T := mh_T_in (List.mem_append_right _ (List.mem_of_getElem? (i := 563) (by decide +kernel))) (by decide +kernel)
set_option maxRecDepth 100000 in
theorem wd_565 : (Jvm.Cond.instanceMethod ({ cls := "HoleWater$Reader", name := "number", desc := "()I" } : Jvm.MethodName)) ∈ mh_T := mh_T_in (List.mem_append_right _ (List.mem_of_getElem? (i := 565) (by decide +kernel))) (by decide +kernel)
set_option maxRecDepth 100000 in
theorem wd_566 : (Jvm.Cond.code ({ cls := "HoleWater$Reader", name := "number", desc := "()I" } : Jvm.MethodName) prog_7_method_11_code (3 : Nat) (Option.some Jvm.ClassFile.FieldType.int)) ∈ mh_T := mh_T_in (List.mem_append_right _ (List.mem_of_getElem? (i := 566) (by decide +kernel))) (by decide +kernel)
set_option maxRecDepth 100000 in
theorem wd_567 : (Jvm.Cond.methodLink "HoleWater$Reader" (47 : Nat) ({ cls := "HoleWater$Reader", name := "take", desc := "(I)Z" } : Jvm.MethodName)) ∈ mh_T := mh_T_in (List.mem_append_right _ (List.mem_of_getElem? (i := 567) (by decide +kernel))) (by decide +kernel)
set_option maxRecDepth 100000 in
theorem wd_569 : (Jvm.Cond.instanceMethod ({ cls := "HoleWater$Reader", name := "take", desc := "(I)Z" } : Jvm.MethodName)) ∈ mh_T := mh_T_in (List.mem_append_right _ (List.mem_of_getElem? (i := 569) (by decide +kernel))) (by decide +kernel)
set_option maxRecDepth 100000 in
theorem wd_570 : (Jvm.Cond.code ({ cls := "HoleWater$Reader", name := "take", desc := "(I)Z" } : Jvm.MethodName) prog_7_method_6_code (2 : Nat) (Option.some Jvm.ClassFile.FieldType.boolean)) ∈ mh_T := mh_T_in (List.mem_append_right _ (List.mem_of_getElem? (i := 570) (by decide +kernel))) (by decide +kernel)
set_option maxRecDepth 100000 in
theorem wd_571 : (Jvm.Cond.methodLink "HoleWater$Reader" (82 : Nat) ({ cls := "java/lang/String", name := "indexOf", desc := "(I)I" } : Jvm.MethodName)) ∈ mh_T := mh_T_in (List.mem_append_right _ (List.mem_of_getElem? (i := 571) (by decide +kernel))) (by decide +kernel)
set_option maxRecDepth 100000 in
theorem wd_654 : (Jvm.Cond.methodLink "HoleWater$Reader" (43 : Nat) ({ cls := "HoleWater$Reader", name := "tests", desc := "()Z" } : Jvm.MethodName)) ∈ mh_T := mh_T_in (List.mem_append_right _ (List.mem_of_getElem? (i := 654) (by decide +kernel))) (by decide +kernel)
set_option maxRecDepth 100000 in
theorem wd_656 : (Jvm.Cond.instanceMethod ({ cls := "HoleWater$Reader", name := "tests", desc := "()Z" } : Jvm.MethodName)) ∈ mh_T := mh_T_in (List.mem_append_right _ (List.mem_of_getElem? (i := 656) (by decide +kernel))) (by decide +kernel)
set_option maxRecDepth 100000 in
theorem wd_657 : (Jvm.Cond.code ({ cls := "HoleWater$Reader", name := "tests", desc := "()Z" } : Jvm.MethodName) prog_7_method_7_code (7 : Nat) (Option.some Jvm.ClassFile.FieldType.boolean)) ∈ mh_T := mh_T_in (List.mem_append_right _ (List.mem_of_getElem? (i := 657) (by decide +kernel))) (by decide +kernel)
set_option maxRecDepth 100000 in
theorem wd_659 : (Jvm.Cond.static ({ cls := "HoleWater", name := "held", desc := "(III)I" } : Jvm.MethodName)) ∈ mh_T := mh_T_in (List.mem_append_right _ (List.mem_of_getElem? (i := 659) (by decide +kernel))) (by decide +kernel)
set_option maxRecDepth 100000 in
theorem wd_660 : (Jvm.Cond.code ({ cls := "HoleWater", name := "held", desc := "(III)I" } : Jvm.MethodName) prog_1_method_53_code (3 : Nat) (Option.some Jvm.ClassFile.FieldType.int)) ∈ mh_T := mh_T_in (List.mem_append_right _ (List.mem_of_getElem? (i := 660) (by decide +kernel))) (by decide +kernel)
set_option maxRecDepth 100000 in
theorem wd_661 : (Jvm.Cond.methodLink "HoleWater" (374 : Nat) ({ cls := "java/lang/Math", name := "min", desc := "(II)I" } : Jvm.MethodName)) ∈ mh_T := mh_T_in (List.mem_append_right _ (List.mem_of_getElem? (i := 661) (by decide +kernel))) (by decide +kernel)
set_option maxRecDepth 100000 in
theorem wd_662 : (Jvm.Cond.methodLink "HoleWater" (379 : Nat) ({ cls := "java/lang/Math", name := "max", desc := "(II)I" } : Jvm.MethodName)) ∈ mh_T := mh_T_in (List.mem_append_right _ (List.mem_of_getElem? (i := 662) (by decide +kernel))) (by decide +kernel)
set_option maxRecDepth 100000 in
theorem wd_663 : (Jvm.Cond.methodLink "HoleWater$Water" (84 : Nat) ({ cls := "HoleWater$World", name := "isOutlet", desc := "(I)Z" } : Jvm.MethodName)) ∈ mh_T := mh_T_in (List.mem_append_right _ (List.mem_of_getElem? (i := 663) (by decide +kernel))) (by decide +kernel)
set_option maxRecDepth 100000 in
theorem wd_664 : (Jvm.Cond.methodLink "HoleWater$Water" (88 : Nat) ({ cls := "HoleWater$Water", name := "comeOut", desc := "(II)V" } : Jvm.MethodName)) ∈ mh_T := mh_T_in (List.mem_append_right _ (List.mem_of_getElem? (i := 664) (by decide +kernel))) (by decide +kernel)
set_option maxRecDepth 100000 in
theorem wd_666 : (Jvm.Cond.instanceMethod ({ cls := "HoleWater$Water", name := "comeOut", desc := "(II)V" } : Jvm.MethodName)) ∈ mh_T := mh_T_in (List.mem_append_right _ (List.mem_of_getElem? (i := 666) (by decide +kernel))) (by decide +kernel)
set_option maxRecDepth 100000 in
theorem wd_667 : (Jvm.Cond.code ({ cls := "HoleWater$Water", name := "comeOut", desc := "(II)V" } : Jvm.MethodName) prog_10_method_10_code (5 : Nat) (Option.none : Option Jvm.ClassFile.FieldType)) ∈ mh_T := mh_T_in (List.mem_append_right _ (List.mem_of_getElem? (i := 667) (by decide +kernel))) (by decide +kernel)
set_option maxRecDepth 100000 in
theorem wd_668 : (Jvm.Cond.methodLink "HoleWater$Water" (92 : Nat) ({ cls := "HoleWater$Water", name := "sendOff", desc := "(ILHoleWater$World;)V" } : Jvm.MethodName)) ∈ mh_T := mh_T_in (List.mem_append_right _ (List.mem_of_getElem? (i := 668) (by decide +kernel))) (by decide +kernel)
set_option maxRecDepth 100000 in
theorem wd_670 : (Jvm.Cond.instanceMethod ({ cls := "HoleWater$Water", name := "sendOff", desc := "(ILHoleWater$World;)V" } : Jvm.MethodName)) ∈ mh_T := mh_T_in (List.mem_append_right _ (List.mem_of_getElem? (i := 670) (by decide +kernel))) (by decide +kernel)
set_option maxRecDepth 100000 in
theorem wd_671 : (Jvm.Cond.code ({ cls := "HoleWater$Water", name := "sendOff", desc := "(ILHoleWater$World;)V" } : Jvm.MethodName) prog_10_method_11_code (7 : Nat) (Option.none : Option Jvm.ClassFile.FieldType)) ∈ mh_T := mh_T_in (List.mem_append_right _ (List.mem_of_getElem? (i := 671) (by decide +kernel))) (by decide +kernel)
set_option maxRecDepth 100000 in
theorem wd_672 : (Jvm.Cond.methodLink "HoleWater$Water" (124 : Nat) ({ cls := "HoleWater$Water", name := "shareOut", desc := "(IILHoleWater$World;)I" } : Jvm.MethodName)) ∈ mh_T := mh_T_in (List.mem_append_right _ (List.mem_of_getElem? (i := 672) (by decide +kernel))) (by decide +kernel)
set_option maxRecDepth 100000 in
theorem wd_674 : (Jvm.Cond.instanceMethod ({ cls := "HoleWater$Water", name := "shareOut", desc := "(IILHoleWater$World;)I" } : Jvm.MethodName)) ∈ mh_T := mh_T_in (List.mem_append_right _ (List.mem_of_getElem? (i := 674) (by decide +kernel))) (by decide +kernel)
set_option maxRecDepth 100000 in
theorem wd_675 : (Jvm.Cond.code ({ cls := "HoleWater$Water", name := "shareOut", desc := "(IILHoleWater$World;)I" } : Jvm.MethodName) prog_10_method_13_code (10 : Nat) (Option.some Jvm.ClassFile.FieldType.int)) ∈ mh_T := mh_T_in (List.mem_append_right _ (List.mem_of_getElem? (i := 675) (by decide +kernel))) (by decide +kernel)
set_option maxRecDepth 100000 in
theorem wd_676 : (Jvm.Cond.classLink "HoleWater$Water" (142 : Nat) "HoleWater$Overflow") ∈ mh_T := mh_T_in (List.mem_append_right _ (List.mem_of_getElem? (i := 676) (by decide +kernel))) (by decide +kernel)
set_option maxRecDepth 100000 in
theorem wd_677 : (Jvm.Cond.methodLink "HoleWater$Water" (147 : Nat) ({ cls := "java/lang/Math", name := "max", desc := "(II)I" } : Jvm.MethodName)) ∈ mh_T := mh_T_in (List.mem_append_right _ (List.mem_of_getElem? (i := 677) (by decide +kernel))) (by decide +kernel)
set_option maxRecDepth 100000 in
theorem wd_679 : (Jvm.Cond.methodLink "HoleWater$Water" (131 : Nat) ({ cls := "HoleWater$Water", name := "enter", desc := "(ILHoleWater$Way;II)V" } : Jvm.MethodName)) ∈ mh_T := mh_T_in (List.mem_append_right _ (List.mem_of_getElem? (i := 679) (by decide +kernel))) (by decide +kernel)
set_option maxRecDepth 100000 in
theorem wd_681 : (Jvm.Cond.instanceMethod ({ cls := "HoleWater$Water", name := "enter", desc := "(ILHoleWater$Way;II)V" } : Jvm.MethodName)) ∈ mh_T := mh_T_in (List.mem_append_right _ (List.mem_of_getElem? (i := 681) (by decide +kernel))) (by decide +kernel)
set_option maxRecDepth 100000 in
theorem wd_682 : (Jvm.Cond.code ({ cls := "HoleWater$Water", name := "enter", desc := "(ILHoleWater$Way;II)V" } : Jvm.MethodName) prog_10_method_15_code (7 : Nat) (Option.none : Option Jvm.ClassFile.FieldType)) ∈ mh_T := mh_T_in (List.mem_append_right _ (List.mem_of_getElem? (i := 682) (by decide +kernel))) (by decide +kernel)
set_option maxRecDepth 100000 in
theorem wd_683 : (Jvm.Cond.methodLink "HoleWater$Water" (153 : Nat) ({ cls := "HoleWater$Way", name := "keeps", desc := "(I)I" } : Jvm.MethodName)) ∈ mh_T := mh_T_in (List.mem_append_right _ (List.mem_of_getElem? (i := 683) (by decide +kernel))) (by decide +kernel)
set_option maxRecDepth 100000 in
theorem wd_684 : (Jvm.Cond.instanceMethod ({ cls := "HoleWater$Way", name := "keeps", desc := "(I)I" } : Jvm.MethodName)) ∈ mh_T := mh_T_in (List.mem_append_right _ (List.mem_of_getElem? (i := 684) (by decide +kernel))) (by decide +kernel)
set_option maxRecDepth 100000 in
theorem wd_685 : (Jvm.Cond.selects "HoleWater$Way" ({ cls := "HoleWater$Way", name := "keeps", desc := "(I)I" } : Jvm.MethodName) ({ cls := "HoleWater$Way", name := "keeps", desc := "(I)I" } : Jvm.MethodName)) ∈ mh_T := mh_T_in (List.mem_append_right _ (List.mem_of_getElem? (i := 685) (by decide +kernel))) (by decide +kernel)
set_option maxRecDepth 100000 in
theorem wd_686 : (Jvm.Cond.sameMethod "HoleWater$Way" "HoleWater$Way" "keeps" "(I)I") ∈ mh_T := mh_T_in (List.mem_append_right _ (List.mem_of_getElem? (i := 686) (by decide +kernel))) (by decide +kernel)
set_option maxRecDepth 100000 in
theorem wd_687 : (Jvm.Cond.selects "HoleWater$Blind" ({ cls := "HoleWater$Way", name := "keeps", desc := "(I)I" } : Jvm.MethodName) ({ cls := "HoleWater$Sieve", name := "keeps", desc := "(I)I" } : Jvm.MethodName)) ∈ mh_T := mh_T_in (List.mem_append_right _ (List.mem_of_getElem? (i := 687) (by decide +kernel))) (by decide +kernel)
set_option maxRecDepth 100000 in
theorem wd_688 : (Jvm.Cond.instanceMethod ({ cls := "HoleWater$Sieve", name := "keeps", desc := "(I)I" } : Jvm.MethodName)) ∈ mh_T := mh_T_in (List.mem_append_right _ (List.mem_of_getElem? (i := 688) (by decide +kernel))) (by decide +kernel)
set_option maxRecDepth 100000 in
theorem wd_689 : (Jvm.Cond.code ({ cls := "HoleWater$Sieve", name := "keeps", desc := "(I)I" } : Jvm.MethodName) prog_9_method_4_code (2 : Nat) (Option.some Jvm.ClassFile.FieldType.int)) ∈ mh_T := mh_T_in (List.mem_append_right _ (List.mem_of_getElem? (i := 689) (by decide +kernel))) (by decide +kernel)
set_option maxRecDepth 100000 in
theorem wd_691 : (Jvm.Cond.selects "HoleWater$Open" ({ cls := "HoleWater$Way", name := "keeps", desc := "(I)I" } : Jvm.MethodName) ({ cls := "HoleWater$Way", name := "keeps", desc := "(I)I" } : Jvm.MethodName)) ∈ mh_T := mh_T_in (List.mem_append_right _ (List.mem_of_getElem? (i := 691) (by decide +kernel))) (by decide +kernel)
set_option maxRecDepth 100000 in
theorem wd_692 : (Jvm.Cond.selects "HoleWater$Overflow" ({ cls := "HoleWater$Way", name := "keeps", desc := "(I)I" } : Jvm.MethodName) ({ cls := "HoleWater$Way", name := "keeps", desc := "(I)I" } : Jvm.MethodName)) ∈ mh_T := mh_T_in (List.mem_append_right _ (List.mem_of_getElem? (i := 692) (by decide +kernel))) (by decide +kernel)
set_option maxRecDepth 100000 in
theorem wd_693 : (Jvm.Cond.selects "HoleWater$Pool" ({ cls := "HoleWater$Way", name := "keeps", desc := "(I)I" } : Jvm.MethodName) ({ cls := "HoleWater$Way", name := "keeps", desc := "(I)I" } : Jvm.MethodName)) ∈ mh_T := mh_T_in (List.mem_append_right _ (List.mem_of_getElem? (i := 693) (by decide +kernel))) (by decide +kernel)
set_option maxRecDepth 100000 in
theorem wd_694 : (Jvm.Cond.selects "HoleWater$Sieve" ({ cls := "HoleWater$Way", name := "keeps", desc := "(I)I" } : Jvm.MethodName) ({ cls := "HoleWater$Sieve", name := "keeps", desc := "(I)I" } : Jvm.MethodName)) ∈ mh_T := mh_T_in (List.mem_append_right _ (List.mem_of_getElem? (i := 694) (by decide +kernel))) (by decide +kernel)
set_option maxRecDepth 100000 in
theorem wd_695 : (Jvm.Cond.code ({ cls := "HoleWater$Way", name := "keeps", desc := "(I)I" } : Jvm.MethodName) prog_11_method_4_code (2 : Nat) (Option.some Jvm.ClassFile.FieldType.int)) ∈ mh_T := mh_T_in (List.mem_append_right _ (List.mem_of_getElem? (i := 695) (by decide +kernel))) (by decide +kernel)
set_option maxRecDepth 100000 in
theorem wd_696 : (Jvm.Cond.classLink "HoleWater$Water" (156 : Nat) "HoleWater$Blind") ∈ mh_T := mh_T_in (List.mem_append_right _ (List.mem_of_getElem? (i := 696) (by decide +kernel))) (by decide +kernel)
set_option maxRecDepth 100000 in
theorem wd_697 : (Jvm.Cond.methodLink "HoleWater$Water" (135 : Nat) ({ cls := "HoleWater$Water", name := "sendGrains", desc := "(IIIILHoleWater$World;)V" } : Jvm.MethodName)) ∈ mh_T := mh_T_in (List.mem_append_right _ (List.mem_of_getElem? (i := 697) (by decide +kernel))) (by decide +kernel)
set_option maxRecDepth 100000 in
theorem wd_699 : (Jvm.Cond.instanceMethod ({ cls := "HoleWater$Water", name := "sendGrains", desc := "(IIIILHoleWater$World;)V" } : Jvm.MethodName)) ∈ mh_T := mh_T_in (List.mem_append_right _ (List.mem_of_getElem? (i := 699) (by decide +kernel))) (by decide +kernel)
set_option maxRecDepth 100000 in
theorem wd_700 : (Jvm.Cond.code ({ cls := "HoleWater$Water", name := "sendGrains", desc := "(IIIILHoleWater$World;)V" } : Jvm.MethodName) prog_10_method_12_code (10 : Nat) (Option.none : Option Jvm.ClassFile.FieldType)) ∈ mh_T := mh_T_in (List.mem_append_right _ (List.mem_of_getElem? (i := 700) (by decide +kernel))) (by decide +kernel)
set_option maxRecDepth 100000 in
theorem wd_701 : (Jvm.Cond.methodLink "HoleWater$Water" (139 : Nat) ({ cls := "HoleWater$Water", name := "part", desc := "(III)I" } : Jvm.MethodName)) ∈ mh_T := mh_T_in (List.mem_append_right _ (List.mem_of_getElem? (i := 701) (by decide +kernel))) (by decide +kernel)
set_option maxRecDepth 100000 in
theorem wd_702 : (Jvm.Cond.static ({ cls := "HoleWater$Water", name := "part", desc := "(III)I" } : Jvm.MethodName)) ∈ mh_T := mh_T_in (List.mem_append_right _ (List.mem_of_getElem? (i := 702) (by decide +kernel))) (by decide +kernel)
set_option maxRecDepth 100000 in
theorem wd_703 : (Jvm.Cond.code ({ cls := "HoleWater$Water", name := "part", desc := "(III)I" } : Jvm.MethodName) prog_10_method_14_code (3 : Nat) (Option.some Jvm.ClassFile.FieldType.int)) ∈ mh_T := mh_T_in (List.mem_append_right _ (List.mem_of_getElem? (i := 703) (by decide +kernel))) (by decide +kernel)
set_option maxRecDepth 100000 in
theorem wd_707 : (Jvm.Cond.code ({ cls := "HoleWater", name := "put", desc := "(III)I" } : Jvm.MethodName) prog_1_method_12_code (4 : Nat) (Option.some Jvm.ClassFile.FieldType.int)) ∈ mh_T := mh_T_in (List.mem_append_right _ (List.mem_of_getElem? (i := 707) (by decide +kernel))) (by decide +kernel)
set_option maxRecDepth 100000 in
theorem wd_708 : (Jvm.Cond.methodLink "HoleWater" (205 : Nat) ({ cls := "HoleWater$World", name := "putIn", desc := "(III)I" } : Jvm.MethodName)) ∈ mh_T := mh_T_in (List.mem_append_right _ (List.mem_of_getElem? (i := 708) (by decide +kernel))) (by decide +kernel)
set_option maxRecDepth 100000 in
theorem wd_709 : (Jvm.Cond.instanceMethod ({ cls := "HoleWater$World", name := "putIn", desc := "(III)I" } : Jvm.MethodName)) ∈ mh_T := mh_T_in (List.mem_append_right _ (List.mem_of_getElem? (i := 709) (by decide +kernel))) (by decide +kernel)
set_option maxRecDepth 100000 in
theorem wd_710 : (Jvm.Cond.selects "HoleWater$World" ({ cls := "HoleWater$World", name := "putIn", desc := "(III)I" } : Jvm.MethodName) ({ cls := "HoleWater$World", name := "putIn", desc := "(III)I" } : Jvm.MethodName)) ∈ mh_T := mh_T_in (List.mem_append_right _ (List.mem_of_getElem? (i := 710) (by decide +kernel))) (by decide +kernel)
set_option maxRecDepth 100000 in
theorem wd_711 : (Jvm.Cond.code ({ cls := "HoleWater$World", name := "putIn", desc := "(III)I" } : Jvm.MethodName) prog_12_method_10_code (4 : Nat) (Option.some Jvm.ClassFile.FieldType.int)) ∈ mh_T := mh_T_in (List.mem_append_right _ (List.mem_of_getElem? (i := 711) (by decide +kernel))) (by decide +kernel)
set_option maxRecDepth 100000 in
theorem wd_712 : (Jvm.Cond.methodLink "HoleWater$World" (105 : Nat) ({ cls := "HoleWater$Looks", name := "addPut", desc := "(IIII)I" } : Jvm.MethodName)) ∈ mh_T := mh_T_in (List.mem_append_right _ (List.mem_of_getElem? (i := 712) (by decide +kernel))) (by decide +kernel)
set_option maxRecDepth 100000 in
theorem wd_713 : (Jvm.Cond.instanceMethod ({ cls := "HoleWater$Looks", name := "addPut", desc := "(IIII)I" } : Jvm.MethodName)) ∈ mh_T := mh_T_in (List.mem_append_right _ (List.mem_of_getElem? (i := 713) (by decide +kernel))) (by decide +kernel)
set_option maxRecDepth 100000 in
theorem wd_714 : (Jvm.Cond.selects "HoleWater$Looks" ({ cls := "HoleWater$Looks", name := "addPut", desc := "(IIII)I" } : Jvm.MethodName) ({ cls := "HoleWater$Looks", name := "addPut", desc := "(IIII)I" } : Jvm.MethodName)) ∈ mh_T := mh_T_in (List.mem_append_right _ (List.mem_of_getElem? (i := 714) (by decide +kernel))) (by decide +kernel)
set_option maxRecDepth 100000 in
theorem wd_715 : (Jvm.Cond.code ({ cls := "HoleWater$Looks", name := "addPut", desc := "(IIII)I" } : Jvm.MethodName) prog_3_method_5_code (6 : Nat) (Option.some Jvm.ClassFile.FieldType.int)) ∈ mh_T := mh_T_in (List.mem_append_right _ (List.mem_of_getElem? (i := 715) (by decide +kernel))) (by decide +kernel)
set_option maxRecDepth 100000 in
theorem wd_719 : (Jvm.Cond.code ({ cls := "HoleWater", name := "putIs", desc := "(II)I" } : Jvm.MethodName) prog_1_method_13_code (3 : Nat) (Option.some Jvm.ClassFile.FieldType.int)) ∈ mh_T := mh_T_in (List.mem_append_right _ (List.mem_of_getElem? (i := 719) (by decide +kernel))) (by decide +kernel)
set_option maxRecDepth 100000 in
theorem wd_723 : (Jvm.Cond.code ({ cls := "HoleWater", name := "pours", desc := "(IIIII)I" } : Jvm.MethodName) prog_1_method_14_code (9 : Nat) (Option.some Jvm.ClassFile.FieldType.int)) ∈ mh_T := mh_T_in (List.mem_append_right _ (List.mem_of_getElem? (i := 723) (by decide +kernel))) (by decide +kernel)
set_option maxRecDepth 100000 in
theorem wd_724 : (Jvm.Cond.methodLink "HoleWater" (211 : Nat) ({ cls := "HoleWater", name := "isSheet", desc := "(I)Z" } : Jvm.MethodName)) ∈ mh_T := mh_T_in (List.mem_append_right _ (List.mem_of_getElem? (i := 724) (by decide +kernel))) (by decide +kernel)
set_option maxRecDepth 100000 in
theorem wd_725 : (Jvm.Cond.static ({ cls := "HoleWater", name := "isSheet", desc := "(I)Z" } : Jvm.MethodName)) ∈ mh_T := mh_T_in (List.mem_append_right _ (List.mem_of_getElem? (i := 725) (by decide +kernel))) (by decide +kernel)
set_option maxRecDepth 100000 in
theorem wd_726 : (Jvm.Cond.code ({ cls := "HoleWater", name := "isSheet", desc := "(I)Z" } : Jvm.MethodName) prog_1_method_50_code (1 : Nat) (Option.some Jvm.ClassFile.FieldType.boolean)) ∈ mh_T := mh_T_in (List.mem_append_right _ (List.mem_of_getElem? (i := 726) (by decide +kernel))) (by decide +kernel)
set_option maxRecDepth 100000 in
theorem wd_730 : (Jvm.Cond.code ({ cls := "HoleWater", name := "grains", desc := "(II)I" } : Jvm.MethodName) prog_1_method_15_code (3 : Nat) (Option.some Jvm.ClassFile.FieldType.int)) ∈ mh_T := mh_T_in (List.mem_append_right _ (List.mem_of_getElem? (i := 730) (by decide +kernel))) (by decide +kernel)
set_option maxRecDepth 100000 in
theorem wd_734 : (Jvm.Cond.code ({ cls := "HoleWater", name := "stuff", desc := "(II)I" } : Jvm.MethodName) prog_1_method_16_code (3 : Nat) (Option.some Jvm.ClassFile.FieldType.int)) ∈ mh_T := mh_T_in (List.mem_append_right _ (List.mem_of_getElem? (i := 734) (by decide +kernel))) (by decide +kernel)
set_option maxRecDepth 100000 in
theorem wd_735 : (Jvm.Cond.methodLink "HoleWater" (214 : Nat) ({ cls := "HoleWater$World", name := "allBelow", desc := "(I)I" } : Jvm.MethodName)) ∈ mh_T := mh_T_in (List.mem_append_right _ (List.mem_of_getElem? (i := 735) (by decide +kernel))) (by decide +kernel)
set_option maxRecDepth 100000 in
theorem wd_736 : (Jvm.Cond.instanceMethod ({ cls := "HoleWater$World", name := "allBelow", desc := "(I)I" } : Jvm.MethodName)) ∈ mh_T := mh_T_in (List.mem_append_right _ (List.mem_of_getElem? (i := 736) (by decide +kernel))) (by decide +kernel)
set_option maxRecDepth 100000 in
theorem wd_737 : (Jvm.Cond.selects "HoleWater$World" ({ cls := "HoleWater$World", name := "allBelow", desc := "(I)I" } : Jvm.MethodName) ({ cls := "HoleWater$World", name := "allBelow", desc := "(I)I" } : Jvm.MethodName)) ∈ mh_T := mh_T_in (List.mem_append_right _ (List.mem_of_getElem? (i := 737) (by decide +kernel))) (by decide +kernel)
set_option maxRecDepth 100000 in
theorem wd_738 : (Jvm.Cond.code ({ cls := "HoleWater$World", name := "allBelow", desc := "(I)I" } : Jvm.MethodName) prog_12_method_11_code (4 : Nat) (Option.some Jvm.ClassFile.FieldType.int)) ∈ mh_T := mh_T_in (List.mem_append_right _ (List.mem_of_getElem? (i := 738) (by decide +kernel))) (by decide +kernel)
set_option maxRecDepth 100000 in
theorem wd_739 : (Jvm.Cond.methodLink "HoleWater$World" (109 : Nat) ({ cls := "HoleWater$Water", name := "inWay", desc := "(II)I" } : Jvm.MethodName)) ∈ mh_T := mh_T_in (List.mem_append_right _ (List.mem_of_getElem? (i := 739) (by decide +kernel))) (by decide +kernel)
set_option maxRecDepth 100000 in
theorem wd_743 : (Jvm.Cond.code ({ cls := "HoleWater", name := "out", desc := "(III)I" } : Jvm.MethodName) prog_1_method_17_code (4 : Nat) (Option.some Jvm.ClassFile.FieldType.int)) ∈ mh_T := mh_T_in (List.mem_append_right _ (List.mem_of_getElem? (i := 743) (by decide +kernel))) (by decide +kernel)
set_option maxRecDepth 100000 in
theorem wd_744 : (Jvm.Cond.methodLink "HoleWater" (220 : Nat) ({ cls := "HoleWater$Water", name := "cameOut", desc := "(III)I" } : Jvm.MethodName)) ∈ mh_T := mh_T_in (List.mem_append_right _ (List.mem_of_getElem? (i := 744) (by decide +kernel))) (by decide +kernel)
set_option maxRecDepth 100000 in
theorem wd_745 : (Jvm.Cond.instanceMethod ({ cls := "HoleWater$Water", name := "cameOut", desc := "(III)I" } : Jvm.MethodName)) ∈ mh_T := mh_T_in (List.mem_append_right _ (List.mem_of_getElem? (i := 745) (by decide +kernel))) (by decide +kernel)
set_option maxRecDepth 100000 in
theorem wd_746 : (Jvm.Cond.selects "HoleWater$Water" ({ cls := "HoleWater$Water", name := "cameOut", desc := "(III)I" } : Jvm.MethodName) ({ cls := "HoleWater$Water", name := "cameOut", desc := "(III)I" } : Jvm.MethodName)) ∈ mh_T := mh_T_in (List.mem_append_right _ (List.mem_of_getElem? (i := 746) (by decide +kernel))) (by decide +kernel)
set_option maxRecDepth 100000 in
theorem wd_747 : (Jvm.Cond.code ({ cls := "HoleWater$Water", name := "cameOut", desc := "(III)I" } : Jvm.MethodName) prog_10_method_5_code (5 : Nat) (Option.some Jvm.ClassFile.FieldType.int)) ∈ mh_T := mh_T_in (List.mem_append_right _ (List.mem_of_getElem? (i := 747) (by decide +kernel))) (by decide +kernel)
set_option maxRecDepth 100000 in
theorem wd_751 : (Jvm.Cond.code ({ cls := "HoleWater", name := "spill", desc := "(IIII)I" } : Jvm.MethodName) prog_1_method_18_code (8 : Nat) (Option.some Jvm.ClassFile.FieldType.int)) ∈ mh_T := mh_T_in (List.mem_append_right _ (List.mem_of_getElem? (i := 751) (by decide +kernel))) (by decide +kernel)
set_option maxRecDepth 100000 in
theorem wd_752 : (Jvm.Cond.methodLink "HoleWater" (223 : Nat) ({ cls := "HoleWater", name := "spillError", desc := "(III)I" } : Jvm.MethodName)) ∈ mh_T := mh_T_in (List.mem_append_right _ (List.mem_of_getElem? (i := 752) (by decide +kernel))) (by decide +kernel)
set_option maxRecDepth 100000 in
theorem wd_754 : (Jvm.Cond.instanceMethod ({ cls := "HoleWater", name := "spillError", desc := "(III)I" } : Jvm.MethodName)) ∈ mh_T := mh_T_in (List.mem_append_right _ (List.mem_of_getElem? (i := 754) (by decide +kernel))) (by decide +kernel)
set_option maxRecDepth 100000 in
theorem wd_755 : (Jvm.Cond.code ({ cls := "HoleWater", name := "spillError", desc := "(III)I" } : Jvm.MethodName) prog_1_method_58_code (4 : Nat) (Option.some Jvm.ClassFile.FieldType.int)) ∈ mh_T := mh_T_in (List.mem_append_right _ (List.mem_of_getElem? (i := 755) (by decide +kernel))) (by decide +kernel)
set_option maxRecDepth 100000 in
theorem wd_756 : (Jvm.Cond.methodLink "HoleWater" (226 : Nat) ({ cls := "HoleWater$Water", name := "startSpill", desc := "(LHoleWater$Water;II)V" } : Jvm.MethodName)) ∈ mh_T := mh_T_in (List.mem_append_right _ (List.mem_of_getElem? (i := 756) (by decide +kernel))) (by decide +kernel)
set_option maxRecDepth 100000 in
theorem wd_757 : (Jvm.Cond.instanceMethod ({ cls := "HoleWater$Water", name := "startSpill", desc := "(LHoleWater$Water;II)V" } : Jvm.MethodName)) ∈ mh_T := mh_T_in (List.mem_append_right _ (List.mem_of_getElem? (i := 757) (by decide +kernel))) (by decide +kernel)
set_option maxRecDepth 100000 in
theorem wd_758 : (Jvm.Cond.selects "HoleWater$Water" ({ cls := "HoleWater$Water", name := "startSpill", desc := "(LHoleWater$Water;II)V" } : Jvm.MethodName) ({ cls := "HoleWater$Water", name := "startSpill", desc := "(LHoleWater$Water;II)V" } : Jvm.MethodName)) ∈ mh_T := mh_T_in (List.mem_append_right _ (List.mem_of_getElem? (i := 758) (by decide +kernel))) (by decide +kernel)
set_option maxRecDepth 100000 in
theorem wd_759 : (Jvm.Cond.code ({ cls := "HoleWater$Water", name := "startSpill", desc := "(LHoleWater$Water;II)V" } : Jvm.MethodName) prog_10_method_3_code (6 : Nat) (Option.none : Option Jvm.ClassFile.FieldType)) ∈ mh_T := mh_T_in (List.mem_append_right _ (List.mem_of_getElem? (i := 759) (by decide +kernel))) (by decide +kernel)
set_option maxRecDepth 100000 in
theorem wd_760 : (Jvm.Cond.methodLink "HoleWater$Water" (56 : Nat) ({ cls := "HoleWater$Water", name := "copyOf", desc := "(LHoleWater$Water;)V" } : Jvm.MethodName)) ∈ mh_T := mh_T_in (List.mem_append_right _ (List.mem_of_getElem? (i := 760) (by decide +kernel))) (by decide +kernel)
set_option maxRecDepth 100000 in
theorem wd_761 : (Jvm.Cond.instanceMethod ({ cls := "HoleWater$Water", name := "copyOf", desc := "(LHoleWater$Water;)V" } : Jvm.MethodName)) ∈ mh_T := mh_T_in (List.mem_append_right _ (List.mem_of_getElem? (i := 761) (by decide +kernel))) (by decide +kernel)
set_option maxRecDepth 100000 in
theorem wd_762 : (Jvm.Cond.selects "HoleWater$Water" ({ cls := "HoleWater$Water", name := "copyOf", desc := "(LHoleWater$Water;)V" } : Jvm.MethodName) ({ cls := "HoleWater$Water", name := "copyOf", desc := "(LHoleWater$Water;)V" } : Jvm.MethodName)) ∈ mh_T := mh_T_in (List.mem_append_right _ (List.mem_of_getElem? (i := 762) (by decide +kernel))) (by decide +kernel)
set_option maxRecDepth 100000 in
theorem wd_763 : (Jvm.Cond.code ({ cls := "HoleWater$Water", name := "copyOf", desc := "(LHoleWater$Water;)V" } : Jvm.MethodName) prog_10_method_2_code (2 : Nat) (Option.none : Option Jvm.ClassFile.FieldType)) ∈ mh_T := mh_T_in (List.mem_append_right _ (List.mem_of_getElem? (i := 763) (by decide +kernel))) (by decide +kernel)
set_option maxRecDepth 100000 in
theorem wd_764 : (Jvm.Cond.methodLink "HoleWater$Water" (50 : Nat) ({ cls := "java/lang/System", name := "arraycopy", desc := "(Ljava/lang/Object;ILjava/lang/Object;II)V" } : Jvm.MethodName)) ∈ mh_T := mh_T_in (List.mem_append_right _ (List.mem_of_getElem? (i := 764) (by decide +kernel))) (by decide +kernel)
set_option maxRecDepth 100000 in
theorem wd_765 : (Jvm.Cond.static ({ cls := "java/lang/System", name := "arraycopy", desc := "(Ljava/lang/Object;ILjava/lang/Object;II)V" } : Jvm.MethodName)) ∈ mh_T := mh_T_in (List.mem_append_right _ (List.mem_of_getElem? (i := 765) (by decide +kernel))) (by decide +kernel)
set_option maxRecDepth 100000 in
theorem wd_766 : (Jvm.Cond.native ({ cls := "java/lang/System", name := "arraycopy", desc := "(Ljava/lang/Object;ILjava/lang/Object;II)V" } : Jvm.MethodName)) ∈ mh_T := mh_T_in (List.mem_append_right _ (List.mem_of_getElem? (i := 766) (by decide +kernel))) (by decide +kernel)
set_option maxRecDepth 100000 in
theorem wd_770 : (Jvm.Cond.code ({ cls := "HoleWater", name := "first", desc := "(III)I" } : Jvm.MethodName) prog_1_method_19_code (6 : Nat) (Option.some Jvm.ClassFile.FieldType.int)) ∈ mh_T := mh_T_in (List.mem_append_right _ (List.mem_of_getElem? (i := 770) (by decide +kernel))) (by decide +kernel)
set_option maxRecDepth 100000 in
theorem wd_774 : (Jvm.Cond.code ({ cls := "HoleWater", name := "feed", desc := "(JI)I" } : Jvm.MethodName) prog_1_method_20_code (5 : Nat) (Option.some Jvm.ClassFile.FieldType.int)) ∈ mh_T := mh_T_in (List.mem_append_right _ (List.mem_of_getElem? (i := 774) (by decide +kernel))) (by decide +kernel)
set_option maxRecDepth 100000 in
theorem wd_775 : (Jvm.Cond.methodLink "HoleWater" (236 : Nat) ({ cls := "HoleWater$Row", name := "add", desc := "(I)Z" } : Jvm.MethodName)) ∈ mh_T := mh_T_in (List.mem_append_right _ (List.mem_of_getElem? (i := 775) (by decide +kernel))) (by decide +kernel)
