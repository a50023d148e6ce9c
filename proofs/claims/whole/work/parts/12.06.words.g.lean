set_option maxRecDepth 100000 in
theorem wd_1484 : (Jvm.Cond.methodLink "HoleWaterModel" (235 : Nat) ({ cls := "HoleWaterModel", name := "one", desc := "()V" } : Jvm.MethodName)) ∈ mh_T := mh_T_in (List.mem_append_right _ (List.mem_of_getElem? (i := 1484) (by decide +kernel))) (by decide +kernel)
set_option maxRecDepth 100000 in
theorem wd_1486 : (Jvm.Cond.instanceMethod ({ cls := "HoleWaterModel", name := "one", desc := "()V" } : Jvm.MethodName)) ∈ mh_T := mh_T_in (List.mem_append_right _ (List.mem_of_getElem? (i := 1486) (by decide +kernel))) (by decide +kernel)
set_option maxRecDepth 100000 in
theorem wd_1487 : (Jvm.Cond.code ({ cls := "HoleWaterModel", name := "one", desc := "()V" } : Jvm.MethodName) prog_14_method_57_code (4 : Nat) (Option.none : Option Jvm.ClassFile.FieldType)) ∈ mh_T := mh_T_in (List.mem_append_right _ (List.mem_of_getElem? (i := 1487) (by decide +kernel))) (by decide +kernel)
set_option maxRecDepth 100000 in
theorem wd_1488 : (Jvm.Cond.methodLink "HoleWaterModel" (207 : Nat) ({ cls := "HoleWaterModel", name := "here", desc := "()I" } : Jvm.MethodName)) ∈ mh_T := mh_T_in (List.mem_append_right _ (List.mem_of_getElem? (i := 1488) (by decide +kernel))) (by decide +kernel)
set_option maxRecDepth 100000 in
theorem wd_1490 : (Jvm.Cond.instanceMethod ({ cls := "HoleWaterModel", name := "here", desc := "()I" } : Jvm.MethodName)) ∈ mh_T := mh_T_in (List.mem_append_right _ (List.mem_of_getElem? (i := 1490) (by decide +kernel))) (by decide +kernel)
set_option maxRecDepth 100000 in
theorem wd_1491 : (Jvm.Cond.code ({ cls := "HoleWaterModel", name := "here", desc := "()I" } : Jvm.MethodName) prog_14_method_53_code (1 : Nat) (Option.some Jvm.ClassFile.FieldType.int)) ∈ mh_T := mh_T_in (List.mem_append_right _ (List.mem_of_getElem? (i := 1491) (by decide +kernel))) (by decide +kernel)
set_option maxRecDepth 100000 in
theorem wd_1492 : (Jvm.Cond.constantLong "HoleWaterModel" (214 : Nat) (48 : Int64)) ∈ mh_T := mh_T_in (List.mem_append_right _ (List.mem_of_getElem? (i := 1492) (by decide +kernel))) (by decide +kernel)
set_option maxRecDepth 100000 in
theorem wd_1493 : (Jvm.Cond.constantLong "HoleWaterModel" (216 : Nat) (57 : Int64)) ∈ mh_T := mh_T_in (List.mem_append_right _ (List.mem_of_getElem? (i := 1493) (by decide +kernel))) (by decide +kernel)
set_option maxRecDepth 100000 in
theorem wd_1494 : (Jvm.Cond.methodLink "HoleWaterModel" (218 : Nat) ({ cls := "HoleWaterModel", name := "puts", desc := "(I)V" } : Jvm.MethodName)) ∈ mh_T := mh_T_in (List.mem_append_right _ (List.mem_of_getElem? (i := 1494) (by decide +kernel))) (by decide +kernel)
set_option maxRecDepth 100000 in
theorem wd_1496 : (Jvm.Cond.instanceMethod ({ cls := "HoleWaterModel", name := "puts", desc := "(I)V" } : Jvm.MethodName)) ∈ mh_T := mh_T_in (List.mem_append_right _ (List.mem_of_getElem? (i := 1496) (by decide +kernel))) (by decide +kernel)
set_option maxRecDepth 100000 in
theorem wd_1497 : (Jvm.Cond.code ({ cls := "HoleWaterModel", name := "puts", desc := "(I)V" } : Jvm.MethodName) prog_14_method_55_code (2 : Nat) (Option.none : Option Jvm.ClassFile.FieldType)) ∈ mh_T := mh_T_in (List.mem_append_right _ (List.mem_of_getElem? (i := 1497) (by decide +kernel))) (by decide +kernel)
set_option maxRecDepth 100000 in
theorem wd_1498 : (Jvm.Cond.methodLink "HoleWaterModel" (223 : Nat) ({ cls := "HoleWaterModel", name := "nameOf", desc := "(II)I" } : Jvm.MethodName)) ∈ mh_T := mh_T_in (List.mem_append_right _ (List.mem_of_getElem? (i := 1498) (by decide +kernel))) (by decide +kernel)
set_option maxRecDepth 100000 in
theorem wd_1499 : (Jvm.Cond.static ({ cls := "HoleWaterModel", name := "nameOf", desc := "(II)I" } : Jvm.MethodName)) ∈ mh_T := mh_T_in (List.mem_append_right _ (List.mem_of_getElem? (i := 1499) (by decide +kernel))) (by decide +kernel)
set_option maxRecDepth 100000 in
theorem wd_1500 : (Jvm.Cond.code ({ cls := "HoleWaterModel", name := "nameOf", desc := "(II)I" } : Jvm.MethodName) prog_14_method_56_code (2 : Nat) (Option.some Jvm.ClassFile.FieldType.int)) ∈ mh_T := mh_T_in (List.mem_append_right _ (List.mem_of_getElem? (i := 1500) (by decide +kernel))) (by decide +kernel)
set_option maxRecDepth 100000 in
theorem wd_1501 : (Jvm.Cond.methodLink "HoleWaterModel" (232 : Nat) ({ cls := "HoleWaterModel", name := "takes", desc := "(C)Z" } : Jvm.MethodName)) ∈ mh_T := mh_T_in (List.mem_append_right _ (List.mem_of_getElem? (i := 1501) (by decide +kernel))) (by decide +kernel)
set_option maxRecDepth 100000 in
theorem wd_1503 : (Jvm.Cond.instanceMethod ({ cls := "HoleWaterModel", name := "takes", desc := "(C)Z" } : Jvm.MethodName)) ∈ mh_T := mh_T_in (List.mem_append_right _ (List.mem_of_getElem? (i := 1503) (by decide +kernel))) (by decide +kernel)
set_option maxRecDepth 100000 in
theorem wd_1504 : (Jvm.Cond.code ({ cls := "HoleWaterModel", name := "takes", desc := "(C)Z" } : Jvm.MethodName) prog_14_method_54_code (2 : Nat) (Option.some Jvm.ClassFile.FieldType.boolean)) ∈ mh_T := mh_T_in (List.mem_append_right _ (List.mem_of_getElem? (i := 1504) (by decide +kernel))) (by decide +kernel)
set_option maxRecDepth 100000 in
theorem wd_1505 : (Jvm.Cond.methodLink "HoleWaterModel" (244 : Nat) ({ cls := "HoleWaterModel", name := "test", desc := "()V" } : Jvm.MethodName)) ∈ mh_T := mh_T_in (List.mem_append_right _ (List.mem_of_getElem? (i := 1505) (by decide +kernel))) (by decide +kernel)
set_option maxRecDepth 100000 in
theorem wd_1507 : (Jvm.Cond.instanceMethod ({ cls := "HoleWaterModel", name := "test", desc := "()V" } : Jvm.MethodName)) ∈ mh_T := mh_T_in (List.mem_append_right _ (List.mem_of_getElem? (i := 1507) (by decide +kernel))) (by decide +kernel)
set_option maxRecDepth 100000 in
theorem wd_1508 : (Jvm.Cond.code ({ cls := "HoleWaterModel", name := "test", desc := "()V" } : Jvm.MethodName) prog_14_method_60_code (2 : Nat) (Option.none : Option Jvm.ClassFile.FieldType)) ∈ mh_T := mh_T_in (List.mem_append_right _ (List.mem_of_getElem? (i := 1508) (by decide +kernel))) (by decide +kernel)
set_option maxRecDepth 100000 in
theorem wd_1512 : (Jvm.Cond.code ({ cls := "HoleWaterModel", name := "rain", desc := "(I)I" } : Jvm.MethodName) prog_14_method_68_code (2 : Nat) (Option.some Jvm.ClassFile.FieldType.int)) ∈ mh_T := mh_T_in (List.mem_append_right _ (List.mem_of_getElem? (i := 1512) (by decide +kernel))) (by decide +kernel)
set_option maxRecDepth 100000 in
theorem wd_1516 : (Jvm.Cond.code ({ cls := "HoleWaterModel", name := "seen", desc := "(III)I" } : Jvm.MethodName) prog_14_method_70_code (4 : Nat) (Option.some Jvm.ClassFile.FieldType.int)) ∈ mh_T := mh_T_in (List.mem_append_right _ (List.mem_of_getElem? (i := 1516) (by decide +kernel))) (by decide +kernel)
set_option maxRecDepth 100000 in
theorem wd_1517 : (Jvm.Cond.methodLink "HoleWaterModel" (262 : Nat) ({ cls := "HoleWaterModel", name := "seenOf", desc := "(III)I" } : Jvm.MethodName)) ∈ mh_T := mh_T_in (List.mem_append_right _ (List.mem_of_getElem? (i := 1517) (by decide +kernel))) (by decide +kernel)
set_option maxRecDepth 100000 in
theorem wd_1519 : (Jvm.Cond.instanceMethod ({ cls := "HoleWaterModel", name := "seenOf", desc := "(III)I" } : Jvm.MethodName)) ∈ mh_T := mh_T_in (List.mem_append_right _ (List.mem_of_getElem? (i := 1519) (by decide +kernel))) (by decide +kernel)
set_option maxRecDepth 100000 in
theorem wd_1520 : (Jvm.Cond.code ({ cls := "HoleWaterModel", name := "seenOf", desc := "(III)I" } : Jvm.MethodName) prog_14_method_69_code (4 : Nat) (Option.some Jvm.ClassFile.FieldType.int)) ∈ mh_T := mh_T_in (List.mem_append_right _ (List.mem_of_getElem? (i := 1520) (by decide +kernel))) (by decide +kernel)
set_option maxRecDepth 100000 in
theorem wd_1524 : (Jvm.Cond.code ({ cls := "HoleWaterModel", name := "bottle", desc := "(II)I" } : Jvm.MethodName) prog_14_method_72_code (4 : Nat) (Option.some Jvm.ClassFile.FieldType.int)) ∈ mh_T := mh_T_in (List.mem_append_right _ (List.mem_of_getElem? (i := 1524) (by decide +kernel))) (by decide +kernel)
set_option maxRecDepth 100000 in
theorem wd_1525 : (Jvm.Cond.methodLink "HoleWaterModel" (265 : Nat) ({ cls := "HoleWaterModel", name := "looks", desc := "(IIII)Z" } : Jvm.MethodName)) ∈ mh_T := mh_T_in (List.mem_append_right _ (List.mem_of_getElem? (i := 1525) (by decide +kernel))) (by decide +kernel)
set_option maxRecDepth 100000 in
theorem wd_1527 : (Jvm.Cond.instanceMethod ({ cls := "HoleWaterModel", name := "looks", desc := "(IIII)Z" } : Jvm.MethodName)) ∈ mh_T := mh_T_in (List.mem_append_right _ (List.mem_of_getElem? (i := 1527) (by decide +kernel))) (by decide +kernel)
set_option maxRecDepth 100000 in
theorem wd_1528 : (Jvm.Cond.code ({ cls := "HoleWaterModel", name := "looks", desc := "(IIII)Z" } : Jvm.MethodName) prog_14_method_71_code (7 : Nat) (Option.some Jvm.ClassFile.FieldType.boolean)) ∈ mh_T := mh_T_in (List.mem_append_right _ (List.mem_of_getElem? (i := 1528) (by decide +kernel))) (by decide +kernel)
set_option maxRecDepth 100000 in
theorem wd_1532 : (Jvm.Cond.code ({ cls := "HoleWaterModel", name := "bag", desc := "(III)I" } : Jvm.MethodName) prog_14_method_73_code (6 : Nat) (Option.some Jvm.ClassFile.FieldType.int)) ∈ mh_T := mh_T_in (List.mem_append_right _ (List.mem_of_getElem? (i := 1532) (by decide +kernel))) (by decide +kernel)
set_option maxRecDepth 100000 in
theorem wd_1536 : (Jvm.Cond.code ({ cls := "HoleWaterModel", name := "lookIs", desc := "(II)I" } : Jvm.MethodName) prog_14_method_75_code (3 : Nat) (Option.some Jvm.ClassFile.FieldType.int)) ∈ mh_T := mh_T_in (List.mem_append_right _ (List.mem_of_getElem? (i := 1536) (by decide +kernel))) (by decide +kernel)
set_option maxRecDepth 100000 in
theorem wd_1537 : (Jvm.Cond.methodLink "HoleWaterModel" (269 : Nat) ({ cls := "HoleWaterModel", name := "look", desc := "(II)I" } : Jvm.MethodName)) ∈ mh_T := mh_T_in (List.mem_append_right _ (List.mem_of_getElem? (i := 1537) (by decide +kernel))) (by decide +kernel)
set_option maxRecDepth 100000 in
theorem wd_1539 : (Jvm.Cond.instanceMethod ({ cls := "HoleWaterModel", name := "look", desc := "(II)I" } : Jvm.MethodName)) ∈ mh_T := mh_T_in (List.mem_append_right _ (List.mem_of_getElem? (i := 1539) (by decide +kernel))) (by decide +kernel)
set_option maxRecDepth 100000 in
theorem wd_1540 : (Jvm.Cond.code ({ cls := "HoleWaterModel", name := "look", desc := "(II)I" } : Jvm.MethodName) prog_14_method_74_code (3 : Nat) (Option.some Jvm.ClassFile.FieldType.int)) ∈ mh_T := mh_T_in (List.mem_append_right _ (List.mem_of_getElem? (i := 1540) (by decide +kernel))) (by decide +kernel)
set_option maxRecDepth 100000 in
theorem wd_1544 : (Jvm.Cond.code ({ cls := "HoleWaterModel", name := "joined", desc := "(III)I" } : Jvm.MethodName) prog_14_method_79_code (5 : Nat) (Option.some Jvm.ClassFile.FieldType.int)) ∈ mh_T := mh_T_in (List.mem_append_right _ (List.mem_of_getElem? (i := 1544) (by decide +kernel))) (by decide +kernel)
set_option maxRecDepth 100000 in
theorem wd_1545 : (Jvm.Cond.constantLong "HoleWaterModel" (276 : Nat) (2 : Int64)) ∈ mh_T := mh_T_in (List.mem_append_right _ (List.mem_of_getElem? (i := 1545) (by decide +kernel))) (by decide +kernel)
set_option maxRecDepth 100000 in
theorem wd_1546 : (Jvm.Cond.methodLink "HoleWaterModel" (278 : Nat) ({ cls := "HoleWaterModel", name := "isWrongPair", desc := "(II)I" } : Jvm.MethodName)) ∈ mh_T := mh_T_in (List.mem_append_right _ (List.mem_of_getElem? (i := 1546) (by decide +kernel))) (by decide +kernel)
set_option maxRecDepth 100000 in
theorem wd_1548 : (Jvm.Cond.instanceMethod ({ cls := "HoleWaterModel", name := "isWrongPair", desc := "(II)I" } : Jvm.MethodName)) ∈ mh_T := mh_T_in (List.mem_append_right _ (List.mem_of_getElem? (i := 1548) (by decide +kernel))) (by decide +kernel)
set_option maxRecDepth 100000 in
theorem wd_1549 : (Jvm.Cond.code ({ cls := "HoleWaterModel", name := "isWrongPair", desc := "(II)I" } : Jvm.MethodName) prog_14_method_78_code (3 : Nat) (Option.some Jvm.ClassFile.FieldType.int)) ∈ mh_T := mh_T_in (List.mem_append_right _ (List.mem_of_getElem? (i := 1549) (by decide +kernel))) (by decide +kernel)
set_option maxRecDepth 100000 in
theorem wd_1550 : (Jvm.Cond.methodLink "HoleWaterModel" (281 : Nat) ({ cls := "HoleWaterModel", name := "said", desc := "(III)I" } : Jvm.MethodName)) ∈ mh_T := mh_T_in (List.mem_append_right _ (List.mem_of_getElem? (i := 1550) (by decide +kernel))) (by decide +kernel)
set_option maxRecDepth 100000 in
theorem wd_1552 : (Jvm.Cond.instanceMethod ({ cls := "HoleWaterModel", name := "said", desc := "(III)I" } : Jvm.MethodName)) ∈ mh_T := mh_T_in (List.mem_append_right _ (List.mem_of_getElem? (i := 1552) (by decide +kernel))) (by decide +kernel)
set_option maxRecDepth 100000 in
theorem wd_1553 : (Jvm.Cond.code ({ cls := "HoleWaterModel", name := "said", desc := "(III)I" } : Jvm.MethodName) prog_14_method_77_code (8 : Nat) (Option.some Jvm.ClassFile.FieldType.int)) ∈ mh_T := mh_T_in (List.mem_append_right _ (List.mem_of_getElem? (i := 1553) (by decide +kernel))) (by decide +kernel)
set_option maxRecDepth 100000 in
theorem wd_1554 : (Jvm.Cond.methodLink "HoleWaterModel" (272 : Nat) ({ cls := "HoleWaterModel", name := "wasPut", desc := "(IIZ)Z" } : Jvm.MethodName)) ∈ mh_T := mh_T_in (List.mem_append_right _ (List.mem_of_getElem? (i := 1554) (by decide +kernel))) (by decide +kernel)
set_option maxRecDepth 100000 in
theorem wd_1556 : (Jvm.Cond.instanceMethod ({ cls := "HoleWaterModel", name := "wasPut", desc := "(IIZ)Z" } : Jvm.MethodName)) ∈ mh_T := mh_T_in (List.mem_append_right _ (List.mem_of_getElem? (i := 1556) (by decide +kernel))) (by decide +kernel)
set_option maxRecDepth 100000 in
theorem wd_1557 : (Jvm.Cond.code ({ cls := "HoleWaterModel", name := "wasPut", desc := "(IIZ)Z" } : Jvm.MethodName) prog_14_method_76_code (7 : Nat) (Option.some Jvm.ClassFile.FieldType.boolean)) ∈ mh_T := mh_T_in (List.mem_append_right _ (List.mem_of_getElem? (i := 1557) (by decide +kernel))) (by decide +kernel)
set_option maxRecDepth 100000 in
theorem wd_1561 : (Jvm.Cond.code ({ cls := "HoleWaterModel", name := "never", desc := "(II)I" } : Jvm.MethodName) prog_14_method_80_code (6 : Nat) (Option.some Jvm.ClassFile.FieldType.int)) ∈ mh_T := mh_T_in (List.mem_append_right _ (List.mem_of_getElem? (i := 1561) (by decide +kernel))) (by decide +kernel)
set_option maxRecDepth 100000 in
theorem wd_1565 : (Jvm.Cond.code ({ cls := "HoleWaterModel", name := "span", desc := "(IIII)I" } : Jvm.MethodName) prog_14_method_81_code (11 : Nat) (Option.some Jvm.ClassFile.FieldType.int)) ∈ mh_T := mh_T_in (List.mem_append_right _ (List.mem_of_getElem? (i := 1565) (by decide +kernel))) (by decide +kernel)
set_option maxRecDepth 100000 in
theorem wd_1569 : (Jvm.Cond.code ({ cls := "HoleWaterModel", name := "musts", desc := "(II)I" } : Jvm.MethodName) prog_14_method_82_code (6 : Nat) (Option.some Jvm.ClassFile.FieldType.int)) ∈ mh_T := mh_T_in (List.mem_append_right _ (List.mem_of_getElem? (i := 1569) (by decide +kernel))) (by decide +kernel)
set_option maxRecDepth 100000 in
theorem wd_1573 : (Jvm.Cond.code ({ cls := "HoleWaterModel", name := "crosses", desc := "(IIII)I" } : Jvm.MethodName) prog_14_method_84_code (6 : Nat) (Option.some Jvm.ClassFile.FieldType.int)) ∈ mh_T := mh_T_in (List.mem_append_right _ (List.mem_of_getElem? (i := 1573) (by decide +kernel))) (by decide +kernel)
set_option maxRecDepth 100000 in
theorem wd_1574 : (Jvm.Cond.methodLink "HoleWaterModel" (284 : Nat) ({ cls := "HoleWaterModel", name := "side", desc := "(III)I" } : Jvm.MethodName)) ∈ mh_T := mh_T_in (List.mem_append_right _ (List.mem_of_getElem? (i := 1574) (by decide +kernel))) (by decide +kernel)
set_option maxRecDepth 100000 in
theorem wd_1576 : (Jvm.Cond.instanceMethod ({ cls := "HoleWaterModel", name := "side", desc := "(III)I" } : Jvm.MethodName)) ∈ mh_T := mh_T_in (List.mem_append_right _ (List.mem_of_getElem? (i := 1576) (by decide +kernel))) (by decide +kernel)
set_option maxRecDepth 100000 in
theorem wd_1577 : (Jvm.Cond.code ({ cls := "HoleWaterModel", name := "side", desc := "(III)I" } : Jvm.MethodName) prog_14_method_83_code (7 : Nat) (Option.some Jvm.ClassFile.FieldType.int)) ∈ mh_T := mh_T_in (List.mem_append_right _ (List.mem_of_getElem? (i := 1577) (by decide +kernel))) (by decide +kernel)
set_option maxRecDepth 100000 in
theorem wd_1581 : (Jvm.Cond.code ({ cls := "HoleWaterModel", name := "rooms", desc := "(II)I" } : Jvm.MethodName) prog_14_method_89_code (12 : Nat) (Option.some Jvm.ClassFile.FieldType.int)) ∈ mh_T := mh_T_in (List.mem_append_right _ (List.mem_of_getElem? (i := 1581) (by decide +kernel))) (by decide +kernel)
set_option maxRecDepth 100000 in
theorem wd_1582 : (Jvm.Cond.methodLink "HoleWaterModel" (291 : Nat) ({ cls := "HoleWaterModel", name := "isWrongSet", desc := "(II)I" } : Jvm.MethodName)) ∈ mh_T := mh_T_in (List.mem_append_right _ (List.mem_of_getElem? (i := 1582) (by decide +kernel))) (by decide +kernel)
set_option maxRecDepth 100000 in
theorem wd_1584 : (Jvm.Cond.instanceMethod ({ cls := "HoleWaterModel", name := "isWrongSet", desc := "(II)I" } : Jvm.MethodName)) ∈ mh_T := mh_T_in (List.mem_append_right _ (List.mem_of_getElem? (i := 1584) (by decide +kernel))) (by decide +kernel)
set_option maxRecDepth 100000 in
theorem wd_1585 : (Jvm.Cond.code ({ cls := "HoleWaterModel", name := "isWrongSet", desc := "(II)I" } : Jvm.MethodName) prog_14_method_86_code (5 : Nat) (Option.some Jvm.ClassFile.FieldType.int)) ∈ mh_T := mh_T_in (List.mem_append_right _ (List.mem_of_getElem? (i := 1585) (by decide +kernel))) (by decide +kernel)
set_option maxRecDepth 100000 in
theorem wd_1586 : (Jvm.Cond.methodLink "HoleWaterModel" (294 : Nat) ({ cls := "HoleWaterModel", name := "ones", desc := "(I)I" } : Jvm.MethodName)) ∈ mh_T := mh_T_in (List.mem_append_right _ (List.mem_of_getElem? (i := 1586) (by decide +kernel))) (by decide +kernel)
set_option maxRecDepth 100000 in
theorem wd_1587 : (Jvm.Cond.static ({ cls := "HoleWaterModel", name := "ones", desc := "(I)I" } : Jvm.MethodName)) ∈ mh_T := mh_T_in (List.mem_append_right _ (List.mem_of_getElem? (i := 1587) (by decide +kernel))) (by decide +kernel)
set_option maxRecDepth 100000 in
theorem wd_1588 : (Jvm.Cond.code ({ cls := "HoleWaterModel", name := "ones", desc := "(I)I" } : Jvm.MethodName) prog_14_method_85_code (3 : Nat) (Option.some Jvm.ClassFile.FieldType.int)) ∈ mh_T := mh_T_in (List.mem_append_right _ (List.mem_of_getElem? (i := 1588) (by decide +kernel))) (by decide +kernel)
set_option maxRecDepth 100000 in
theorem wd_1589 : (Jvm.Cond.methodLink "HoleWaterModel" (297 : Nat) ({ cls := "HoleWaterModel", name := "lists", desc := "(I[I)I" } : Jvm.MethodName)) ∈ mh_T := mh_T_in (List.mem_append_right _ (List.mem_of_getElem? (i := 1589) (by decide +kernel))) (by decide +kernel)
set_option maxRecDepth 100000 in
theorem wd_1591 : (Jvm.Cond.instanceMethod ({ cls := "HoleWaterModel", name := "lists", desc := "(I[I)I" } : Jvm.MethodName)) ∈ mh_T := mh_T_in (List.mem_append_right _ (List.mem_of_getElem? (i := 1591) (by decide +kernel))) (by decide +kernel)
set_option maxRecDepth 100000 in
theorem wd_1592 : (Jvm.Cond.code ({ cls := "HoleWaterModel", name := "lists", desc := "(I[I)I" } : Jvm.MethodName) prog_14_method_87_code (5 : Nat) (Option.some Jvm.ClassFile.FieldType.int)) ∈ mh_T := mh_T_in (List.mem_append_right _ (List.mem_of_getElem? (i := 1592) (by decide +kernel))) (by decide +kernel)
set_option maxRecDepth 100000 in
theorem wd_1593 : (Jvm.Cond.methodLink "HoleWaterModel" (287 : Nat) ({ cls := "HoleWaterModel", name := "canHold", desc := "(III)Z" } : Jvm.MethodName)) ∈ mh_T := mh_T_in (List.mem_append_right _ (List.mem_of_getElem? (i := 1593) (by decide +kernel))) (by decide +kernel)
set_option maxRecDepth 100000 in
theorem wd_1595 : (Jvm.Cond.instanceMethod ({ cls := "HoleWaterModel", name := "canHold", desc := "(III)Z" } : Jvm.MethodName)) ∈ mh_T := mh_T_in (List.mem_append_right _ (List.mem_of_getElem? (i := 1595) (by decide +kernel))) (by decide +kernel)
set_option maxRecDepth 100000 in
theorem wd_1596 : (Jvm.Cond.code ({ cls := "HoleWaterModel", name := "canHold", desc := "(III)Z" } : Jvm.MethodName) prog_14_method_88_code (7 : Nat) (Option.some Jvm.ClassFile.FieldType.boolean)) ∈ mh_T := mh_T_in (List.mem_append_right _ (List.mem_of_getElem? (i := 1596) (by decide +kernel))) (by decide +kernel)
set_option maxRecDepth 100000 in
theorem wd_1600 : (Jvm.Cond.code ({ cls := "HoleWaterModel", name := "town", desc := "(IZ)I" } : Jvm.MethodName) prog_14_method_90_code (4 : Nat) (Option.some Jvm.ClassFile.FieldType.int)) ∈ mh_T := mh_T_in (List.mem_append_right _ (List.mem_of_getElem? (i := 1600) (by decide +kernel))) (by decide +kernel)
set_option maxRecDepth 100000 in
theorem wd_1604 : (Jvm.Cond.code ({ cls := "HoleWaterModel", name := "night", desc := "(III)I" } : Jvm.MethodName) prog_14_method_92_code (13 : Nat) (Option.some Jvm.ClassFile.FieldType.int)) ∈ mh_T := mh_T_in (List.mem_append_right _ (List.mem_of_getElem? (i := 1604) (by decide +kernel))) (by decide +kernel)
set_option maxRecDepth 100000 in
theorem wd_1605 : (Jvm.Cond.constantLong "HoleWaterModel" (301 : Nat) (4 : Int64)) ∈ mh_T := mh_T_in (List.mem_append_right _ (List.mem_of_getElem? (i := 1605) (by decide +kernel))) (by decide +kernel)
set_option maxRecDepth 100000 in
theorem wd_1606 : (Jvm.Cond.methodLink "HoleWaterModel" (303 : Nat) ({ cls := "HoleWaterModel", name := "mayBe", desc := "(I)Z" } : Jvm.MethodName)) ∈ mh_T := mh_T_in (List.mem_append_right _ (List.mem_of_getElem? (i := 1606) (by decide +kernel))) (by decide +kernel)
set_option maxRecDepth 100000 in
theorem wd_1608 : (Jvm.Cond.instanceMethod ({ cls := "HoleWaterModel", name := "mayBe", desc := "(I)Z" } : Jvm.MethodName)) ∈ mh_T := mh_T_in (List.mem_append_right _ (List.mem_of_getElem? (i := 1608) (by decide +kernel))) (by decide +kernel)
set_option maxRecDepth 100000 in
theorem wd_1609 : (Jvm.Cond.code ({ cls := "HoleWaterModel", name := "mayBe", desc := "(I)Z" } : Jvm.MethodName) prog_14_method_91_code (4 : Nat) (Option.some Jvm.ClassFile.FieldType.boolean)) ∈ mh_T := mh_T_in (List.mem_append_right _ (List.mem_of_getElem? (i := 1609) (by decide +kernel))) (by decide +kernel)
set_option maxRecDepth 100000 in
theorem wd_1613 : (Jvm.Cond.code ({ cls := "HoleWaterModel", name := "share", desc := "(I)I" } : Jvm.MethodName) prog_14_method_93_code (7 : Nat) (Option.some Jvm.ClassFile.FieldType.int)) ∈ mh_T := mh_T_in (List.mem_append_right _ (List.mem_of_getElem? (i := 1613) (by decide +kernel))) (by decide +kernel)
set_option maxRecDepth 100000 in
theorem wd_1617 : (Jvm.Cond.code ({ cls := "HoleWaterModel", name := "voice", desc := "(III)I" } : Jvm.MethodName) prog_14_method_104_code (5 : Nat) (Option.some Jvm.ClassFile.FieldType.int)) ∈ mh_T := mh_T_in (List.mem_append_right _ (List.mem_of_getElem? (i := 1617) (by decide +kernel))) (by decide +kernel)
set_option maxRecDepth 100000 in
theorem wd_1618 : (Jvm.Cond.methodLink "HoleWaterModel" (327 : Nat) ({ cls := "HoleWaterModel", name := "runs", desc := "(I)I" } : Jvm.MethodName)) ∈ mh_T := mh_T_in (List.mem_append_right _ (List.mem_of_getElem? (i := 1618) (by decide +kernel))) (by decide +kernel)
set_option maxRecDepth 100000 in
theorem wd_1620 : (Jvm.Cond.instanceMethod ({ cls := "HoleWaterModel", name := "runs", desc := "(I)I" } : Jvm.MethodName)) ∈ mh_T := mh_T_in (List.mem_append_right _ (List.mem_of_getElem? (i := 1620) (by decide +kernel))) (by decide +kernel)
set_option maxRecDepth 100000 in
theorem wd_1621 : (Jvm.Cond.code ({ cls := "HoleWaterModel", name := "runs", desc := "(I)I" } : Jvm.MethodName) prog_14_method_97_code (2 : Nat) (Option.some Jvm.ClassFile.FieldType.int)) ∈ mh_T := mh_T_in (List.mem_append_right _ (List.mem_of_getElem? (i := 1621) (by decide +kernel))) (by decide +kernel)
set_option maxRecDepth 100000 in
theorem wd_1622 : (Jvm.Cond.methodLink "HoleWaterModel" (309 : Nat) ({ cls := "HoleWaterModel", name := "begins", desc := "(I)V" } : Jvm.MethodName)) ∈ mh_T := mh_T_in (List.mem_append_right _ (List.mem_of_getElem? (i := 1622) (by decide +kernel))) (by decide +kernel)
set_option maxRecDepth 100000 in
theorem wd_1624 : (Jvm.Cond.instanceMethod ({ cls := "HoleWaterModel", name := "begins", desc := "(I)V" } : Jvm.MethodName)) ∈ mh_T := mh_T_in (List.mem_append_right _ (List.mem_of_getElem? (i := 1624) (by decide +kernel))) (by decide +kernel)
set_option maxRecDepth 100000 in
theorem wd_1625 : (Jvm.Cond.code ({ cls := "HoleWaterModel", name := "begins", desc := "(I)V" } : Jvm.MethodName) prog_14_method_94_code (2 : Nat) (Option.none : Option Jvm.ClassFile.FieldType)) ∈ mh_T := mh_T_in (List.mem_append_right _ (List.mem_of_getElem? (i := 1625) (by decide +kernel))) (by decide +kernel)
set_option maxRecDepth 100000 in
theorem wd_1626 : (Jvm.Cond.methodLink "HoleWaterModel" (324 : Nat) ({ cls := "HoleWaterModel", name := "openRuns", desc := "(I)I" } : Jvm.MethodName)) ∈ mh_T := mh_T_in (List.mem_append_right _ (List.mem_of_getElem? (i := 1626) (by decide +kernel))) (by decide +kernel)
set_option maxRecDepth 100000 in
theorem wd_1628 : (Jvm.Cond.instanceMethod ({ cls := "HoleWaterModel", name := "openRuns", desc := "(I)I" } : Jvm.MethodName)) ∈ mh_T := mh_T_in (List.mem_append_right _ (List.mem_of_getElem? (i := 1628) (by decide +kernel))) (by decide +kernel)
set_option maxRecDepth 100000 in
theorem wd_1629 : (Jvm.Cond.code ({ cls := "HoleWaterModel", name := "openRuns", desc := "(I)I" } : Jvm.MethodName) prog_14_method_96_code (2 : Nat) (Option.some Jvm.ClassFile.FieldType.int)) ∈ mh_T := mh_T_in (List.mem_append_right _ (List.mem_of_getElem? (i := 1629) (by decide +kernel))) (by decide +kernel)
set_option maxRecDepth 100000 in
theorem wd_1630 : (Jvm.Cond.methodLink "HoleWaterModel" (315 : Nat) ({ cls := "HoleWaterModel", name := "plainRuns", desc := "(I)I" } : Jvm.MethodName)) ∈ mh_T := mh_T_in (List.mem_append_right _ (List.mem_of_getElem? (i := 1630) (by decide +kernel))) (by decide +kernel)
set_option maxRecDepth 100000 in
theorem wd_1632 : (Jvm.Cond.instanceMethod ({ cls := "HoleWaterModel", name := "plainRuns", desc := "(I)I" } : Jvm.MethodName)) ∈ mh_T := mh_T_in (List.mem_append_right _ (List.mem_of_getElem? (i := 1632) (by decide +kernel))) (by decide +kernel)
set_option maxRecDepth 100000 in
theorem wd_1633 : (Jvm.Cond.code ({ cls := "HoleWaterModel", name := "plainRuns", desc := "(I)I" } : Jvm.MethodName) prog_14_method_95_code (2 : Nat) (Option.some Jvm.ClassFile.FieldType.int)) ∈ mh_T := mh_T_in (List.mem_append_right _ (List.mem_of_getElem? (i := 1633) (by decide +kernel))) (by decide +kernel)
set_option maxRecDepth 100000 in
theorem wd_1634 : (Jvm.Cond.methodLink "HoleWaterModel" (333 : Nat) ({ cls := "HoleWaterModel", name := "holds", desc := "(I)I" } : Jvm.MethodName)) ∈ mh_T := mh_T_in (List.mem_append_right _ (List.mem_of_getElem? (i := 1634) (by decide +kernel))) (by decide +kernel)
set_option maxRecDepth 100000 in
theorem wd_1636 : (Jvm.Cond.instanceMethod ({ cls := "HoleWaterModel", name := "holds", desc := "(I)I" } : Jvm.MethodName)) ∈ mh_T := mh_T_in (List.mem_append_right _ (List.mem_of_getElem? (i := 1636) (by decide +kernel))) (by decide +kernel)
set_option maxRecDepth 100000 in
theorem wd_1637 : (Jvm.Cond.code ({ cls := "HoleWaterModel", name := "holds", desc := "(I)I" } : Jvm.MethodName) prog_14_method_99_code (2 : Nat) (Option.some Jvm.ClassFile.FieldType.int)) ∈ mh_T := mh_T_in (List.mem_append_right _ (List.mem_of_getElem? (i := 1637) (by decide +kernel))) (by decide +kernel)
set_option maxRecDepth 100000 in
theorem wd_1638 : (Jvm.Cond.methodLink "HoleWaterModel" (330 : Nat) ({ cls := "HoleWaterModel", name := "plainHolds", desc := "(I)I" } : Jvm.MethodName)) ∈ mh_T := mh_T_in (List.mem_append_right _ (List.mem_of_getElem? (i := 1638) (by decide +kernel))) (by decide +kernel)
set_option maxRecDepth 100000 in
theorem wd_1640 : (Jvm.Cond.instanceMethod ({ cls := "HoleWaterModel", name := "plainHolds", desc := "(I)I" } : Jvm.MethodName)) ∈ mh_T := mh_T_in (List.mem_append_right _ (List.mem_of_getElem? (i := 1640) (by decide +kernel))) (by decide +kernel)
set_option maxRecDepth 100000 in
theorem wd_1641 : (Jvm.Cond.code ({ cls := "HoleWaterModel", name := "plainHolds", desc := "(I)I" } : Jvm.MethodName) prog_14_method_98_code (2 : Nat) (Option.some Jvm.ClassFile.FieldType.int)) ∈ mh_T := mh_T_in (List.mem_append_right _ (List.mem_of_getElem? (i := 1641) (by decide +kernel))) (by decide +kernel)
set_option maxRecDepth 100000 in
theorem wd_1642 : (Jvm.Cond.methodLink "HoleWaterModel" (344 : Nat) ({ cls := "HoleWaterModel", name := "spills", desc := "(I)I" } : Jvm.MethodName)) ∈ mh_T := mh_T_in (List.mem_append_right _ (List.mem_of_getElem? (i := 1642) (by decide +kernel))) (by decide +kernel)
set_option maxRecDepth 100000 in
theorem wd_1644 : (Jvm.Cond.instanceMethod ({ cls := "HoleWaterModel", name := "spills", desc := "(I)I" } : Jvm.MethodName)) ∈ mh_T := mh_T_in (List.mem_append_right _ (List.mem_of_getElem? (i := 1644) (by decide +kernel))) (by decide +kernel)
set_option maxRecDepth 100000 in
theorem wd_1645 : (Jvm.Cond.code ({ cls := "HoleWaterModel", name := "spills", desc := "(I)I" } : Jvm.MethodName) prog_14_method_101_code (2 : Nat) (Option.some Jvm.ClassFile.FieldType.int)) ∈ mh_T := mh_T_in (List.mem_append_right _ (List.mem_of_getElem? (i := 1645) (by decide +kernel))) (by decide +kernel)
set_option maxRecDepth 100000 in
theorem wd_1646 : (Jvm.Cond.methodLink "HoleWaterModel" (335 : Nat) ({ cls := "HoleWaterModel", name := "plainSpills", desc := "(I)I" } : Jvm.MethodName)) ∈ mh_T := mh_T_in (List.mem_append_right _ (List.mem_of_getElem? (i := 1646) (by decide +kernel))) (by decide +kernel)
set_option maxRecDepth 100000 in
theorem wd_1648 : (Jvm.Cond.instanceMethod ({ cls := "HoleWaterModel", name := "plainSpills", desc := "(I)I" } : Jvm.MethodName)) ∈ mh_T := mh_T_in (List.mem_append_right _ (List.mem_of_getElem? (i := 1648) (by decide +kernel))) (by decide +kernel)
set_option maxRecDepth 100000 in
theorem wd_1649 : (Jvm.Cond.code ({ cls := "HoleWaterModel", name := "plainSpills", desc := "(I)I" } : Jvm.MethodName) prog_14_method_100_code (2 : Nat) (Option.some Jvm.ClassFile.FieldType.int)) ∈ mh_T := mh_T_in (List.mem_append_right _ (List.mem_of_getElem? (i := 1649) (by decide +kernel))) (by decide +kernel)
set_option maxRecDepth 100000 in
theorem wd_1650 : (Jvm.Cond.methodLink "HoleWaterModel" (346 : Nat) ({ cls := "HoleWaterModel", name := "tells", desc := "(I)I" } : Jvm.MethodName)) ∈ mh_T := mh_T_in (List.mem_append_right _ (List.mem_of_getElem? (i := 1650) (by decide +kernel))) (by decide +kernel)
set_option maxRecDepth 100000 in
theorem wd_1652 : (Jvm.Cond.instanceMethod ({ cls := "HoleWaterModel", name := "tells", desc := "(I)I" } : Jvm.MethodName)) ∈ mh_T := mh_T_in (List.mem_append_right _ (List.mem_of_getElem? (i := 1652) (by decide +kernel))) (by decide +kernel)
set_option maxRecDepth 100000 in
theorem wd_1653 : (Jvm.Cond.code ({ cls := "HoleWaterModel", name := "tells", desc := "(I)I" } : Jvm.MethodName) prog_14_method_103_code (3 : Nat) (Option.some Jvm.ClassFile.FieldType.int)) ∈ mh_T := mh_T_in (List.mem_append_right _ (List.mem_of_getElem? (i := 1653) (by decide +kernel))) (by decide +kernel)
set_option maxRecDepth 100000 in
theorem wd_1654 : (Jvm.Cond.methodLink "HoleWaterModel" (341 : Nat) ({ cls := "HoleWaterModel", name := "plainTells", desc := "(I)I" } : Jvm.MethodName)) ∈ mh_T := mh_T_in (List.mem_append_right _ (List.mem_of_getElem? (i := 1654) (by decide +kernel))) (by decide +kernel)
set_option maxRecDepth 100000 in
theorem wd_1656 : (Jvm.Cond.instanceMethod ({ cls := "HoleWaterModel", name := "plainTells", desc := "(I)I" } : Jvm.MethodName)) ∈ mh_T := mh_T_in (List.mem_append_right _ (List.mem_of_getElem? (i := 1656) (by decide +kernel))) (by decide +kernel)
set_option maxRecDepth 100000 in
theorem wd_1657 : (Jvm.Cond.code ({ cls := "HoleWaterModel", name := "plainTells", desc := "(I)I" } : Jvm.MethodName) prog_14_method_102_code (3 : Nat) (Option.some Jvm.ClassFile.FieldType.int)) ∈ mh_T := mh_T_in (List.mem_append_right _ (List.mem_of_getElem? (i := 1657) (by decide +kernel))) (by decide +kernel)
set_option maxRecDepth 100000 in
theorem wd_1661 : (Jvm.Cond.code ({ cls := "HoleWaterModel", name := "trace", desc := "(I)I" } : Jvm.MethodName) prog_14_method_105_code (2 : Nat) (Option.some Jvm.ClassFile.FieldType.int)) ∈ mh_T := mh_T_in (List.mem_append_right _ (List.mem_of_getElem? (i := 1661) (by decide +kernel))) (by decide +kernel)
set_option maxRecDepth 100000 in
theorem wd_1665 : (Jvm.Cond.code ({ cls := "HoleWaterModel", name := "sheet", desc := "(III)I" } : Jvm.MethodName) prog_14_method_107_code (5 : Nat) (Option.some Jvm.ClassFile.FieldType.int)) ∈ mh_T := mh_T_in (List.mem_append_right _ (List.mem_of_getElem? (i := 1665) (by decide +kernel))) (by decide +kernel)
set_option maxRecDepth 100000 in
theorem wd_1669 : (Jvm.Cond.code ({ cls := "HoleWaterModel", name := "place", desc := "(III)I" } : Jvm.MethodName) prog_14_method_108_code (4 : Nat) (Option.some Jvm.ClassFile.FieldType.int)) ∈ mh_T := mh_T_in (List.mem_append_right _ (List.mem_of_getElem? (i := 1669) (by decide +kernel))) (by decide +kernel)
set_option maxRecDepth 100000 in
theorem wd_1673 : (Jvm.Cond.code ({ cls := "HoleWaterModel", name := "move", desc := "(IIIII)I" } : Jvm.MethodName) prog_14_method_109_code (9 : Nat) (Option.some Jvm.ClassFile.FieldType.int)) ∈ mh_T := mh_T_in (List.mem_append_right _ (List.mem_of_getElem? (i := 1673) (by decide +kernel))) (by decide +kernel)
set_option maxRecDepth 100000 in
theorem wd_1677 : (Jvm.Cond.code ({ cls := "HoleWaterModel", name := "image", desc := "()I" } : Jvm.MethodName) prog_14_method_110_code (2 : Nat) (Option.some Jvm.ClassFile.FieldType.int)) ∈ mh_T := mh_T_in (List.mem_append_right _ (List.mem_of_getElem? (i := 1677) (by decide +kernel))) (by decide +kernel)
set_option maxRecDepth 100000 in
theorem wd_1681 : (Jvm.Cond.code ({ cls := "HoleWaterModel", name := "restore", desc := "()I" } : Jvm.MethodName) prog_14_method_111_code (2 : Nat) (Option.some Jvm.ClassFile.FieldType.int)) ∈ mh_T := mh_T_in (List.mem_append_right _ (List.mem_of_getElem? (i := 1681) (by decide +kernel))) (by decide +kernel)
set_option maxRecDepth 100000 in
theorem wd_1685 : (Jvm.Cond.code ({ cls := "HoleWaterModel", name := "tell", desc := "(I)I" } : Jvm.MethodName) prog_14_method_112_code (2 : Nat) (Option.some Jvm.ClassFile.FieldType.int)) ∈ mh_T := mh_T_in (List.mem_append_right _ (List.mem_of_getElem? (i := 1685) (by decide +kernel))) (by decide +kernel)
set_option maxRecDepth 100000 in
theorem wd_1689 : (Jvm.Cond.code ({ cls := "HoleWaterModel", name := "check", desc := "(I)I" } : Jvm.MethodName) prog_14_method_113_code (5 : Nat) (Option.some Jvm.ClassFile.FieldType.int)) ∈ mh_T := mh_T_in (List.mem_append_right _ (List.mem_of_getElem? (i := 1689) (by decide +kernel))) (by decide +kernel)
set_option maxRecDepth 100000 in
theorem wd_1693 : (Jvm.Cond.code ({ cls := "HoleWaterModel", name := "count", desc := "(I)I" } : Jvm.MethodName) prog_14_method_116_code (2 : Nat) (Option.some Jvm.ClassFile.FieldType.int)) ∈ mh_T := mh_T_in (List.mem_append_right _ (List.mem_of_getElem? (i := 1693) (by decide +kernel))) (by decide +kernel)
set_option maxRecDepth 100000 in
theorem wd_1694 : (Jvm.Cond.methodLink "HoleWaterModel" (352 : Nat) ({ cls := "HoleWaterModel", name := "sawMany", desc := "()I" } : Jvm.MethodName)) ∈ mh_T := mh_T_in (List.mem_append_right _ (List.mem_of_getElem? (i := 1694) (by decide +kernel))) (by decide +kernel)
set_option maxRecDepth 100000 in
theorem wd_1696 : (Jvm.Cond.instanceMethod ({ cls := "HoleWaterModel", name := "sawMany", desc := "()I" } : Jvm.MethodName)) ∈ mh_T := mh_T_in (List.mem_append_right _ (List.mem_of_getElem? (i := 1696) (by decide +kernel))) (by decide +kernel)
set_option maxRecDepth 100000 in
theorem wd_1697 : (Jvm.Cond.code ({ cls := "HoleWaterModel", name := "sawMany", desc := "()I" } : Jvm.MethodName) prog_14_method_115_code (3 : Nat) (Option.some Jvm.ClassFile.FieldType.int)) ∈ mh_T := mh_T_in (List.mem_append_right _ (List.mem_of_getElem? (i := 1697) (by decide +kernel))) (by decide +kernel)
set_option maxRecDepth 100000 in
theorem wd_1698 : (Jvm.Cond.methodLink "HoleWaterModel" (355 : Nat) ({ cls := "HoleWaterModel", name := "water", desc := "()I" } : Jvm.MethodName)) ∈ mh_T := mh_T_in (List.mem_append_right _ (List.mem_of_getElem? (i := 1698) (by decide +kernel))) (by decide +kernel)
set_option maxRecDepth 100000 in
theorem wd_1700 : (Jvm.Cond.instanceMethod ({ cls := "HoleWaterModel", name := "water", desc := "()I" } : Jvm.MethodName)) ∈ mh_T := mh_T_in (List.mem_append_right _ (List.mem_of_getElem? (i := 1700) (by decide +kernel))) (by decide +kernel)
set_option maxRecDepth 100000 in
theorem wd_1701 : (Jvm.Cond.code ({ cls := "HoleWaterModel", name := "water", desc := "()I" } : Jvm.MethodName) prog_14_method_114_code (3 : Nat) (Option.some Jvm.ClassFile.FieldType.int)) ∈ mh_T := mh_T_in (List.mem_append_right _ (List.mem_of_getElem? (i := 1701) (by decide +kernel))) (by decide +kernel)
set_option maxRecDepth 100000 in
theorem wd_1705 : (Jvm.Cond.code ({ cls := "HoleWaterModel", name := "told", desc := "(I)I" } : Jvm.MethodName) prog_14_method_117_code (2 : Nat) (Option.some Jvm.ClassFile.FieldType.int)) ∈ mh_T := mh_T_in (List.mem_append_right _ (List.mem_of_getElem? (i := 1705) (by decide +kernel))) (by decide +kernel)
set_option maxRecDepth 100000 in
theorem wd_1707 : (Jvm.Cond.sameMethod "HoleWater$Open" "HoleWater$Open" "runs" "(ILHoleWater$Row;)I") ∈ mh_T := mh_T_in (List.mem_append_right _ (List.mem_of_getElem? (i := 1707) (by decide +kernel))) (by decide +kernel)
set_option maxRecDepth 100000 in
theorem wd_1708 : (Jvm.Cond.selects "HoleWater$Open" ({ cls := "HoleWater$Open", name := "runs", desc := "(ILHoleWater$Row;)I" } : Jvm.MethodName) ({ cls := "HoleWater$Open", name := "runs", desc := "(ILHoleWater$Row;)I" } : Jvm.MethodName)) ∈ mh_T := mh_T_in (List.mem_append_right _ (List.mem_of_getElem? (i := 1708) (by decide +kernel))) (by decide +kernel)
set_option maxRecDepth 100000 in
theorem wd_1709 : (Jvm.Cond.selects "HoleWater$Overflow" ({ cls := "HoleWater$Open", name := "runs", desc := "(ILHoleWater$Row;)I" } : Jvm.MethodName) ({ cls := "HoleWater$Overflow", name := "runs", desc := "(ILHoleWater$Row;)I" } : Jvm.MethodName)) ∈ mh_T := mh_T_in (List.mem_append_right _ (List.mem_of_getElem? (i := 1709) (by decide +kernel))) (by decide +kernel)
set_option maxRecDepth 100000 in
theorem wd_1711 : (Jvm.Cond.selects "HoleWater$Blind" ({ cls := "HoleWater$Way", name := "isParted", desc := "()Z" } : Jvm.MethodName) ({ cls := "HoleWater$Way", name := "isParted", desc := "()Z" } : Jvm.MethodName)) ∈ mh_T := mh_T_in (List.mem_append_right _ (List.mem_of_getElem? (i := 1711) (by decide +kernel))) (by decide +kernel)
set_option maxRecDepth 100000 in
theorem wd_1712 : (Jvm.Cond.selects "HoleWater$Open" ({ cls := "HoleWater$Way", name := "isParted", desc := "()Z" } : Jvm.MethodName) ({ cls := "HoleWater$Way", name := "isParted", desc := "()Z" } : Jvm.MethodName)) ∈ mh_T := mh_T_in (List.mem_append_right _ (List.mem_of_getElem? (i := 1712) (by decide +kernel))) (by decide +kernel)
set_option maxRecDepth 100000 in
theorem wd_1713 : (Jvm.Cond.selects "HoleWater$Overflow" ({ cls := "HoleWater$Way", name := "isParted", desc := "()Z" } : Jvm.MethodName) ({ cls := "HoleWater$Way", name := "isParted", desc := "()Z" } : Jvm.MethodName)) ∈ mh_T := mh_T_in (List.mem_append_right _ (List.mem_of_getElem? (i := 1713) (by decide +kernel))) (by decide +kernel)
set_option maxRecDepth 100000 in
theorem wd_1714 : (Jvm.Cond.selects "HoleWater$Pool" ({ cls := "HoleWater$Way", name := "isParted", desc := "()Z" } : Jvm.MethodName) ({ cls := "HoleWater$Way", name := "isParted", desc := "()Z" } : Jvm.MethodName)) ∈ mh_T := mh_T_in (List.mem_append_right _ (List.mem_of_getElem? (i := 1714) (by decide +kernel))) (by decide +kernel)
set_option maxRecDepth 100000 in
theorem wd_1715 : (Jvm.Cond.selects "HoleWater$Sieve" ({ cls := "HoleWater$Way", name := "isParted", desc := "()Z" } : Jvm.MethodName) ({ cls := "HoleWater$Way", name := "isParted", desc := "()Z" } : Jvm.MethodName)) ∈ mh_T := mh_T_in (List.mem_append_right _ (List.mem_of_getElem? (i := 1715) (by decide +kernel))) (by decide +kernel)
set_option maxRecDepth 100000 in
theorem wd_1716 : (Jvm.Cond.selects "HoleWater$Way" ({ cls := "HoleWater$Way", name := "isParted", desc := "()Z" } : Jvm.MethodName) ({ cls := "HoleWater$Way", name := "isParted", desc := "()Z" } : Jvm.MethodName)) ∈ mh_T := mh_T_in (List.mem_append_right _ (List.mem_of_getElem? (i := 1716) (by decide +kernel))) (by decide +kernel)
set_option maxRecDepth 100000 in
theorem wn_41 : (Jvm.Cond.methodLinkNest "HoleWater$World" (39 : Nat) ({ cls := "HoleWater$Water", name := "<init>", desc := "()V" } : Jvm.MethodName) "HoleWater") ∈ mh_nest := List.mem_filter.mpr ⟨List.mem_append_right _ (List.mem_of_getElem? (i := 41) (by decide +kernel)), rfl⟩
set_option maxRecDepth 100000 in
theorem wn_100 : (Jvm.Cond.methodLinkNest "HoleWater$World" (46 : Nat) ({ cls := "HoleWater$Looks", name := "<init>", desc := "()V" } : Jvm.MethodName) "HoleWater") ∈ mh_nest := List.mem_filter.mpr ⟨List.mem_append_right _ (List.mem_of_getElem? (i := 100) (by decide +kernel)), rfl⟩
set_option maxRecDepth 100000 in
theorem wn_242 : (Jvm.Cond.methodLinkNest "HoleWater" (21 : Nat) ({ cls := "HoleWater$Water", name := "<init>", desc := "()V" } : Jvm.MethodName) "HoleWater") ∈ mh_nest := List.mem_filter.mpr ⟨List.mem_append_right _ (List.mem_of_getElem? (i := 242) (by decide +kernel)), rfl⟩
set_option maxRecDepth 100000 in
theorem wn_245 : (Jvm.Cond.methodLinkNest "HoleWater" (28 : Nat) ({ cls := "HoleWater$Reader", name := "<init>", desc := "()V" } : Jvm.MethodName) "HoleWater") ∈ mh_nest := List.mem_filter.mpr ⟨List.mem_append_right _ (List.mem_of_getElem? (i := 245) (by decide +kernel)), rfl⟩
set_option maxRecDepth 100000 in
theorem wn_526 : (Jvm.Cond.methodLinkNest "HoleWater$Pool" (13 : Nat) ({ cls := "HoleWater", name := "by", desc := "(II)I" } : Jvm.MethodName) "HoleWater") ∈ mh_nest := List.mem_filter.mpr ⟨List.mem_append_right _ (List.mem_of_getElem? (i := 526) (by decide +kernel)), rfl⟩
set_option maxRecDepth 100000 in
theorem wn_653 : (Jvm.Cond.methodLinkNest "HoleWater$Reader" (73 : Nat) ({ cls := "HoleWater", name := "by", desc := "(II)I" } : Jvm.MethodName) "HoleWater") ∈ mh_nest := List.mem_filter.mpr ⟨List.mem_append_right _ (List.mem_of_getElem? (i := 653) (by decide +kernel)), rfl⟩
set_option maxRecDepth 100000 in
theorem wn_658 : (Jvm.Cond.methodLinkNest "HoleWater$World" (131 : Nat) ({ cls := "HoleWater", name := "held", desc := "(III)I" } : Jvm.MethodName) "HoleWater") ∈ mh_nest := List.mem_filter.mpr ⟨List.mem_append_right _ (List.mem_of_getElem? (i := 658) (by decide +kernel)), rfl⟩
set_option maxRecDepth 100000 in
theorem wn_678 : (Jvm.Cond.methodLinkNest "HoleWater$Water" (150 : Nat) ({ cls := "HoleWater", name := "by", desc := "(II)I" } : Jvm.MethodName) "HoleWater") ∈ mh_nest := List.mem_filter.mpr ⟨List.mem_append_right _ (List.mem_of_getElem? (i := 678) (by decide +kernel)), rfl⟩
set_option maxRecDepth 100000 in
theorem wn_690 : (Jvm.Cond.methodLinkNest "HoleWater$Sieve" (17 : Nat) ({ cls := "HoleWater", name := "by", desc := "(II)I" } : Jvm.MethodName) "HoleWater") ∈ mh_nest := List.mem_filter.mpr ⟨List.mem_append_right _ (List.mem_of_getElem? (i := 690) (by decide +kernel)), rfl⟩
set_option maxRecDepth 100000 in
theorem wn_861 : (Jvm.Cond.methodLinkNest "HoleWater$Looks" (63 : Nat) ({ cls := "HoleWater", name := "bit", desc := "(II)I" } : Jvm.MethodName) "HoleWater") ∈ mh_nest := List.mem_filter.mpr ⟨List.mem_append_right _ (List.mem_of_getElem? (i := 861) (by decide +kernel)), rfl⟩
set_option maxRecDepth 100000 in
theorem wn_1074 : (Jvm.Cond.methodLinkNest "HoleWater$Way" (35 : Nat) ({ cls := "HoleWater", name := "by", desc := "(II)I" } : Jvm.MethodName) "HoleWater") ∈ mh_nest := List.mem_filter.mpr ⟨List.mem_append_right _ (List.mem_of_getElem? (i := 1074) (by decide +kernel)), rfl⟩
set_option maxRecDepth 100000 in
theorem wp_0 : Cond.selects "HoleWater" ⟨"HoleWater", "error", "(I)I"⟩ ⟨"HoleWater", "error", "(I)I"⟩ ∈ mh_T := mh_T_in (List.mem_append_left _ (List.mem_of_getElem? (i := 0) (by decide +kernel))) (by decide +kernel)
set_option maxRecDepth 100000 in
theorem wp_1 : Cond.selects "HoleWater" ⟨"HoleWater", "goAlong", "(LHoleWater$Way;)V"⟩ ⟨"HoleWater", "goAlong", "(LHoleWater$Way;)V"⟩ ∈ mh_T := mh_T_in (List.mem_append_left _ (List.mem_of_getElem? (i := 1) (by decide +kernel))) (by decide +kernel)
set_option maxRecDepth 100000 in
theorem wp_2 : Cond.selects "HoleWater$Water" ⟨"HoleWater$Water", "leave", "(ILHoleWater$Way;)V"⟩ ⟨"HoleWater$Water", "leave", "(ILHoleWater$Way;)V"⟩ ∈ mh_T := mh_T_in (List.mem_append_left _ (List.mem_of_getElem? (i := 2) (by decide +kernel))) (by decide +kernel)
set_option maxRecDepth 100000 in
theorem wp_3 : Cond.selects "HoleWater$Water" ⟨"HoleWater$Water", "slotNow", "(II)I"⟩ ⟨"HoleWater$Water", "slotNow", "(II)I"⟩ ∈ mh_T := mh_T_in (List.mem_append_left _ (List.mem_of_getElem? (i := 3) (by decide +kernel))) (by decide +kernel)
set_option maxRecDepth 100000 in
theorem wp_4 : Cond.selects "HoleWater$Water" ⟨"HoleWater$Water", "fadeAway", "(III)I"⟩ ⟨"HoleWater$Water", "fadeAway", "(III)I"⟩ ∈ mh_T := mh_T_in (List.mem_append_left _ (List.mem_of_getElem? (i := 4) (by decide +kernel))) (by decide +kernel)
set_option maxRecDepth 100000 in
theorem wp_5 : Cond.selects "HoleWater$Reader" ⟨"HoleWater$Reader", "begin", "(LHoleWater$Row;Ljava/lang/String;)V"⟩ ⟨"HoleWater$Reader", "begin", "(LHoleWater$Row;Ljava/lang/String;)V"⟩ ∈ mh_T := mh_T_in (List.mem_append_left _ (List.mem_of_getElem? (i := 5) (by decide +kernel))) (by decide +kernel)
set_option maxRecDepth 100000 in
theorem wp_6 : Cond.selects "HoleWater$Reader" ⟨"HoleWater$Reader", "sum", "(I)I"⟩ ⟨"HoleWater$Reader", "sum", "(I)I"⟩ ∈ mh_T := mh_T_in (List.mem_append_left _ (List.mem_of_getElem? (i := 6) (by decide +kernel))) (by decide +kernel)
set_option maxRecDepth 100000 in
theorem wp_7 : Cond.selects "HoleWater$Reader" ⟨"HoleWater$Reader", "term", "(I)I"⟩ ⟨"HoleWater$Reader", "term", "(I)I"⟩ ∈ mh_T := mh_T_in (List.mem_append_left _ (List.mem_of_getElem? (i := 7) (by decide +kernel))) (by decide +kernel)
set_option maxRecDepth 100000 in
theorem wp_8 : Cond.selects "HoleWater$Reader" ⟨"HoleWater$Reader", "one", "(I)I"⟩ ⟨"HoleWater$Reader", "one", "(I)I"⟩ ∈ mh_T := mh_T_in (List.mem_append_left _ (List.mem_of_getElem? (i := 8) (by decide +kernel))) (by decide +kernel)
set_option maxRecDepth 100000 in
theorem wp_9 : Cond.selects "HoleWater$Reader" ⟨"HoleWater$Reader", "next", "()I"⟩ ⟨"HoleWater$Reader", "next", "()I"⟩ ∈ mh_T := mh_T_in (List.mem_append_left _ (List.mem_of_getElem? (i := 9) (by decide +kernel))) (by decide +kernel)
set_option maxRecDepth 100000 in
theorem wp_10 : Cond.selects "HoleWater$Reader" ⟨"HoleWater$Reader", "number", "()I"⟩ ⟨"HoleWater$Reader", "number", "()I"⟩ ∈ mh_T := mh_T_in (List.mem_append_left _ (List.mem_of_getElem? (i := 10) (by decide +kernel))) (by decide +kernel)
