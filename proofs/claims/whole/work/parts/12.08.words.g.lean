set_option maxRecDepth 100000 in
theorem wd_1559 : (Jvm.Cond.instanceMethod ({ cls := "HoleWaterModel", name := "never", desc := "(II)I" } : Jvm.MethodName)) ∈ mh_T := mh_T_in (List.mem_append_right _ (List.mem_of_getElem? (i := 1559) (by decide +kernel))) (by decide +kernel)
set_option maxRecDepth 100000 in
theorem wd_1560 : (Jvm.Cond.selects "HoleWaterModel" ({ cls := "HoleWaterModel", name := "never", desc := "(II)I" } : Jvm.MethodName) ({ cls := "HoleWaterModel", name := "never", desc := "(II)I" } : Jvm.MethodName)) ∈ mh_T := mh_T_in (List.mem_append_right _ (List.mem_of_getElem? (i := 1560) (by decide +kernel))) (by decide +kernel)
set_option maxRecDepth 100000 in
theorem wd_1561 : (Jvm.Cond.code ({ cls := "HoleWaterModel", name := "never", desc := "(II)I" } : Jvm.MethodName) prog_14_method_80_code (6 : Nat) (Option.some Jvm.ClassFile.FieldType.int)) ∈ mh_T := mh_T_in (List.mem_append_right _ (List.mem_of_getElem? (i := 1561) (by decide +kernel))) (by decide +kernel)
set_option maxRecDepth 100000 in
theorem wd_1562 : (Jvm.Cond.methodLink "HoleWaterLaw" (134 : Nat) ({ cls := "HoleWaterModel", name := "span", desc := "(IIII)I" } : Jvm.MethodName)) ∈ mh_T := mh_T_in (List.mem_append_right _ (List.mem_of_getElem? (i := 1562) (by decide +kernel))) (by decide +kernel)
set_option maxRecDepth 100000 in
theorem wd_1563 : (Jvm.Cond.instanceMethod ({ cls := "HoleWaterModel", name := "span", desc := "(IIII)I" } : Jvm.MethodName)) ∈ mh_T := mh_T_in (List.mem_append_right _ (List.mem_of_getElem? (i := 1563) (by decide +kernel))) (by decide +kernel)
set_option maxRecDepth 100000 in
theorem wd_1564 : (Jvm.Cond.selects "HoleWaterModel" ({ cls := "HoleWaterModel", name := "span", desc := "(IIII)I" } : Jvm.MethodName) ({ cls := "HoleWaterModel", name := "span", desc := "(IIII)I" } : Jvm.MethodName)) ∈ mh_T := mh_T_in (List.mem_append_right _ (List.mem_of_getElem? (i := 1564) (by decide +kernel))) (by decide +kernel)
set_option maxRecDepth 100000 in
theorem wd_1565 : (Jvm.Cond.code ({ cls := "HoleWaterModel", name := "span", desc := "(IIII)I" } : Jvm.MethodName) prog_14_method_81_code (11 : Nat) (Option.some Jvm.ClassFile.FieldType.int)) ∈ mh_T := mh_T_in (List.mem_append_right _ (List.mem_of_getElem? (i := 1565) (by decide +kernel))) (by decide +kernel)
set_option maxRecDepth 100000 in
theorem wd_1566 : (Jvm.Cond.methodLink "HoleWaterLaw" (138 : Nat) ({ cls := "HoleWaterModel", name := "musts", desc := "(II)I" } : Jvm.MethodName)) ∈ mh_T := mh_T_in (List.mem_append_right _ (List.mem_of_getElem? (i := 1566) (by decide +kernel))) (by decide +kernel)
set_option maxRecDepth 100000 in
theorem wd_1567 : (Jvm.Cond.instanceMethod ({ cls := "HoleWaterModel", name := "musts", desc := "(II)I" } : Jvm.MethodName)) ∈ mh_T := mh_T_in (List.mem_append_right _ (List.mem_of_getElem? (i := 1567) (by decide +kernel))) (by decide +kernel)
set_option maxRecDepth 100000 in
theorem wd_1568 : (Jvm.Cond.selects "HoleWaterModel" ({ cls := "HoleWaterModel", name := "musts", desc := "(II)I" } : Jvm.MethodName) ({ cls := "HoleWaterModel", name := "musts", desc := "(II)I" } : Jvm.MethodName)) ∈ mh_T := mh_T_in (List.mem_append_right _ (List.mem_of_getElem? (i := 1568) (by decide +kernel))) (by decide +kernel)
set_option maxRecDepth 100000 in
theorem wd_1569 : (Jvm.Cond.code ({ cls := "HoleWaterModel", name := "musts", desc := "(II)I" } : Jvm.MethodName) prog_14_method_82_code (6 : Nat) (Option.some Jvm.ClassFile.FieldType.int)) ∈ mh_T := mh_T_in (List.mem_append_right _ (List.mem_of_getElem? (i := 1569) (by decide +kernel))) (by decide +kernel)
set_option maxRecDepth 100000 in
theorem wd_1570 : (Jvm.Cond.methodLink "HoleWaterLaw" (142 : Nat) ({ cls := "HoleWaterModel", name := "crosses", desc := "(IIII)I" } : Jvm.MethodName)) ∈ mh_T := mh_T_in (List.mem_append_right _ (List.mem_of_getElem? (i := 1570) (by decide +kernel))) (by decide +kernel)
set_option maxRecDepth 100000 in
theorem wd_1571 : (Jvm.Cond.instanceMethod ({ cls := "HoleWaterModel", name := "crosses", desc := "(IIII)I" } : Jvm.MethodName)) ∈ mh_T := mh_T_in (List.mem_append_right _ (List.mem_of_getElem? (i := 1571) (by decide +kernel))) (by decide +kernel)
set_option maxRecDepth 100000 in
theorem wd_1572 : (Jvm.Cond.selects "HoleWaterModel" ({ cls := "HoleWaterModel", name := "crosses", desc := "(IIII)I" } : Jvm.MethodName) ({ cls := "HoleWaterModel", name := "crosses", desc := "(IIII)I" } : Jvm.MethodName)) ∈ mh_T := mh_T_in (List.mem_append_right _ (List.mem_of_getElem? (i := 1572) (by decide +kernel))) (by decide +kernel)
set_option maxRecDepth 100000 in
theorem wd_1573 : (Jvm.Cond.code ({ cls := "HoleWaterModel", name := "crosses", desc := "(IIII)I" } : Jvm.MethodName) prog_14_method_84_code (6 : Nat) (Option.some Jvm.ClassFile.FieldType.int)) ∈ mh_T := mh_T_in (List.mem_append_right _ (List.mem_of_getElem? (i := 1573) (by decide +kernel))) (by decide +kernel)
set_option maxRecDepth 100000 in
theorem wd_1574 : (Jvm.Cond.methodLink "HoleWaterModel" (284 : Nat) ({ cls := "HoleWaterModel", name := "side", desc := "(III)I" } : Jvm.MethodName)) ∈ mh_T := mh_T_in (List.mem_append_right _ (List.mem_of_getElem? (i := 1574) (by decide +kernel))) (by decide +kernel)
set_option maxRecDepth 100000 in
theorem wd_1576 : (Jvm.Cond.instanceMethod ({ cls := "HoleWaterModel", name := "side", desc := "(III)I" } : Jvm.MethodName)) ∈ mh_T := mh_T_in (List.mem_append_right _ (List.mem_of_getElem? (i := 1576) (by decide +kernel))) (by decide +kernel)
set_option maxRecDepth 100000 in
theorem wd_1577 : (Jvm.Cond.code ({ cls := "HoleWaterModel", name := "side", desc := "(III)I" } : Jvm.MethodName) prog_14_method_83_code (7 : Nat) (Option.some Jvm.ClassFile.FieldType.int)) ∈ mh_T := mh_T_in (List.mem_append_right _ (List.mem_of_getElem? (i := 1577) (by decide +kernel))) (by decide +kernel)
set_option maxRecDepth 100000 in
theorem wd_1578 : (Jvm.Cond.methodLink "HoleWaterLaw" (146 : Nat) ({ cls := "HoleWaterModel", name := "rooms", desc := "(II)I" } : Jvm.MethodName)) ∈ mh_T := mh_T_in (List.mem_append_right _ (List.mem_of_getElem? (i := 1578) (by decide +kernel))) (by decide +kernel)
set_option maxRecDepth 100000 in
theorem wd_1579 : (Jvm.Cond.instanceMethod ({ cls := "HoleWaterModel", name := "rooms", desc := "(II)I" } : Jvm.MethodName)) ∈ mh_T := mh_T_in (List.mem_append_right _ (List.mem_of_getElem? (i := 1579) (by decide +kernel))) (by decide +kernel)
set_option maxRecDepth 100000 in
theorem wd_1580 : (Jvm.Cond.selects "HoleWaterModel" ({ cls := "HoleWaterModel", name := "rooms", desc := "(II)I" } : Jvm.MethodName) ({ cls := "HoleWaterModel", name := "rooms", desc := "(II)I" } : Jvm.MethodName)) ∈ mh_T := mh_T_in (List.mem_append_right _ (List.mem_of_getElem? (i := 1580) (by decide +kernel))) (by decide +kernel)
set_option maxRecDepth 100000 in
theorem wd_1581 : (Jvm.Cond.code ({ cls := "HoleWaterModel", name := "rooms", desc := "(II)I" } : Jvm.MethodName) prog_14_method_89_code (12 : Nat) (Option.some Jvm.ClassFile.FieldType.int)) ∈ mh_T := mh_T_in (List.mem_append_right _ (List.mem_of_getElem? (i := 1581) (by decide +kernel))) (by decide +kernel)
set_option maxRecDepth 100000 in
theorem wd_1582 : (Jvm.Cond.methodLink "HoleWaterModel" (291 : Nat) ({ cls := "HoleWaterModel", name := "isWrongSet", desc := "(II)I" } : Jvm.MethodName)) ∈ mh_T := mh_T_in (List.mem_append_right _ (List.mem_of_getElem? (i := 1582) (by decide +kernel))) (by decide +kernel)
set_option maxRecDepth 100000 in
theorem wd_1584 : (Jvm.Cond.instanceMethod ({ cls := "HoleWaterModel", name := "isWrongSet", desc := "(II)I" } : Jvm.MethodName)) ∈ mh_T := mh_T_in (List.mem_append_right _ (List.mem_of_getElem? (i := 1584) (by decide +kernel))) (by decide +kernel)
set_option maxRecDepth 100000 in
theorem wd_1585 : (Jvm.Cond.code ({ cls := "HoleWaterModel", name := "isWrongSet", desc := "(II)I" } : Jvm.MethodName) prog_14_method_86_code (5 : Nat) (Option.some Jvm.ClassFile.FieldType.int)) ∈ mh_T := mh_T_in (List.mem_append_right _ (List.mem_of_getElem? (i := 1585) (by decide +kernel))) (by decide +kernel)
set_option maxRecDepth 100000 in
theorem wd_1586 : (Jvm.Cond.methodLink "HoleWaterModel" (294 : Nat) ({ cls := "HoleWaterModel", name := "ones", desc := "(I)I" } : Jvm.MethodName)) ∈ mh_T := mh_T_in (List.mem_append_right _ (List.mem_of_getElem? (i := 1586) (by decide +kernel))) (by decide +kernel)
set_option maxRecDepth 100000 in
theorem wd_1587 : (Jvm.Cond.static ({ cls := "HoleWaterModel", name := "ones", desc := "(I)I" } : Jvm.MethodName)) ∈ mh_T := mh_T_in (List.mem_append_right _ (List.mem_of_getElem? (i := 1587) (by decide +kernel))) (by decide +kernel)
set_option maxRecDepth 100000 in
theorem wd_1588 : (Jvm.Cond.code ({ cls := "HoleWaterModel", name := "ones", desc := "(I)I" } : Jvm.MethodName) prog_14_method_85_code (3 : Nat) (Option.some Jvm.ClassFile.FieldType.int)) ∈ mh_T := mh_T_in (List.mem_append_right _ (List.mem_of_getElem? (i := 1588) (by decide +kernel))) (by decide +kernel)
set_option maxRecDepth 100000 in
theorem wd_1589 : (Jvm.Cond.methodLink "HoleWaterModel" (297 : Nat) ({ cls := "HoleWaterModel", name := "lists", desc := "(I[I)I" } : Jvm.MethodName)) ∈ mh_T := mh_T_in (List.mem_append_right _ (List.mem_of_getElem? (i := 1589) (by decide +kernel))) (by decide +kernel)
set_option maxRecDepth 100000 in
theorem wd_1591 : (Jvm.Cond.instanceMethod ({ cls := "HoleWaterModel", name := "lists", desc := "(I[I)I" } : Jvm.MethodName)) ∈ mh_T := mh_T_in (List.mem_append_right _ (List.mem_of_getElem? (i := 1591) (by decide +kernel))) (by decide +kernel)
set_option maxRecDepth 100000 in
theorem wd_1592 : (Jvm.Cond.code ({ cls := "HoleWaterModel", name := "lists", desc := "(I[I)I" } : Jvm.MethodName) prog_14_method_87_code (5 : Nat) (Option.some Jvm.ClassFile.FieldType.int)) ∈ mh_T := mh_T_in (List.mem_append_right _ (List.mem_of_getElem? (i := 1592) (by decide +kernel))) (by decide +kernel)
set_option maxRecDepth 100000 in
theorem wd_1593 : (Jvm.Cond.methodLink "HoleWaterModel" (287 : Nat) ({ cls := "HoleWaterModel", name := "canHold", desc := "(III)Z" } : Jvm.MethodName)) ∈ mh_T := mh_T_in (List.mem_append_right _ (List.mem_of_getElem? (i := 1593) (by decide +kernel))) (by decide +kernel)
set_option maxRecDepth 100000 in
theorem wd_1595 : (Jvm.Cond.instanceMethod ({ cls := "HoleWaterModel", name := "canHold", desc := "(III)Z" } : Jvm.MethodName)) ∈ mh_T := mh_T_in (List.mem_append_right _ (List.mem_of_getElem? (i := 1595) (by decide +kernel))) (by decide +kernel)
set_option maxRecDepth 100000 in
theorem wd_1596 : (Jvm.Cond.code ({ cls := "HoleWaterModel", name := "canHold", desc := "(III)Z" } : Jvm.MethodName) prog_14_method_88_code (7 : Nat) (Option.some Jvm.ClassFile.FieldType.boolean)) ∈ mh_T := mh_T_in (List.mem_append_right _ (List.mem_of_getElem? (i := 1596) (by decide +kernel))) (by decide +kernel)
set_option maxRecDepth 100000 in
theorem wd_1597 : (Jvm.Cond.methodLink "HoleWaterLaw" (150 : Nat) ({ cls := "HoleWaterModel", name := "town", desc := "(IZ)I" } : Jvm.MethodName)) ∈ mh_T := mh_T_in (List.mem_append_right _ (List.mem_of_getElem? (i := 1597) (by decide +kernel))) (by decide +kernel)
set_option maxRecDepth 100000 in
theorem wd_1598 : (Jvm.Cond.instanceMethod ({ cls := "HoleWaterModel", name := "town", desc := "(IZ)I" } : Jvm.MethodName)) ∈ mh_T := mh_T_in (List.mem_append_right _ (List.mem_of_getElem? (i := 1598) (by decide +kernel))) (by decide +kernel)
set_option maxRecDepth 100000 in
theorem wd_1599 : (Jvm.Cond.selects "HoleWaterModel" ({ cls := "HoleWaterModel", name := "town", desc := "(IZ)I" } : Jvm.MethodName) ({ cls := "HoleWaterModel", name := "town", desc := "(IZ)I" } : Jvm.MethodName)) ∈ mh_T := mh_T_in (List.mem_append_right _ (List.mem_of_getElem? (i := 1599) (by decide +kernel))) (by decide +kernel)
set_option maxRecDepth 100000 in
theorem wd_1600 : (Jvm.Cond.code ({ cls := "HoleWaterModel", name := "town", desc := "(IZ)I" } : Jvm.MethodName) prog_14_method_90_code (4 : Nat) (Option.some Jvm.ClassFile.FieldType.int)) ∈ mh_T := mh_T_in (List.mem_append_right _ (List.mem_of_getElem? (i := 1600) (by decide +kernel))) (by decide +kernel)
set_option maxRecDepth 100000 in
theorem wd_1601 : (Jvm.Cond.methodLink "HoleWaterLaw" (154 : Nat) ({ cls := "HoleWaterModel", name := "night", desc := "(III)I" } : Jvm.MethodName)) ∈ mh_T := mh_T_in (List.mem_append_right _ (List.mem_of_getElem? (i := 1601) (by decide +kernel))) (by decide +kernel)
set_option maxRecDepth 100000 in
theorem wd_1602 : (Jvm.Cond.instanceMethod ({ cls := "HoleWaterModel", name := "night", desc := "(III)I" } : Jvm.MethodName)) ∈ mh_T := mh_T_in (List.mem_append_right _ (List.mem_of_getElem? (i := 1602) (by decide +kernel))) (by decide +kernel)
set_option maxRecDepth 100000 in
theorem wd_1603 : (Jvm.Cond.selects "HoleWaterModel" ({ cls := "HoleWaterModel", name := "night", desc := "(III)I" } : Jvm.MethodName) ({ cls := "HoleWaterModel", name := "night", desc := "(III)I" } : Jvm.MethodName)) ∈ mh_T := mh_T_in (List.mem_append_right _ (List.mem_of_getElem? (i := 1603) (by decide +kernel))) (by decide +kernel)
set_option maxRecDepth 100000 in
theorem wd_1604 : (Jvm.Cond.code ({ cls := "HoleWaterModel", name := "night", desc := "(III)I" } : Jvm.MethodName) prog_14_method_92_code (13 : Nat) (Option.some Jvm.ClassFile.FieldType.int)) ∈ mh_T := mh_T_in (List.mem_append_right _ (List.mem_of_getElem? (i := 1604) (by decide +kernel))) (by decide +kernel)
set_option maxRecDepth 100000 in
theorem wd_1605 : (Jvm.Cond.constantLong "HoleWaterModel" (301 : Nat) (4 : Int64)) ∈ mh_T := mh_T_in (List.mem_append_right _ (List.mem_of_getElem? (i := 1605) (by decide +kernel))) (by decide +kernel)
set_option maxRecDepth 100000 in
theorem wd_1606 : (Jvm.Cond.methodLink "HoleWaterModel" (303 : Nat) ({ cls := "HoleWaterModel", name := "mayBe", desc := "(I)Z" } : Jvm.MethodName)) ∈ mh_T := mh_T_in (List.mem_append_right _ (List.mem_of_getElem? (i := 1606) (by decide +kernel))) (by decide +kernel)
set_option maxRecDepth 100000 in
theorem wd_1608 : (Jvm.Cond.instanceMethod ({ cls := "HoleWaterModel", name := "mayBe", desc := "(I)Z" } : Jvm.MethodName)) ∈ mh_T := mh_T_in (List.mem_append_right _ (List.mem_of_getElem? (i := 1608) (by decide +kernel))) (by decide +kernel)
set_option maxRecDepth 100000 in
theorem wd_1609 : (Jvm.Cond.code ({ cls := "HoleWaterModel", name := "mayBe", desc := "(I)Z" } : Jvm.MethodName) prog_14_method_91_code (4 : Nat) (Option.some Jvm.ClassFile.FieldType.boolean)) ∈ mh_T := mh_T_in (List.mem_append_right _ (List.mem_of_getElem? (i := 1609) (by decide +kernel))) (by decide +kernel)
set_option maxRecDepth 100000 in
theorem wd_1610 : (Jvm.Cond.methodLink "HoleWaterLaw" (158 : Nat) ({ cls := "HoleWaterModel", name := "share", desc := "(I)I" } : Jvm.MethodName)) ∈ mh_T := mh_T_in (List.mem_append_right _ (List.mem_of_getElem? (i := 1610) (by decide +kernel))) (by decide +kernel)
set_option maxRecDepth 100000 in
theorem wd_1611 : (Jvm.Cond.instanceMethod ({ cls := "HoleWaterModel", name := "share", desc := "(I)I" } : Jvm.MethodName)) ∈ mh_T := mh_T_in (List.mem_append_right _ (List.mem_of_getElem? (i := 1611) (by decide +kernel))) (by decide +kernel)
set_option maxRecDepth 100000 in
theorem wd_1612 : (Jvm.Cond.selects "HoleWaterModel" ({ cls := "HoleWaterModel", name := "share", desc := "(I)I" } : Jvm.MethodName) ({ cls := "HoleWaterModel", name := "share", desc := "(I)I" } : Jvm.MethodName)) ∈ mh_T := mh_T_in (List.mem_append_right _ (List.mem_of_getElem? (i := 1612) (by decide +kernel))) (by decide +kernel)
set_option maxRecDepth 100000 in
theorem wd_1613 : (Jvm.Cond.code ({ cls := "HoleWaterModel", name := "share", desc := "(I)I" } : Jvm.MethodName) prog_14_method_93_code (7 : Nat) (Option.some Jvm.ClassFile.FieldType.int)) ∈ mh_T := mh_T_in (List.mem_append_right _ (List.mem_of_getElem? (i := 1613) (by decide +kernel))) (by decide +kernel)
set_option maxRecDepth 100000 in
theorem wd_1614 : (Jvm.Cond.methodLink "HoleWaterLaw" (162 : Nat) ({ cls := "HoleWaterModel", name := "voice", desc := "(III)I" } : Jvm.MethodName)) ∈ mh_T := mh_T_in (List.mem_append_right _ (List.mem_of_getElem? (i := 1614) (by decide +kernel))) (by decide +kernel)
set_option maxRecDepth 100000 in
theorem wd_1615 : (Jvm.Cond.instanceMethod ({ cls := "HoleWaterModel", name := "voice", desc := "(III)I" } : Jvm.MethodName)) ∈ mh_T := mh_T_in (List.mem_append_right _ (List.mem_of_getElem? (i := 1615) (by decide +kernel))) (by decide +kernel)
set_option maxRecDepth 100000 in
theorem wd_1616 : (Jvm.Cond.selects "HoleWaterModel" ({ cls := "HoleWaterModel", name := "voice", desc := "(III)I" } : Jvm.MethodName) ({ cls := "HoleWaterModel", name := "voice", desc := "(III)I" } : Jvm.MethodName)) ∈ mh_T := mh_T_in (List.mem_append_right _ (List.mem_of_getElem? (i := 1616) (by decide +kernel))) (by decide +kernel)
set_option maxRecDepth 100000 in
theorem wd_1617 : (Jvm.Cond.code ({ cls := "HoleWaterModel", name := "voice", desc := "(III)I" } : Jvm.MethodName) prog_14_method_104_code (5 : Nat) (Option.some Jvm.ClassFile.FieldType.int)) ∈ mh_T := mh_T_in (List.mem_append_right _ (List.mem_of_getElem? (i := 1617) (by decide +kernel))) (by decide +kernel)
set_option maxRecDepth 100000 in
theorem wd_1618 : (Jvm.Cond.methodLink "HoleWaterModel" (327 : Nat) ({ cls := "HoleWaterModel", name := "runs", desc := "(I)I" } : Jvm.MethodName)) ∈ mh_T := mh_T_in (List.mem_append_right _ (List.mem_of_getElem? (i := 1618) (by decide +kernel))) (by decide +kernel)
set_option maxRecDepth 100000 in
theorem wd_1620 : (Jvm.Cond.instanceMethod ({ cls := "HoleWaterModel", name := "runs", desc := "(I)I" } : Jvm.MethodName)) ∈ mh_T := mh_T_in (List.mem_append_right _ (List.mem_of_getElem? (i := 1620) (by decide +kernel))) (by decide +kernel)
set_option maxRecDepth 100000 in
theorem wd_1621 : (Jvm.Cond.code ({ cls := "HoleWaterModel", name := "runs", desc := "(I)I" } : Jvm.MethodName) prog_14_method_97_code (2 : Nat) (Option.some Jvm.ClassFile.FieldType.int)) ∈ mh_T := mh_T_in (List.mem_append_right _ (List.mem_of_getElem? (i := 1621) (by decide +kernel))) (by decide +kernel)
set_option maxRecDepth 100000 in
theorem wd_1622 : (Jvm.Cond.methodLink "HoleWaterModel" (309 : Nat) ({ cls := "HoleWaterModel", name := "begins", desc := "(I)V" } : Jvm.MethodName)) ∈ mh_T := mh_T_in (List.mem_append_right _ (List.mem_of_getElem? (i := 1622) (by decide +kernel))) (by decide +kernel)
set_option maxRecDepth 100000 in
theorem wd_1624 : (Jvm.Cond.instanceMethod ({ cls := "HoleWaterModel", name := "begins", desc := "(I)V" } : Jvm.MethodName)) ∈ mh_T := mh_T_in (List.mem_append_right _ (List.mem_of_getElem? (i := 1624) (by decide +kernel))) (by decide +kernel)
set_option maxRecDepth 100000 in
theorem wd_1625 : (Jvm.Cond.code ({ cls := "HoleWaterModel", name := "begins", desc := "(I)V" } : Jvm.MethodName) prog_14_method_94_code (2 : Nat) (Option.none : Option Jvm.ClassFile.FieldType)) ∈ mh_T := mh_T_in (List.mem_append_right _ (List.mem_of_getElem? (i := 1625) (by decide +kernel))) (by decide +kernel)
set_option maxRecDepth 100000 in
theorem wd_1626 : (Jvm.Cond.methodLink "HoleWaterModel" (324 : Nat) ({ cls := "HoleWaterModel", name := "openRuns", desc := "(I)I" } : Jvm.MethodName)) ∈ mh_T := mh_T_in (List.mem_append_right _ (List.mem_of_getElem? (i := 1626) (by decide +kernel))) (by decide +kernel)
set_option maxRecDepth 100000 in
theorem wd_1628 : (Jvm.Cond.instanceMethod ({ cls := "HoleWaterModel", name := "openRuns", desc := "(I)I" } : Jvm.MethodName)) ∈ mh_T := mh_T_in (List.mem_append_right _ (List.mem_of_getElem? (i := 1628) (by decide +kernel))) (by decide +kernel)
set_option maxRecDepth 100000 in
theorem wd_1629 : (Jvm.Cond.code ({ cls := "HoleWaterModel", name := "openRuns", desc := "(I)I" } : Jvm.MethodName) prog_14_method_96_code (2 : Nat) (Option.some Jvm.ClassFile.FieldType.int)) ∈ mh_T := mh_T_in (List.mem_append_right _ (List.mem_of_getElem? (i := 1629) (by decide +kernel))) (by decide +kernel)
set_option maxRecDepth 100000 in
theorem wd_1630 : (Jvm.Cond.methodLink "HoleWaterModel" (315 : Nat) ({ cls := "HoleWaterModel", name := "plainRuns", desc := "(I)I" } : Jvm.MethodName)) ∈ mh_T := mh_T_in (List.mem_append_right _ (List.mem_of_getElem? (i := 1630) (by decide +kernel))) (by decide +kernel)
set_option maxRecDepth 100000 in
theorem wd_1632 : (Jvm.Cond.instanceMethod ({ cls := "HoleWaterModel", name := "plainRuns", desc := "(I)I" } : Jvm.MethodName)) ∈ mh_T := mh_T_in (List.mem_append_right _ (List.mem_of_getElem? (i := 1632) (by decide +kernel))) (by decide +kernel)
set_option maxRecDepth 100000 in
theorem wd_1633 : (Jvm.Cond.code ({ cls := "HoleWaterModel", name := "plainRuns", desc := "(I)I" } : Jvm.MethodName) prog_14_method_95_code (2 : Nat) (Option.some Jvm.ClassFile.FieldType.int)) ∈ mh_T := mh_T_in (List.mem_append_right _ (List.mem_of_getElem? (i := 1633) (by decide +kernel))) (by decide +kernel)
set_option maxRecDepth 100000 in
theorem wd_1634 : (Jvm.Cond.methodLink "HoleWaterModel" (333 : Nat) ({ cls := "HoleWaterModel", name := "holds", desc := "(I)I" } : Jvm.MethodName)) ∈ mh_T := mh_T_in (List.mem_append_right _ (List.mem_of_getElem? (i := 1634) (by decide +kernel))) (by decide +kernel)
set_option maxRecDepth 100000 in
theorem wd_1636 : (Jvm.Cond.instanceMethod ({ cls := "HoleWaterModel", name := "holds", desc := "(I)I" } : Jvm.MethodName)) ∈ mh_T := mh_T_in (List.mem_append_right _ (List.mem_of_getElem? (i := 1636) (by decide +kernel))) (by decide +kernel)
set_option maxRecDepth 100000 in
theorem wd_1637 : (Jvm.Cond.code ({ cls := "HoleWaterModel", name := "holds", desc := "(I)I" } : Jvm.MethodName) prog_14_method_99_code (2 : Nat) (Option.some Jvm.ClassFile.FieldType.int)) ∈ mh_T := mh_T_in (List.mem_append_right _ (List.mem_of_getElem? (i := 1637) (by decide +kernel))) (by decide +kernel)
set_option maxRecDepth 100000 in
theorem wd_1638 : (Jvm.Cond.methodLink "HoleWaterModel" (330 : Nat) ({ cls := "HoleWaterModel", name := "plainHolds", desc := "(I)I" } : Jvm.MethodName)) ∈ mh_T := mh_T_in (List.mem_append_right _ (List.mem_of_getElem? (i := 1638) (by decide +kernel))) (by decide +kernel)
set_option maxRecDepth 100000 in
theorem wd_1640 : (Jvm.Cond.instanceMethod ({ cls := "HoleWaterModel", name := "plainHolds", desc := "(I)I" } : Jvm.MethodName)) ∈ mh_T := mh_T_in (List.mem_append_right _ (List.mem_of_getElem? (i := 1640) (by decide +kernel))) (by decide +kernel)
set_option maxRecDepth 100000 in
theorem wd_1641 : (Jvm.Cond.code ({ cls := "HoleWaterModel", name := "plainHolds", desc := "(I)I" } : Jvm.MethodName) prog_14_method_98_code (2 : Nat) (Option.some Jvm.ClassFile.FieldType.int)) ∈ mh_T := mh_T_in (List.mem_append_right _ (List.mem_of_getElem? (i := 1641) (by decide +kernel))) (by decide +kernel)
set_option maxRecDepth 100000 in
theorem wd_1642 : (Jvm.Cond.methodLink "HoleWaterModel" (344 : Nat) ({ cls := "HoleWaterModel", name := "spills", desc := "(I)I" } : Jvm.MethodName)) ∈ mh_T := mh_T_in (List.mem_append_right _ (List.mem_of_getElem? (i := 1642) (by decide +kernel))) (by decide +kernel)
set_option maxRecDepth 100000 in
theorem wd_1644 : (Jvm.Cond.instanceMethod ({ cls := "HoleWaterModel", name := "spills", desc := "(I)I" } : Jvm.MethodName)) ∈ mh_T := mh_T_in (List.mem_append_right _ (List.mem_of_getElem? (i := 1644) (by decide +kernel))) (by decide +kernel)
set_option maxRecDepth 100000 in
theorem wd_1645 : (Jvm.Cond.code ({ cls := "HoleWaterModel", name := "spills", desc := "(I)I" } : Jvm.MethodName) prog_14_method_101_code (2 : Nat) (Option.some Jvm.ClassFile.FieldType.int)) ∈ mh_T := mh_T_in (List.mem_append_right _ (List.mem_of_getElem? (i := 1645) (by decide +kernel))) (by decide +kernel)
set_option maxRecDepth 100000 in
theorem wd_1646 : (Jvm.Cond.methodLink "HoleWaterModel" (335 : Nat) ({ cls := "HoleWaterModel", name := "plainSpills", desc := "(I)I" } : Jvm.MethodName)) ∈ mh_T := mh_T_in (List.mem_append_right _ (List.mem_of_getElem? (i := 1646) (by decide +kernel))) (by decide +kernel)
set_option maxRecDepth 100000 in
theorem wd_1648 : (Jvm.Cond.instanceMethod ({ cls := "HoleWaterModel", name := "plainSpills", desc := "(I)I" } : Jvm.MethodName)) ∈ mh_T := mh_T_in (List.mem_append_right _ (List.mem_of_getElem? (i := 1648) (by decide +kernel))) (by decide +kernel)
set_option maxRecDepth 100000 in
theorem wd_1649 : (Jvm.Cond.code ({ cls := "HoleWaterModel", name := "plainSpills", desc := "(I)I" } : Jvm.MethodName) prog_14_method_100_code (2 : Nat) (Option.some Jvm.ClassFile.FieldType.int)) ∈ mh_T := mh_T_in (List.mem_append_right _ (List.mem_of_getElem? (i := 1649) (by decide +kernel))) (by decide +kernel)
set_option maxRecDepth 100000 in
theorem wd_1650 : (Jvm.Cond.methodLink "HoleWaterModel" (346 : Nat) ({ cls := "HoleWaterModel", name := "tells", desc := "(I)I" } : Jvm.MethodName)) ∈ mh_T := mh_T_in (List.mem_append_right _ (List.mem_of_getElem? (i := 1650) (by decide +kernel))) (by decide +kernel)
set_option maxRecDepth 100000 in
theorem wd_1652 : (Jvm.Cond.instanceMethod ({ cls := "HoleWaterModel", name := "tells", desc := "(I)I" } : Jvm.MethodName)) ∈ mh_T := mh_T_in (List.mem_append_right _ (List.mem_of_getElem? (i := 1652) (by decide +kernel))) (by decide +kernel)
set_option maxRecDepth 100000 in
theorem wd_1653 : (Jvm.Cond.code ({ cls := "HoleWaterModel", name := "tells", desc := "(I)I" } : Jvm.MethodName) prog_14_method_103_code (3 : Nat) (Option.some Jvm.ClassFile.FieldType.int)) ∈ mh_T := mh_T_in (List.mem_append_right _ (List.mem_of_getElem? (i := 1653) (by decide +kernel))) (by decide +kernel)
set_option maxRecDepth 100000 in
theorem wd_1654 : (Jvm.Cond.methodLink "HoleWaterModel" (341 : Nat) ({ cls := "HoleWaterModel", name := "plainTells", desc := "(I)I" } : Jvm.MethodName)) ∈ mh_T := mh_T_in (List.mem_append_right _ (List.mem_of_getElem? (i := 1654) (by decide +kernel))) (by decide +kernel)
set_option maxRecDepth 100000 in
theorem wd_1656 : (Jvm.Cond.instanceMethod ({ cls := "HoleWaterModel", name := "plainTells", desc := "(I)I" } : Jvm.MethodName)) ∈ mh_T := mh_T_in (List.mem_append_right _ (List.mem_of_getElem? (i := 1656) (by decide +kernel))) (by decide +kernel)
set_option maxRecDepth 100000 in
theorem wd_1657 : (Jvm.Cond.code ({ cls := "HoleWaterModel", name := "plainTells", desc := "(I)I" } : Jvm.MethodName) prog_14_method_102_code (3 : Nat) (Option.some Jvm.ClassFile.FieldType.int)) ∈ mh_T := mh_T_in (List.mem_append_right _ (List.mem_of_getElem? (i := 1657) (by decide +kernel))) (by decide +kernel)
set_option maxRecDepth 100000 in
theorem wd_1658 : (Jvm.Cond.methodLink "HoleWaterLaw" (166 : Nat) ({ cls := "HoleWaterModel", name := "trace", desc := "(I)I" } : Jvm.MethodName)) ∈ mh_T := mh_T_in (List.mem_append_right _ (List.mem_of_getElem? (i := 1658) (by decide +kernel))) (by decide +kernel)
set_option maxRecDepth 100000 in
theorem wd_1659 : (Jvm.Cond.instanceMethod ({ cls := "HoleWaterModel", name := "trace", desc := "(I)I" } : Jvm.MethodName)) ∈ mh_T := mh_T_in (List.mem_append_right _ (List.mem_of_getElem? (i := 1659) (by decide +kernel))) (by decide +kernel)
set_option maxRecDepth 100000 in
theorem wd_1660 : (Jvm.Cond.selects "HoleWaterModel" ({ cls := "HoleWaterModel", name := "trace", desc := "(I)I" } : Jvm.MethodName) ({ cls := "HoleWaterModel", name := "trace", desc := "(I)I" } : Jvm.MethodName)) ∈ mh_T := mh_T_in (List.mem_append_right _ (List.mem_of_getElem? (i := 1660) (by decide +kernel))) (by decide +kernel)
set_option maxRecDepth 100000 in
theorem wd_1661 : (Jvm.Cond.code ({ cls := "HoleWaterModel", name := "trace", desc := "(I)I" } : Jvm.MethodName) prog_14_method_105_code (2 : Nat) (Option.some Jvm.ClassFile.FieldType.int)) ∈ mh_T := mh_T_in (List.mem_append_right _ (List.mem_of_getElem? (i := 1661) (by decide +kernel))) (by decide +kernel)
set_option maxRecDepth 100000 in
theorem wd_1662 : (Jvm.Cond.methodLink "HoleWaterLaw" (170 : Nat) ({ cls := "HoleWaterModel", name := "sheet", desc := "(III)I" } : Jvm.MethodName)) ∈ mh_T := mh_T_in (List.mem_append_right _ (List.mem_of_getElem? (i := 1662) (by decide +kernel))) (by decide +kernel)
set_option maxRecDepth 100000 in
theorem wd_1663 : (Jvm.Cond.instanceMethod ({ cls := "HoleWaterModel", name := "sheet", desc := "(III)I" } : Jvm.MethodName)) ∈ mh_T := mh_T_in (List.mem_append_right _ (List.mem_of_getElem? (i := 1663) (by decide +kernel))) (by decide +kernel)
set_option maxRecDepth 100000 in
theorem wd_1664 : (Jvm.Cond.selects "HoleWaterModel" ({ cls := "HoleWaterModel", name := "sheet", desc := "(III)I" } : Jvm.MethodName) ({ cls := "HoleWaterModel", name := "sheet", desc := "(III)I" } : Jvm.MethodName)) ∈ mh_T := mh_T_in (List.mem_append_right _ (List.mem_of_getElem? (i := 1664) (by decide +kernel))) (by decide +kernel)
set_option maxRecDepth 100000 in
theorem wd_1665 : (Jvm.Cond.code ({ cls := "HoleWaterModel", name := "sheet", desc := "(III)I" } : Jvm.MethodName) prog_14_method_107_code (5 : Nat) (Option.some Jvm.ClassFile.FieldType.int)) ∈ mh_T := mh_T_in (List.mem_append_right _ (List.mem_of_getElem? (i := 1665) (by decide +kernel))) (by decide +kernel)
set_option maxRecDepth 100000 in
theorem wd_1666 : (Jvm.Cond.methodLink "HoleWaterLaw" (174 : Nat) ({ cls := "HoleWaterModel", name := "place", desc := "(III)I" } : Jvm.MethodName)) ∈ mh_T := mh_T_in (List.mem_append_right _ (List.mem_of_getElem? (i := 1666) (by decide +kernel))) (by decide +kernel)
set_option maxRecDepth 100000 in
theorem wd_1667 : (Jvm.Cond.instanceMethod ({ cls := "HoleWaterModel", name := "place", desc := "(III)I" } : Jvm.MethodName)) ∈ mh_T := mh_T_in (List.mem_append_right _ (List.mem_of_getElem? (i := 1667) (by decide +kernel))) (by decide +kernel)
set_option maxRecDepth 100000 in
theorem wd_1668 : (Jvm.Cond.selects "HoleWaterModel" ({ cls := "HoleWaterModel", name := "place", desc := "(III)I" } : Jvm.MethodName) ({ cls := "HoleWaterModel", name := "place", desc := "(III)I" } : Jvm.MethodName)) ∈ mh_T := mh_T_in (List.mem_append_right _ (List.mem_of_getElem? (i := 1668) (by decide +kernel))) (by decide +kernel)
set_option maxRecDepth 100000 in
theorem wd_1669 : (Jvm.Cond.code ({ cls := "HoleWaterModel", name := "place", desc := "(III)I" } : Jvm.MethodName) prog_14_method_108_code (4 : Nat) (Option.some Jvm.ClassFile.FieldType.int)) ∈ mh_T := mh_T_in (List.mem_append_right _ (List.mem_of_getElem? (i := 1669) (by decide +kernel))) (by decide +kernel)
set_option maxRecDepth 100000 in
theorem wd_1670 : (Jvm.Cond.methodLink "HoleWaterLaw" (178 : Nat) ({ cls := "HoleWaterModel", name := "move", desc := "(IIIII)I" } : Jvm.MethodName)) ∈ mh_T := mh_T_in (List.mem_append_right _ (List.mem_of_getElem? (i := 1670) (by decide +kernel))) (by decide +kernel)
set_option maxRecDepth 100000 in
theorem wd_1671 : (Jvm.Cond.instanceMethod ({ cls := "HoleWaterModel", name := "move", desc := "(IIIII)I" } : Jvm.MethodName)) ∈ mh_T := mh_T_in (List.mem_append_right _ (List.mem_of_getElem? (i := 1671) (by decide +kernel))) (by decide +kernel)
set_option maxRecDepth 100000 in
theorem wd_1672 : (Jvm.Cond.selects "HoleWaterModel" ({ cls := "HoleWaterModel", name := "move", desc := "(IIIII)I" } : Jvm.MethodName) ({ cls := "HoleWaterModel", name := "move", desc := "(IIIII)I" } : Jvm.MethodName)) ∈ mh_T := mh_T_in (List.mem_append_right _ (List.mem_of_getElem? (i := 1672) (by decide +kernel))) (by decide +kernel)
set_option maxRecDepth 100000 in
theorem wd_1673 : (Jvm.Cond.code ({ cls := "HoleWaterModel", name := "move", desc := "(IIIII)I" } : Jvm.MethodName) prog_14_method_109_code (9 : Nat) (Option.some Jvm.ClassFile.FieldType.int)) ∈ mh_T := mh_T_in (List.mem_append_right _ (List.mem_of_getElem? (i := 1673) (by decide +kernel))) (by decide +kernel)
set_option maxRecDepth 100000 in
theorem wd_1674 : (Jvm.Cond.methodLink "HoleWaterLaw" (183 : Nat) ({ cls := "HoleWaterModel", name := "image", desc := "()I" } : Jvm.MethodName)) ∈ mh_T := mh_T_in (List.mem_append_right _ (List.mem_of_getElem? (i := 1674) (by decide +kernel))) (by decide +kernel)
set_option maxRecDepth 100000 in
theorem wd_1675 : (Jvm.Cond.instanceMethod ({ cls := "HoleWaterModel", name := "image", desc := "()I" } : Jvm.MethodName)) ∈ mh_T := mh_T_in (List.mem_append_right _ (List.mem_of_getElem? (i := 1675) (by decide +kernel))) (by decide +kernel)
set_option maxRecDepth 100000 in
theorem wd_1676 : (Jvm.Cond.selects "HoleWaterModel" ({ cls := "HoleWaterModel", name := "image", desc := "()I" } : Jvm.MethodName) ({ cls := "HoleWaterModel", name := "image", desc := "()I" } : Jvm.MethodName)) ∈ mh_T := mh_T_in (List.mem_append_right _ (List.mem_of_getElem? (i := 1676) (by decide +kernel))) (by decide +kernel)
set_option maxRecDepth 100000 in
theorem wd_1677 : (Jvm.Cond.code ({ cls := "HoleWaterModel", name := "image", desc := "()I" } : Jvm.MethodName) prog_14_method_110_code (2 : Nat) (Option.some Jvm.ClassFile.FieldType.int)) ∈ mh_T := mh_T_in (List.mem_append_right _ (List.mem_of_getElem? (i := 1677) (by decide +kernel))) (by decide +kernel)
set_option maxRecDepth 100000 in
theorem wd_1678 : (Jvm.Cond.methodLink "HoleWaterLaw" (187 : Nat) ({ cls := "HoleWaterModel", name := "restore", desc := "()I" } : Jvm.MethodName)) ∈ mh_T := mh_T_in (List.mem_append_right _ (List.mem_of_getElem? (i := 1678) (by decide +kernel))) (by decide +kernel)
set_option maxRecDepth 100000 in
theorem wd_1679 : (Jvm.Cond.instanceMethod ({ cls := "HoleWaterModel", name := "restore", desc := "()I" } : Jvm.MethodName)) ∈ mh_T := mh_T_in (List.mem_append_right _ (List.mem_of_getElem? (i := 1679) (by decide +kernel))) (by decide +kernel)
set_option maxRecDepth 100000 in
theorem wd_1680 : (Jvm.Cond.selects "HoleWaterModel" ({ cls := "HoleWaterModel", name := "restore", desc := "()I" } : Jvm.MethodName) ({ cls := "HoleWaterModel", name := "restore", desc := "()I" } : Jvm.MethodName)) ∈ mh_T := mh_T_in (List.mem_append_right _ (List.mem_of_getElem? (i := 1680) (by decide +kernel))) (by decide +kernel)
set_option maxRecDepth 100000 in
theorem wd_1681 : (Jvm.Cond.code ({ cls := "HoleWaterModel", name := "restore", desc := "()I" } : Jvm.MethodName) prog_14_method_111_code (2 : Nat) (Option.some Jvm.ClassFile.FieldType.int)) ∈ mh_T := mh_T_in (List.mem_append_right _ (List.mem_of_getElem? (i := 1681) (by decide +kernel))) (by decide +kernel)
set_option maxRecDepth 100000 in
theorem wd_1682 : (Jvm.Cond.methodLink "HoleWaterLaw" (191 : Nat) ({ cls := "HoleWaterModel", name := "tell", desc := "(I)I" } : Jvm.MethodName)) ∈ mh_T := mh_T_in (List.mem_append_right _ (List.mem_of_getElem? (i := 1682) (by decide +kernel))) (by decide +kernel)
set_option maxRecDepth 100000 in
theorem wd_1683 : (Jvm.Cond.instanceMethod ({ cls := "HoleWaterModel", name := "tell", desc := "(I)I" } : Jvm.MethodName)) ∈ mh_T := mh_T_in (List.mem_append_right _ (List.mem_of_getElem? (i := 1683) (by decide +kernel))) (by decide +kernel)
set_option maxRecDepth 100000 in
theorem wd_1684 : (Jvm.Cond.selects "HoleWaterModel" ({ cls := "HoleWaterModel", name := "tell", desc := "(I)I" } : Jvm.MethodName) ({ cls := "HoleWaterModel", name := "tell", desc := "(I)I" } : Jvm.MethodName)) ∈ mh_T := mh_T_in (List.mem_append_right _ (List.mem_of_getElem? (i := 1684) (by decide +kernel))) (by decide +kernel)
set_option maxRecDepth 100000 in
theorem wd_1685 : (Jvm.Cond.code ({ cls := "HoleWaterModel", name := "tell", desc := "(I)I" } : Jvm.MethodName) prog_14_method_112_code (2 : Nat) (Option.some Jvm.ClassFile.FieldType.int)) ∈ mh_T := mh_T_in (List.mem_append_right _ (List.mem_of_getElem? (i := 1685) (by decide +kernel))) (by decide +kernel)
set_option maxRecDepth 100000 in
theorem wd_1686 : (Jvm.Cond.methodLink "HoleWaterLaw" (195 : Nat) ({ cls := "HoleWaterModel", name := "check", desc := "(I)I" } : Jvm.MethodName)) ∈ mh_T := mh_T_in (List.mem_append_right _ (List.mem_of_getElem? (i := 1686) (by decide +kernel))) (by decide +kernel)
set_option maxRecDepth 100000 in
theorem wd_1687 : (Jvm.Cond.instanceMethod ({ cls := "HoleWaterModel", name := "check", desc := "(I)I" } : Jvm.MethodName)) ∈ mh_T := mh_T_in (List.mem_append_right _ (List.mem_of_getElem? (i := 1687) (by decide +kernel))) (by decide +kernel)
set_option maxRecDepth 100000 in
theorem wd_1688 : (Jvm.Cond.selects "HoleWaterModel" ({ cls := "HoleWaterModel", name := "check", desc := "(I)I" } : Jvm.MethodName) ({ cls := "HoleWaterModel", name := "check", desc := "(I)I" } : Jvm.MethodName)) ∈ mh_T := mh_T_in (List.mem_append_right _ (List.mem_of_getElem? (i := 1688) (by decide +kernel))) (by decide +kernel)
set_option maxRecDepth 100000 in
theorem wd_1689 : (Jvm.Cond.code ({ cls := "HoleWaterModel", name := "check", desc := "(I)I" } : Jvm.MethodName) prog_14_method_113_code (5 : Nat) (Option.some Jvm.ClassFile.FieldType.int)) ∈ mh_T := mh_T_in (List.mem_append_right _ (List.mem_of_getElem? (i := 1689) (by decide +kernel))) (by decide +kernel)
set_option maxRecDepth 100000 in
theorem wd_1690 : (Jvm.Cond.methodLink "HoleWaterLaw" (199 : Nat) ({ cls := "HoleWaterModel", name := "count", desc := "(I)I" } : Jvm.MethodName)) ∈ mh_T := mh_T_in (List.mem_append_right _ (List.mem_of_getElem? (i := 1690) (by decide +kernel))) (by decide +kernel)
set_option maxRecDepth 100000 in
theorem wd_1691 : (Jvm.Cond.instanceMethod ({ cls := "HoleWaterModel", name := "count", desc := "(I)I" } : Jvm.MethodName)) ∈ mh_T := mh_T_in (List.mem_append_right _ (List.mem_of_getElem? (i := 1691) (by decide +kernel))) (by decide +kernel)
set_option maxRecDepth 100000 in
theorem wd_1692 : (Jvm.Cond.selects "HoleWaterModel" ({ cls := "HoleWaterModel", name := "count", desc := "(I)I" } : Jvm.MethodName) ({ cls := "HoleWaterModel", name := "count", desc := "(I)I" } : Jvm.MethodName)) ∈ mh_T := mh_T_in (List.mem_append_right _ (List.mem_of_getElem? (i := 1692) (by decide +kernel))) (by decide +kernel)
set_option maxRecDepth 100000 in
theorem wd_1693 : (Jvm.Cond.code ({ cls := "HoleWaterModel", name := "count", desc := "(I)I" } : Jvm.MethodName) prog_14_method_116_code (2 : Nat) (Option.some Jvm.ClassFile.FieldType.int)) ∈ mh_T := mh_T_in (List.mem_append_right _ (List.mem_of_getElem? (i := 1693) (by decide +kernel))) (by decide +kernel)
set_option maxRecDepth 100000 in
theorem wd_1694 : (Jvm.Cond.methodLink "HoleWaterModel" (352 : Nat) ({ cls := "HoleWaterModel", name := "sawMany", desc := "()I" } : Jvm.MethodName)) ∈ mh_T := mh_T_in (List.mem_append_right _ (List.mem_of_getElem? (i := 1694) (by decide +kernel))) (by decide +kernel)
set_option maxRecDepth 100000 in
theorem wd_1696 : (Jvm.Cond.instanceMethod ({ cls := "HoleWaterModel", name := "sawMany", desc := "()I" } : Jvm.MethodName)) ∈ mh_T := mh_T_in (List.mem_append_right _ (List.mem_of_getElem? (i := 1696) (by decide +kernel))) (by decide +kernel)
set_option maxRecDepth 100000 in
theorem wd_1697 : (Jvm.Cond.code ({ cls := "HoleWaterModel", name := "sawMany", desc := "()I" } : Jvm.MethodName) prog_14_method_115_code (3 : Nat) (Option.some Jvm.ClassFile.FieldType.int)) ∈ mh_T := mh_T_in (List.mem_append_right _ (List.mem_of_getElem? (i := 1697) (by decide +kernel))) (by decide +kernel)
set_option maxRecDepth 100000 in
theorem wd_1698 : (Jvm.Cond.methodLink "HoleWaterModel" (355 : Nat) ({ cls := "HoleWaterModel", name := "water", desc := "()I" } : Jvm.MethodName)) ∈ mh_T := mh_T_in (List.mem_append_right _ (List.mem_of_getElem? (i := 1698) (by decide +kernel))) (by decide +kernel)
set_option maxRecDepth 100000 in
theorem wd_1700 : (Jvm.Cond.instanceMethod ({ cls := "HoleWaterModel", name := "water", desc := "()I" } : Jvm.MethodName)) ∈ mh_T := mh_T_in (List.mem_append_right _ (List.mem_of_getElem? (i := 1700) (by decide +kernel))) (by decide +kernel)
set_option maxRecDepth 100000 in
theorem wd_1701 : (Jvm.Cond.code ({ cls := "HoleWaterModel", name := "water", desc := "()I" } : Jvm.MethodName) prog_14_method_114_code (3 : Nat) (Option.some Jvm.ClassFile.FieldType.int)) ∈ mh_T := mh_T_in (List.mem_append_right _ (List.mem_of_getElem? (i := 1701) (by decide +kernel))) (by decide +kernel)
set_option maxRecDepth 100000 in
theorem wd_1702 : (Jvm.Cond.methodLink "HoleWaterLaw" (203 : Nat) ({ cls := "HoleWaterModel", name := "told", desc := "(I)I" } : Jvm.MethodName)) ∈ mh_T := mh_T_in (List.mem_append_right _ (List.mem_of_getElem? (i := 1702) (by decide +kernel))) (by decide +kernel)
set_option maxRecDepth 100000 in
theorem wd_1703 : (Jvm.Cond.instanceMethod ({ cls := "HoleWaterModel", name := "told", desc := "(I)I" } : Jvm.MethodName)) ∈ mh_T := mh_T_in (List.mem_append_right _ (List.mem_of_getElem? (i := 1703) (by decide +kernel))) (by decide +kernel)
set_option maxRecDepth 100000 in
theorem wd_1704 : (Jvm.Cond.selects "HoleWaterModel" ({ cls := "HoleWaterModel", name := "told", desc := "(I)I" } : Jvm.MethodName) ({ cls := "HoleWaterModel", name := "told", desc := "(I)I" } : Jvm.MethodName)) ∈ mh_T := mh_T_in (List.mem_append_right _ (List.mem_of_getElem? (i := 1704) (by decide +kernel))) (by decide +kernel)
set_option maxRecDepth 100000 in
theorem wd_1705 : (Jvm.Cond.code ({ cls := "HoleWaterModel", name := "told", desc := "(I)I" } : Jvm.MethodName) prog_14_method_117_code (2 : Nat) (Option.some Jvm.ClassFile.FieldType.int)) ∈ mh_T := mh_T_in (List.mem_append_right _ (List.mem_of_getElem? (i := 1705) (by decide +kernel))) (by decide +kernel)
set_option maxRecDepth 100000 in
theorem wd_1706 : (Jvm.Cond.constantLong "HoleWaterLaw" (92 : Nat) (4294967295 : Int64)) ∈ mh_T := mh_T_in (List.mem_append_right _ (List.mem_of_getElem? (i := 1706) (by decide +kernel))) (by decide +kernel)
set_option maxRecDepth 100000 in
theorem wd_1707 : (Jvm.Cond.sameMethod "HoleWater$Open" "HoleWater$Open" "runs" "(ILHoleWater$Row;)I") ∈ mh_T := mh_T_in (List.mem_append_right _ (List.mem_of_getElem? (i := 1707) (by decide +kernel))) (by decide +kernel)
set_option maxRecDepth 100000 in
theorem wd_1708 : (Jvm.Cond.selects "HoleWater$Open" ({ cls := "HoleWater$Open", name := "runs", desc := "(ILHoleWater$Row;)I" } : Jvm.MethodName) ({ cls := "HoleWater$Open", name := "runs", desc := "(ILHoleWater$Row;)I" } : Jvm.MethodName)) ∈ mh_T := mh_T_in (List.mem_append_right _ (List.mem_of_getElem? (i := 1708) (by decide +kernel))) (by decide +kernel)
set_option maxRecDepth 100000 in
theorem wd_1709 : (Jvm.Cond.selects "HoleWater$Overflow" ({ cls := "HoleWater$Open", name := "runs", desc := "(ILHoleWater$Row;)I" } : Jvm.MethodName) ({ cls := "HoleWater$Overflow", name := "runs", desc := "(ILHoleWater$Row;)I" } : Jvm.MethodName)) ∈ mh_T := mh_T_in (List.mem_append_right _ (List.mem_of_getElem? (i := 1709) (by decide +kernel))) (by decide +kernel)
set_option maxRecDepth 100000 in
theorem wd_1711 : (Jvm.Cond.selects "HoleWater$Blind" ({ cls := "HoleWater$Way", name := "isParted", desc := "()Z" } : Jvm.MethodName) ({ cls := "HoleWater$Way", name := "isParted", desc := "()Z" } : Jvm.MethodName)) ∈ mh_T := mh_T_in (List.mem_append_right _ (List.mem_of_getElem? (i := 1711) (by decide +kernel))) (by decide +kernel)
set_option maxRecDepth 100000 in
theorem wd_1712 : (Jvm.Cond.selects "HoleWater$Open" ({ cls := "HoleWater$Way", name := "isParted", desc := "()Z" } : Jvm.MethodName) ({ cls := "HoleWater$Way", name := "isParted", desc := "()Z" } : Jvm.MethodName)) ∈ mh_T := mh_T_in (List.mem_append_right _ (List.mem_of_getElem? (i := 1712) (by decide +kernel))) (by decide +kernel)
set_option maxRecDepth 100000 in
theorem wd_1713 : (Jvm.Cond.selects "HoleWater$Overflow" ({ cls := "HoleWater$Way", name := "isParted", desc := "()Z" } : Jvm.MethodName) ({ cls := "HoleWater$Way", name := "isParted", desc := "()Z" } : Jvm.MethodName)) ∈ mh_T := mh_T_in (List.mem_append_right _ (List.mem_of_getElem? (i := 1713) (by decide +kernel))) (by decide +kernel)
set_option maxRecDepth 100000 in
theorem wd_1714 : (Jvm.Cond.selects "HoleWater$Pool" ({ cls := "HoleWater$Way", name := "isParted", desc := "()Z" } : Jvm.MethodName) ({ cls := "HoleWater$Way", name := "isParted", desc := "()Z" } : Jvm.MethodName)) ∈ mh_T := mh_T_in (List.mem_append_right _ (List.mem_of_getElem? (i := 1714) (by decide +kernel))) (by decide +kernel)
set_option maxRecDepth 100000 in
theorem wd_1715 : (Jvm.Cond.selects "HoleWater$Sieve" ({ cls := "HoleWater$Way", name := "isParted", desc := "()Z" } : Jvm.MethodName) ({ cls := "HoleWater$Way", name := "isParted", desc := "()Z" } : Jvm.MethodName)) ∈ mh_T := mh_T_in (List.mem_append_right _ (List.mem_of_getElem? (i := 1715) (by decide +kernel))) (by decide +kernel)
set_option maxRecDepth 100000 in
theorem wd_1716 : (Jvm.Cond.selects "HoleWater$Way" ({ cls := "HoleWater$Way", name := "isParted", desc := "()Z" } : Jvm.MethodName) ({ cls := "HoleWater$Way", name := "isParted", desc := "()Z" } : Jvm.MethodName)) ∈ mh_T := mh_T_in (List.mem_append_right _ (List.mem_of_getElem? (i := 1716) (by decide +kernel))) (by decide +kernel)
set_option maxRecDepth 100000 in
theorem wd_1724 : (Jvm.Cond.fieldLink "java/lang/String" (15 : Nat) "java/lang/String" "coder" "B") ∈ mh_T := mh_T_in (List.mem_append_right _ (List.mem_of_getElem? (i := 1724) (by decide +kernel))) (by decide +kernel)
set_option maxRecDepth 100000 in
theorem wd_1725 : (Jvm.Cond.fieldLink "java/lang/String" (9 : Nat) "java/lang/String" "value" "[B") ∈ mh_T := mh_T_in (List.mem_append_right _ (List.mem_of_getElem? (i := 1725) (by decide +kernel))) (by decide +kernel)
set_option maxRecDepth 100000 in
theorem wn_41 : (Jvm.Cond.methodLinkNest "HoleWater$World" (39 : Nat) ({ cls := "HoleWater$Water", name := "<init>", desc := "()V" } : Jvm.MethodName) "HoleWater") ∈ mh_nest := List.mem_filter.mpr ⟨List.mem_append_right _ (List.mem_of_getElem? (i := 41) (by decide +kernel)), rfl⟩
set_option maxRecDepth 100000 in
theorem wn_100 : (Jvm.Cond.methodLinkNest "HoleWater$World" (46 : Nat) ({ cls := "HoleWater$Looks", name := "<init>", desc := "()V" } : Jvm.MethodName) "HoleWater") ∈ mh_nest := List.mem_filter.mpr ⟨List.mem_append_right _ (List.mem_of_getElem? (i := 100) (by decide +kernel)), rfl⟩
set_option maxRecDepth 100000 in
theorem wn_242 : (Jvm.Cond.methodLinkNest "HoleWater" (21 : Nat) ({ cls := "HoleWater$Water", name := "<init>", desc := "()V" } : Jvm.MethodName) "HoleWater") ∈ mh_nest := List.mem_filter.mpr ⟨List.mem_append_right _ (List.mem_of_getElem? (i := 242) (by decide +kernel)), rfl⟩
set_option maxRecDepth 100000 in
theorem wn_245 : (Jvm.Cond.methodLinkNest "HoleWater" (28 : Nat) ({ cls := "HoleWater$Reader", name := "<init>", desc := "()V" } : Jvm.MethodName) "HoleWater") ∈ mh_nest := List.mem_filter.mpr ⟨List.mem_append_right _ (List.mem_of_getElem? (i := 245) (by decide +kernel)), rfl⟩
set_option maxRecDepth 100000 in
theorem wn_526 : (Jvm.Cond.methodLinkNest "HoleWater$Pool" (13 : Nat) ({ cls := "HoleWater", name := "by", desc := "(II)I" } : Jvm.MethodName) "HoleWater") ∈ mh_nest := List.mem_filter.mpr ⟨List.mem_append_right _ (List.mem_of_getElem? (i := 526) (by decide +kernel)), rfl⟩
set_option maxRecDepth 100000 in
theorem wn_653 : (Jvm.Cond.methodLinkNest "HoleWater$Reader" (73 : Nat) ({ cls := "HoleWater", name := "by", desc := "(II)I" } : Jvm.MethodName) "HoleWater") ∈ mh_nest := List.mem_filter.mpr ⟨List.mem_append_right _ (List.mem_of_getElem? (i := 653) (by decide +kernel)), rfl⟩
set_option maxRecDepth 100000 in
theorem wn_658 : (Jvm.Cond.methodLinkNest "HoleWater$World" (131 : Nat) ({ cls := "HoleWater", name := "held", desc := "(III)I" } : Jvm.MethodName) "HoleWater") ∈ mh_nest := List.mem_filter.mpr ⟨List.mem_append_right _ (List.mem_of_getElem? (i := 658) (by decide +kernel)), rfl⟩
set_option maxRecDepth 100000 in
theorem wn_678 : (Jvm.Cond.methodLinkNest "HoleWater$Water" (150 : Nat) ({ cls := "HoleWater", name := "by", desc := "(II)I" } : Jvm.MethodName) "HoleWater") ∈ mh_nest := List.mem_filter.mpr ⟨List.mem_append_right _ (List.mem_of_getElem? (i := 678) (by decide +kernel)), rfl⟩
