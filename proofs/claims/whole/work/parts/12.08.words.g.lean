set_option maxRecDepth 100000 in
theorem wd_1562 : (Jvm.Cond.selects "HoleWaterModel" ({ cls := "HoleWaterModel", name := "lookIs", desc := "(II)I" } : Jvm.MethodName) ({ cls := "HoleWaterModel", name := "lookIs", desc := "(II)I" } : Jvm.MethodName)) ∈ mh_T := mh_T_in (List.mem_append_right _ (List.mem_of_getElem? (i := 1562) (by decide +kernel))) (by decide +kernel)
set_option maxRecDepth 100000 in
theorem wd_1563 : (Jvm.Cond.code ({ cls := "HoleWaterModel", name := "lookIs", desc := "(II)I" } : Jvm.MethodName) prog_14_method_75_code (3 : Nat) (Option.some Jvm.ClassFile.FieldType.int)) ∈ mh_T := mh_T_in (List.mem_append_right _ (List.mem_of_getElem? (i := 1563) (by decide +kernel))) (by decide +kernel)
set_option maxRecDepth 100000 in
theorem wd_1564 : (Jvm.Cond.methodLink "HoleWaterModel" (269 : Nat) ({ cls := "HoleWaterModel", name := "look", desc := "(II)I" } : Jvm.MethodName)) ∈ mh_T := mh_T_in (List.mem_append_right _ (List.mem_of_getElem? (i := 1564) (by decide +kernel))) (by decide +kernel)
set_option maxRecDepth 100000 in
theorem wd_1566 : (Jvm.Cond.instanceMethod ({ cls := "HoleWaterModel", name := "look", desc := "(II)I" } : Jvm.MethodName)) ∈ mh_T := mh_T_in (List.mem_append_right _ (List.mem_of_getElem? (i := 1566) (by decide +kernel))) (by decide +kernel)
set_option maxRecDepth 100000 in
theorem wd_1567 : (Jvm.Cond.code ({ cls := "HoleWaterModel", name := "look", desc := "(II)I" } : Jvm.MethodName) prog_14_method_74_code (3 : Nat) (Option.some Jvm.ClassFile.FieldType.int)) ∈ mh_T := mh_T_in (List.mem_append_right _ (List.mem_of_getElem? (i := 1567) (by decide +kernel))) (by decide +kernel)
set_option maxRecDepth 100000 in
theorem wd_1568 : (Jvm.Cond.methodLink "HoleWaterLaw" (126 : Nat) ({ cls := "HoleWaterModel", name := "joined", desc := "(III)I" } : Jvm.MethodName)) ∈ mh_T := mh_T_in (List.mem_append_right _ (List.mem_of_getElem? (i := 1568) (by decide +kernel))) (by decide +kernel)
set_option maxRecDepth 100000 in
theorem wd_1569 : (Jvm.Cond.instanceMethod ({ cls := "HoleWaterModel", name := "joined", desc := "(III)I" } : Jvm.MethodName)) ∈ mh_T := mh_T_in (List.mem_append_right _ (List.mem_of_getElem? (i := 1569) (by decide +kernel))) (by decide +kernel)
set_option maxRecDepth 100000 in
theorem wd_1570 : (Jvm.Cond.selects "HoleWaterModel" ({ cls := "HoleWaterModel", name := "joined", desc := "(III)I" } : Jvm.MethodName) ({ cls := "HoleWaterModel", name := "joined", desc := "(III)I" } : Jvm.MethodName)) ∈ mh_T := mh_T_in (List.mem_append_right _ (List.mem_of_getElem? (i := 1570) (by decide +kernel))) (by decide +kernel)
set_option maxRecDepth 100000 in
theorem wd_1571 : (Jvm.Cond.code ({ cls := "HoleWaterModel", name := "joined", desc := "(III)I" } : Jvm.MethodName) prog_14_method_79_code (5 : Nat) (Option.some Jvm.ClassFile.FieldType.int)) ∈ mh_T := mh_T_in (List.mem_append_right _ (List.mem_of_getElem? (i := 1571) (by decide +kernel))) (by decide +kernel)
set_option maxRecDepth 100000 in
theorem wd_1572 : (Jvm.Cond.constantLong "HoleWaterModel" (276 : Nat) (2 : Int64)) ∈ mh_T := mh_T_in (List.mem_append_right _ (List.mem_of_getElem? (i := 1572) (by decide +kernel))) (by decide +kernel)
set_option maxRecDepth 100000 in
theorem wd_1573 : (Jvm.Cond.methodLink "HoleWaterModel" (278 : Nat) ({ cls := "HoleWaterModel", name := "isWrongPair", desc := "(II)I" } : Jvm.MethodName)) ∈ mh_T := mh_T_in (List.mem_append_right _ (List.mem_of_getElem? (i := 1573) (by decide +kernel))) (by decide +kernel)
set_option maxRecDepth 100000 in
theorem wd_1575 : (Jvm.Cond.instanceMethod ({ cls := "HoleWaterModel", name := "isWrongPair", desc := "(II)I" } : Jvm.MethodName)) ∈ mh_T := mh_T_in (List.mem_append_right _ (List.mem_of_getElem? (i := 1575) (by decide +kernel))) (by decide +kernel)
set_option maxRecDepth 100000 in
theorem wd_1576 : (Jvm.Cond.code ({ cls := "HoleWaterModel", name := "isWrongPair", desc := "(II)I" } : Jvm.MethodName) prog_14_method_78_code (3 : Nat) (Option.some Jvm.ClassFile.FieldType.int)) ∈ mh_T := mh_T_in (List.mem_append_right _ (List.mem_of_getElem? (i := 1576) (by decide +kernel))) (by decide +kernel)
set_option maxRecDepth 100000 in
theorem wd_1577 : (Jvm.Cond.methodLink "HoleWaterModel" (281 : Nat) ({ cls := "HoleWaterModel", name := "said", desc := "(III)I" } : Jvm.MethodName)) ∈ mh_T := mh_T_in (List.mem_append_right _ (List.mem_of_getElem? (i := 1577) (by decide +kernel))) (by decide +kernel)
set_option maxRecDepth 100000 in
theorem wd_1579 : (Jvm.Cond.instanceMethod ({ cls := "HoleWaterModel", name := "said", desc := "(III)I" } : Jvm.MethodName)) ∈ mh_T := mh_T_in (List.mem_append_right _ (List.mem_of_getElem? (i := 1579) (by decide +kernel))) (by decide +kernel)
set_option maxRecDepth 100000 in
theorem wd_1580 : (Jvm.Cond.code ({ cls := "HoleWaterModel", name := "said", desc := "(III)I" } : Jvm.MethodName) prog_14_method_77_code (8 : Nat) (Option.some Jvm.ClassFile.FieldType.int)) ∈ mh_T := mh_T_in (List.mem_append_right _ (List.mem_of_getElem? (i := 1580) (by decide +kernel))) (by decide +kernel)
set_option maxRecDepth 100000 in
theorem wd_1581 : (Jvm.Cond.methodLink "HoleWaterModel" (272 : Nat) ({ cls := "HoleWaterModel", name := "wasPut", desc := "(IIZ)Z" } : Jvm.MethodName)) ∈ mh_T := mh_T_in (List.mem_append_right _ (List.mem_of_getElem? (i := 1581) (by decide +kernel))) (by decide +kernel)
set_option maxRecDepth 100000 in
theorem wd_1583 : (Jvm.Cond.instanceMethod ({ cls := "HoleWaterModel", name := "wasPut", desc := "(IIZ)Z" } : Jvm.MethodName)) ∈ mh_T := mh_T_in (List.mem_append_right _ (List.mem_of_getElem? (i := 1583) (by decide +kernel))) (by decide +kernel)
set_option maxRecDepth 100000 in
theorem wd_1584 : (Jvm.Cond.code ({ cls := "HoleWaterModel", name := "wasPut", desc := "(IIZ)Z" } : Jvm.MethodName) prog_14_method_76_code (7 : Nat) (Option.some Jvm.ClassFile.FieldType.boolean)) ∈ mh_T := mh_T_in (List.mem_append_right _ (List.mem_of_getElem? (i := 1584) (by decide +kernel))) (by decide +kernel)
set_option maxRecDepth 100000 in
theorem wd_1585 : (Jvm.Cond.methodLink "HoleWaterLaw" (130 : Nat) ({ cls := "HoleWaterModel", name := "never", desc := "(II)I" } : Jvm.MethodName)) ∈ mh_T := mh_T_in (List.mem_append_right _ (List.mem_of_getElem? (i := 1585) (by decide +kernel))) (by decide +kernel)
set_option maxRecDepth 100000 in
theorem wd_1586 : (Jvm.Cond.instanceMethod ({ cls := "HoleWaterModel", name := "never", desc := "(II)I" } : Jvm.MethodName)) ∈ mh_T := mh_T_in (List.mem_append_right _ (List.mem_of_getElem? (i := 1586) (by decide +kernel))) (by decide +kernel)
set_option maxRecDepth 100000 in
theorem wd_1587 : (Jvm.Cond.selects "HoleWaterModel" ({ cls := "HoleWaterModel", name := "never", desc := "(II)I" } : Jvm.MethodName) ({ cls := "HoleWaterModel", name := "never", desc := "(II)I" } : Jvm.MethodName)) ∈ mh_T := mh_T_in (List.mem_append_right _ (List.mem_of_getElem? (i := 1587) (by decide +kernel))) (by decide +kernel)
set_option maxRecDepth 100000 in
theorem wd_1588 : (Jvm.Cond.code ({ cls := "HoleWaterModel", name := "never", desc := "(II)I" } : Jvm.MethodName) prog_14_method_80_code (6 : Nat) (Option.some Jvm.ClassFile.FieldType.int)) ∈ mh_T := mh_T_in (List.mem_append_right _ (List.mem_of_getElem? (i := 1588) (by decide +kernel))) (by decide +kernel)
set_option maxRecDepth 100000 in
theorem wd_1589 : (Jvm.Cond.methodLink "HoleWaterLaw" (134 : Nat) ({ cls := "HoleWaterModel", name := "span", desc := "(IIII)I" } : Jvm.MethodName)) ∈ mh_T := mh_T_in (List.mem_append_right _ (List.mem_of_getElem? (i := 1589) (by decide +kernel))) (by decide +kernel)
set_option maxRecDepth 100000 in
theorem wd_1590 : (Jvm.Cond.instanceMethod ({ cls := "HoleWaterModel", name := "span", desc := "(IIII)I" } : Jvm.MethodName)) ∈ mh_T := mh_T_in (List.mem_append_right _ (List.mem_of_getElem? (i := 1590) (by decide +kernel))) (by decide +kernel)
set_option maxRecDepth 100000 in
theorem wd_1591 : (Jvm.Cond.selects "HoleWaterModel" ({ cls := "HoleWaterModel", name := "span", desc := "(IIII)I" } : Jvm.MethodName) ({ cls := "HoleWaterModel", name := "span", desc := "(IIII)I" } : Jvm.MethodName)) ∈ mh_T := mh_T_in (List.mem_append_right _ (List.mem_of_getElem? (i := 1591) (by decide +kernel))) (by decide +kernel)
set_option maxRecDepth 100000 in
theorem wd_1592 : (Jvm.Cond.code ({ cls := "HoleWaterModel", name := "span", desc := "(IIII)I" } : Jvm.MethodName) prog_14_method_81_code (11 : Nat) (Option.some Jvm.ClassFile.FieldType.int)) ∈ mh_T := mh_T_in (List.mem_append_right _ (List.mem_of_getElem? (i := 1592) (by decide +kernel))) (by decide +kernel)
set_option maxRecDepth 100000 in
theorem wd_1593 : (Jvm.Cond.methodLink "HoleWaterLaw" (138 : Nat) ({ cls := "HoleWaterModel", name := "musts", desc := "(II)I" } : Jvm.MethodName)) ∈ mh_T := mh_T_in (List.mem_append_right _ (List.mem_of_getElem? (i := 1593) (by decide +kernel))) (by decide +kernel)
set_option maxRecDepth 100000 in
theorem wd_1594 : (Jvm.Cond.instanceMethod ({ cls := "HoleWaterModel", name := "musts", desc := "(II)I" } : Jvm.MethodName)) ∈ mh_T := mh_T_in (List.mem_append_right _ (List.mem_of_getElem? (i := 1594) (by decide +kernel))) (by decide +kernel)
set_option maxRecDepth 100000 in
theorem wd_1595 : (Jvm.Cond.selects "HoleWaterModel" ({ cls := "HoleWaterModel", name := "musts", desc := "(II)I" } : Jvm.MethodName) ({ cls := "HoleWaterModel", name := "musts", desc := "(II)I" } : Jvm.MethodName)) ∈ mh_T := mh_T_in (List.mem_append_right _ (List.mem_of_getElem? (i := 1595) (by decide +kernel))) (by decide +kernel)
set_option maxRecDepth 100000 in
theorem wd_1596 : (Jvm.Cond.code ({ cls := "HoleWaterModel", name := "musts", desc := "(II)I" } : Jvm.MethodName) prog_14_method_82_code (6 : Nat) (Option.some Jvm.ClassFile.FieldType.int)) ∈ mh_T := mh_T_in (List.mem_append_right _ (List.mem_of_getElem? (i := 1596) (by decide +kernel))) (by decide +kernel)
set_option maxRecDepth 100000 in
theorem wd_1597 : (Jvm.Cond.methodLink "HoleWaterLaw" (142 : Nat) ({ cls := "HoleWaterModel", name := "crosses", desc := "(IIII)I" } : Jvm.MethodName)) ∈ mh_T := mh_T_in (List.mem_append_right _ (List.mem_of_getElem? (i := 1597) (by decide +kernel))) (by decide +kernel)
set_option maxRecDepth 100000 in
theorem wd_1598 : (Jvm.Cond.instanceMethod ({ cls := "HoleWaterModel", name := "crosses", desc := "(IIII)I" } : Jvm.MethodName)) ∈ mh_T := mh_T_in (List.mem_append_right _ (List.mem_of_getElem? (i := 1598) (by decide +kernel))) (by decide +kernel)
set_option maxRecDepth 100000 in
theorem wd_1599 : (Jvm.Cond.selects "HoleWaterModel" ({ cls := "HoleWaterModel", name := "crosses", desc := "(IIII)I" } : Jvm.MethodName) ({ cls := "HoleWaterModel", name := "crosses", desc := "(IIII)I" } : Jvm.MethodName)) ∈ mh_T := mh_T_in (List.mem_append_right _ (List.mem_of_getElem? (i := 1599) (by decide +kernel))) (by decide +kernel)
set_option maxRecDepth 100000 in
theorem wd_1600 : (Jvm.Cond.code ({ cls := "HoleWaterModel", name := "crosses", desc := "(IIII)I" } : Jvm.MethodName) prog_14_method_84_code (6 : Nat) (Option.some Jvm.ClassFile.FieldType.int)) ∈ mh_T := mh_T_in (List.mem_append_right _ (List.mem_of_getElem? (i := 1600) (by decide +kernel))) (by decide +kernel)
set_option maxRecDepth 100000 in
theorem wd_1601 : (Jvm.Cond.methodLink "HoleWaterModel" (284 : Nat) ({ cls := "HoleWaterModel", name := "side", desc := "(III)I" } : Jvm.MethodName)) ∈ mh_T := mh_T_in (List.mem_append_right _ (List.mem_of_getElem? (i := 1601) (by decide +kernel))) (by decide +kernel)
set_option maxRecDepth 100000 in
theorem wd_1603 : (Jvm.Cond.instanceMethod ({ cls := "HoleWaterModel", name := "side", desc := "(III)I" } : Jvm.MethodName)) ∈ mh_T := mh_T_in (List.mem_append_right _ (List.mem_of_getElem? (i := 1603) (by decide +kernel))) (by decide +kernel)
set_option maxRecDepth 100000 in
theorem wd_1604 : (Jvm.Cond.code ({ cls := "HoleWaterModel", name := "side", desc := "(III)I" } : Jvm.MethodName) prog_14_method_83_code (7 : Nat) (Option.some Jvm.ClassFile.FieldType.int)) ∈ mh_T := mh_T_in (List.mem_append_right _ (List.mem_of_getElem? (i := 1604) (by decide +kernel))) (by decide +kernel)
set_option maxRecDepth 100000 in
theorem wd_1605 : (Jvm.Cond.methodLink "HoleWaterLaw" (146 : Nat) ({ cls := "HoleWaterModel", name := "rooms", desc := "(II)I" } : Jvm.MethodName)) ∈ mh_T := mh_T_in (List.mem_append_right _ (List.mem_of_getElem? (i := 1605) (by decide +kernel))) (by decide +kernel)
set_option maxRecDepth 100000 in
theorem wd_1606 : (Jvm.Cond.instanceMethod ({ cls := "HoleWaterModel", name := "rooms", desc := "(II)I" } : Jvm.MethodName)) ∈ mh_T := mh_T_in (List.mem_append_right _ (List.mem_of_getElem? (i := 1606) (by decide +kernel))) (by decide +kernel)
set_option maxRecDepth 100000 in
theorem wd_1607 : (Jvm.Cond.selects "HoleWaterModel" ({ cls := "HoleWaterModel", name := "rooms", desc := "(II)I" } : Jvm.MethodName) ({ cls := "HoleWaterModel", name := "rooms", desc := "(II)I" } : Jvm.MethodName)) ∈ mh_T := mh_T_in (List.mem_append_right _ (List.mem_of_getElem? (i := 1607) (by decide +kernel))) (by decide +kernel)
set_option maxRecDepth 100000 in
theorem wd_1608 : (Jvm.Cond.code ({ cls := "HoleWaterModel", name := "rooms", desc := "(II)I" } : Jvm.MethodName) prog_14_method_89_code (12 : Nat) (Option.some Jvm.ClassFile.FieldType.int)) ∈ mh_T := mh_T_in (List.mem_append_right _ (List.mem_of_getElem? (i := 1608) (by decide +kernel))) (by decide +kernel)
set_option maxRecDepth 100000 in
theorem wd_1609 : (Jvm.Cond.methodLink "HoleWaterModel" (291 : Nat) ({ cls := "HoleWaterModel", name := "isWrongSet", desc := "(II)I" } : Jvm.MethodName)) ∈ mh_T := mh_T_in (List.mem_append_right _ (List.mem_of_getElem? (i := 1609) (by decide +kernel))) (by decide +kernel)
set_option maxRecDepth 100000 in
theorem wd_1611 : (Jvm.Cond.instanceMethod ({ cls := "HoleWaterModel", name := "isWrongSet", desc := "(II)I" } : Jvm.MethodName)) ∈ mh_T := mh_T_in (List.mem_append_right _ (List.mem_of_getElem? (i := 1611) (by decide +kernel))) (by decide +kernel)
set_option maxRecDepth 100000 in
theorem wd_1612 : (Jvm.Cond.code ({ cls := "HoleWaterModel", name := "isWrongSet", desc := "(II)I" } : Jvm.MethodName) prog_14_method_86_code (5 : Nat) (Option.some Jvm.ClassFile.FieldType.int)) ∈ mh_T := mh_T_in (List.mem_append_right _ (List.mem_of_getElem? (i := 1612) (by decide +kernel))) (by decide +kernel)
set_option maxRecDepth 100000 in
theorem wd_1613 : (Jvm.Cond.methodLink "HoleWaterModel" (294 : Nat) ({ cls := "HoleWaterModel", name := "ones", desc := "(I)I" } : Jvm.MethodName)) ∈ mh_T := mh_T_in (List.mem_append_right _ (List.mem_of_getElem? (i := 1613) (by decide +kernel))) (by decide +kernel)
set_option maxRecDepth 100000 in
theorem wd_1614 : (Jvm.Cond.static ({ cls := "HoleWaterModel", name := "ones", desc := "(I)I" } : Jvm.MethodName)) ∈ mh_T := mh_T_in (List.mem_append_right _ (List.mem_of_getElem? (i := 1614) (by decide +kernel))) (by decide +kernel)
set_option maxRecDepth 100000 in
theorem wd_1615 : (Jvm.Cond.code ({ cls := "HoleWaterModel", name := "ones", desc := "(I)I" } : Jvm.MethodName) prog_14_method_85_code (3 : Nat) (Option.some Jvm.ClassFile.FieldType.int)) ∈ mh_T := mh_T_in (List.mem_append_right _ (List.mem_of_getElem? (i := 1615) (by decide +kernel))) (by decide +kernel)
set_option maxRecDepth 100000 in
theorem wd_1616 : (Jvm.Cond.methodLink "HoleWaterModel" (297 : Nat) ({ cls := "HoleWaterModel", name := "lists", desc := "(I[I)I" } : Jvm.MethodName)) ∈ mh_T := mh_T_in (List.mem_append_right _ (List.mem_of_getElem? (i := 1616) (by decide +kernel))) (by decide +kernel)
set_option maxRecDepth 100000 in
theorem wd_1618 : (Jvm.Cond.instanceMethod ({ cls := "HoleWaterModel", name := "lists", desc := "(I[I)I" } : Jvm.MethodName)) ∈ mh_T := mh_T_in (List.mem_append_right _ (List.mem_of_getElem? (i := 1618) (by decide +kernel))) (by decide +kernel)
set_option maxRecDepth 100000 in
theorem wd_1619 : (Jvm.Cond.code ({ cls := "HoleWaterModel", name := "lists", desc := "(I[I)I" } : Jvm.MethodName) prog_14_method_87_code (5 : Nat) (Option.some Jvm.ClassFile.FieldType.int)) ∈ mh_T := mh_T_in (List.mem_append_right _ (List.mem_of_getElem? (i := 1619) (by decide +kernel))) (by decide +kernel)
set_option maxRecDepth 100000 in
theorem wd_1620 : (Jvm.Cond.methodLink "HoleWaterModel" (287 : Nat) ({ cls := "HoleWaterModel", name := "canHold", desc := "(III)Z" } : Jvm.MethodName)) ∈ mh_T := mh_T_in (List.mem_append_right _ (List.mem_of_getElem? (i := 1620) (by decide +kernel))) (by decide +kernel)
set_option maxRecDepth 100000 in
theorem wd_1622 : (Jvm.Cond.instanceMethod ({ cls := "HoleWaterModel", name := "canHold", desc := "(III)Z" } : Jvm.MethodName)) ∈ mh_T := mh_T_in (List.mem_append_right _ (List.mem_of_getElem? (i := 1622) (by decide +kernel))) (by decide +kernel)
set_option maxRecDepth 100000 in
theorem wd_1623 : (Jvm.Cond.code ({ cls := "HoleWaterModel", name := "canHold", desc := "(III)Z" } : Jvm.MethodName) prog_14_method_88_code (7 : Nat) (Option.some Jvm.ClassFile.FieldType.boolean)) ∈ mh_T := mh_T_in (List.mem_append_right _ (List.mem_of_getElem? (i := 1623) (by decide +kernel))) (by decide +kernel)
set_option maxRecDepth 100000 in
theorem wd_1624 : (Jvm.Cond.methodLink "HoleWaterLaw" (150 : Nat) ({ cls := "HoleWaterModel", name := "town", desc := "(IZ)I" } : Jvm.MethodName)) ∈ mh_T := mh_T_in (List.mem_append_right _ (List.mem_of_getElem? (i := 1624) (by decide +kernel))) (by decide +kernel)
set_option maxRecDepth 100000 in
theorem wd_1625 : (Jvm.Cond.instanceMethod ({ cls := "HoleWaterModel", name := "town", desc := "(IZ)I" } : Jvm.MethodName)) ∈ mh_T := mh_T_in (List.mem_append_right _ (List.mem_of_getElem? (i := 1625) (by decide +kernel))) (by decide +kernel)
set_option maxRecDepth 100000 in
theorem wd_1626 : (Jvm.Cond.selects "HoleWaterModel" ({ cls := "HoleWaterModel", name := "town", desc := "(IZ)I" } : Jvm.MethodName) ({ cls := "HoleWaterModel", name := "town", desc := "(IZ)I" } : Jvm.MethodName)) ∈ mh_T := mh_T_in (List.mem_append_right _ (List.mem_of_getElem? (i := 1626) (by decide +kernel))) (by decide +kernel)
set_option maxRecDepth 100000 in
theorem wd_1627 : (Jvm.Cond.code ({ cls := "HoleWaterModel", name := "town", desc := "(IZ)I" } : Jvm.MethodName) prog_14_method_90_code (4 : Nat) (Option.some Jvm.ClassFile.FieldType.int)) ∈ mh_T := mh_T_in (List.mem_append_right _ (List.mem_of_getElem? (i := 1627) (by decide +kernel))) (by decide +kernel)
set_option maxRecDepth 100000 in
theorem wd_1628 : (Jvm.Cond.methodLink "HoleWaterLaw" (154 : Nat) ({ cls := "HoleWaterModel", name := "night", desc := "(III)I" } : Jvm.MethodName)) ∈ mh_T := mh_T_in (List.mem_append_right _ (List.mem_of_getElem? (i := 1628) (by decide +kernel))) (by decide +kernel)
set_option maxRecDepth 100000 in
theorem wd_1629 : (Jvm.Cond.instanceMethod ({ cls := "HoleWaterModel", name := "night", desc := "(III)I" } : Jvm.MethodName)) ∈ mh_T := mh_T_in (List.mem_append_right _ (List.mem_of_getElem? (i := 1629) (by decide +kernel))) (by decide +kernel)
set_option maxRecDepth 100000 in
theorem wd_1630 : (Jvm.Cond.selects "HoleWaterModel" ({ cls := "HoleWaterModel", name := "night", desc := "(III)I" } : Jvm.MethodName) ({ cls := "HoleWaterModel", name := "night", desc := "(III)I" } : Jvm.MethodName)) ∈ mh_T := mh_T_in (List.mem_append_right _ (List.mem_of_getElem? (i := 1630) (by decide +kernel))) (by decide +kernel)
set_option maxRecDepth 100000 in
theorem wd_1631 : (Jvm.Cond.code ({ cls := "HoleWaterModel", name := "night", desc := "(III)I" } : Jvm.MethodName) prog_14_method_92_code (13 : Nat) (Option.some Jvm.ClassFile.FieldType.int)) ∈ mh_T := mh_T_in (List.mem_append_right _ (List.mem_of_getElem? (i := 1631) (by decide +kernel))) (by decide +kernel)
set_option maxRecDepth 100000 in
theorem wd_1632 : (Jvm.Cond.constantLong "HoleWaterModel" (301 : Nat) (4 : Int64)) ∈ mh_T := mh_T_in (List.mem_append_right _ (List.mem_of_getElem? (i := 1632) (by decide +kernel))) (by decide +kernel)
set_option maxRecDepth 100000 in
theorem wd_1633 : (Jvm.Cond.methodLink "HoleWaterModel" (303 : Nat) ({ cls := "HoleWaterModel", name := "mayBe", desc := "(I)Z" } : Jvm.MethodName)) ∈ mh_T := mh_T_in (List.mem_append_right _ (List.mem_of_getElem? (i := 1633) (by decide +kernel))) (by decide +kernel)
set_option maxRecDepth 100000 in
theorem wd_1635 : (Jvm.Cond.instanceMethod ({ cls := "HoleWaterModel", name := "mayBe", desc := "(I)Z" } : Jvm.MethodName)) ∈ mh_T := mh_T_in (List.mem_append_right _ (List.mem_of_getElem? (i := 1635) (by decide +kernel))) (by decide +kernel)
set_option maxRecDepth 100000 in
theorem wd_1636 : (Jvm.Cond.code ({ cls := "HoleWaterModel", name := "mayBe", desc := "(I)Z" } : Jvm.MethodName) prog_14_method_91_code (4 : Nat) (Option.some Jvm.ClassFile.FieldType.boolean)) ∈ mh_T := mh_T_in (List.mem_append_right _ (List.mem_of_getElem? (i := 1636) (by decide +kernel))) (by decide +kernel)
set_option maxRecDepth 100000 in
theorem wd_1637 : (Jvm.Cond.methodLink "HoleWaterLaw" (158 : Nat) ({ cls := "HoleWaterModel", name := "share", desc := "(I)I" } : Jvm.MethodName)) ∈ mh_T := mh_T_in (List.mem_append_right _ (List.mem_of_getElem? (i := 1637) (by decide +kernel))) (by decide +kernel)
set_option maxRecDepth 100000 in
theorem wd_1638 : (Jvm.Cond.instanceMethod ({ cls := "HoleWaterModel", name := "share", desc := "(I)I" } : Jvm.MethodName)) ∈ mh_T := mh_T_in (List.mem_append_right _ (List.mem_of_getElem? (i := 1638) (by decide +kernel))) (by decide +kernel)
set_option maxRecDepth 100000 in
theorem wd_1639 : (Jvm.Cond.selects "HoleWaterModel" ({ cls := "HoleWaterModel", name := "share", desc := "(I)I" } : Jvm.MethodName) ({ cls := "HoleWaterModel", name := "share", desc := "(I)I" } : Jvm.MethodName)) ∈ mh_T := mh_T_in (List.mem_append_right _ (List.mem_of_getElem? (i := 1639) (by decide +kernel))) (by decide +kernel)
set_option maxRecDepth 100000 in
theorem wd_1640 : (Jvm.Cond.code ({ cls := "HoleWaterModel", name := "share", desc := "(I)I" } : Jvm.MethodName) prog_14_method_93_code (7 : Nat) (Option.some Jvm.ClassFile.FieldType.int)) ∈ mh_T := mh_T_in (List.mem_append_right _ (List.mem_of_getElem? (i := 1640) (by decide +kernel))) (by decide +kernel)
set_option maxRecDepth 100000 in
theorem wd_1641 : (Jvm.Cond.methodLink "HoleWaterLaw" (162 : Nat) ({ cls := "HoleWaterModel", name := "voice", desc := "(III)I" } : Jvm.MethodName)) ∈ mh_T := mh_T_in (List.mem_append_right _ (List.mem_of_getElem? (i := 1641) (by decide +kernel))) (by decide +kernel)
set_option maxRecDepth 100000 in
theorem wd_1642 : (Jvm.Cond.instanceMethod ({ cls := "HoleWaterModel", name := "voice", desc := "(III)I" } : Jvm.MethodName)) ∈ mh_T := mh_T_in (List.mem_append_right _ (List.mem_of_getElem? (i := 1642) (by decide +kernel))) (by decide +kernel)
set_option maxRecDepth 100000 in
theorem wd_1643 : (Jvm.Cond.selects "HoleWaterModel" ({ cls := "HoleWaterModel", name := "voice", desc := "(III)I" } : Jvm.MethodName) ({ cls := "HoleWaterModel", name := "voice", desc := "(III)I" } : Jvm.MethodName)) ∈ mh_T := mh_T_in (List.mem_append_right _ (List.mem_of_getElem? (i := 1643) (by decide +kernel))) (by decide +kernel)
set_option maxRecDepth 100000 in
theorem wd_1644 : (Jvm.Cond.code ({ cls := "HoleWaterModel", name := "voice", desc := "(III)I" } : Jvm.MethodName) prog_14_method_104_code (5 : Nat) (Option.some Jvm.ClassFile.FieldType.int)) ∈ mh_T := mh_T_in (List.mem_append_right _ (List.mem_of_getElem? (i := 1644) (by decide +kernel))) (by decide +kernel)
set_option maxRecDepth 100000 in
theorem wd_1645 : (Jvm.Cond.methodLink "HoleWaterModel" (327 : Nat) ({ cls := "HoleWaterModel", name := "runs", desc := "(I)I" } : Jvm.MethodName)) ∈ mh_T := mh_T_in (List.mem_append_right _ (List.mem_of_getElem? (i := 1645) (by decide +kernel))) (by decide +kernel)
set_option maxRecDepth 100000 in
theorem wd_1647 : (Jvm.Cond.instanceMethod ({ cls := "HoleWaterModel", name := "runs", desc := "(I)I" } : Jvm.MethodName)) ∈ mh_T := mh_T_in (List.mem_append_right _ (List.mem_of_getElem? (i := 1647) (by decide +kernel))) (by decide +kernel)
set_option maxRecDepth 100000 in
theorem wd_1648 : (Jvm.Cond.code ({ cls := "HoleWaterModel", name := "runs", desc := "(I)I" } : Jvm.MethodName) prog_14_method_97_code (2 : Nat) (Option.some Jvm.ClassFile.FieldType.int)) ∈ mh_T := mh_T_in (List.mem_append_right _ (List.mem_of_getElem? (i := 1648) (by decide +kernel))) (by decide +kernel)
set_option maxRecDepth 100000 in
theorem wd_1649 : (Jvm.Cond.methodLink "HoleWaterModel" (309 : Nat) ({ cls := "HoleWaterModel", name := "begins", desc := "(I)V" } : Jvm.MethodName)) ∈ mh_T := mh_T_in (List.mem_append_right _ (List.mem_of_getElem? (i := 1649) (by decide +kernel))) (by decide +kernel)
set_option maxRecDepth 100000 in
theorem wd_1651 : (Jvm.Cond.instanceMethod ({ cls := "HoleWaterModel", name := "begins", desc := "(I)V" } : Jvm.MethodName)) ∈ mh_T := mh_T_in (List.mem_append_right _ (List.mem_of_getElem? (i := 1651) (by decide +kernel))) (by decide +kernel)
set_option maxRecDepth 100000 in
theorem wd_1652 : (Jvm.Cond.code ({ cls := "HoleWaterModel", name := "begins", desc := "(I)V" } : Jvm.MethodName) prog_14_method_94_code (2 : Nat) (Option.none : Option Jvm.ClassFile.FieldType)) ∈ mh_T := mh_T_in (List.mem_append_right _ (List.mem_of_getElem? (i := 1652) (by decide +kernel))) (by decide +kernel)
set_option maxRecDepth 100000 in
theorem wd_1653 : (Jvm.Cond.methodLink "HoleWaterModel" (324 : Nat) ({ cls := "HoleWaterModel", name := "openRuns", desc := "(I)I" } : Jvm.MethodName)) ∈ mh_T := mh_T_in (List.mem_append_right _ (List.mem_of_getElem? (i := 1653) (by decide +kernel))) (by decide +kernel)
set_option maxRecDepth 100000 in
theorem wd_1655 : (Jvm.Cond.instanceMethod ({ cls := "HoleWaterModel", name := "openRuns", desc := "(I)I" } : Jvm.MethodName)) ∈ mh_T := mh_T_in (List.mem_append_right _ (List.mem_of_getElem? (i := 1655) (by decide +kernel))) (by decide +kernel)
set_option maxRecDepth 100000 in
theorem wd_1656 : (Jvm.Cond.code ({ cls := "HoleWaterModel", name := "openRuns", desc := "(I)I" } : Jvm.MethodName) prog_14_method_96_code (2 : Nat) (Option.some Jvm.ClassFile.FieldType.int)) ∈ mh_T := mh_T_in (List.mem_append_right _ (List.mem_of_getElem? (i := 1656) (by decide +kernel))) (by decide +kernel)
set_option maxRecDepth 100000 in
theorem wd_1657 : (Jvm.Cond.methodLink "HoleWaterModel" (315 : Nat) ({ cls := "HoleWaterModel", name := "plainRuns", desc := "(I)I" } : Jvm.MethodName)) ∈ mh_T := mh_T_in (List.mem_append_right _ (List.mem_of_getElem? (i := 1657) (by decide +kernel))) (by decide +kernel)
set_option maxRecDepth 100000 in
theorem wd_1659 : (Jvm.Cond.instanceMethod ({ cls := "HoleWaterModel", name := "plainRuns", desc := "(I)I" } : Jvm.MethodName)) ∈ mh_T := mh_T_in (List.mem_append_right _ (List.mem_of_getElem? (i := 1659) (by decide +kernel))) (by decide +kernel)
set_option maxRecDepth 100000 in
theorem wd_1660 : (Jvm.Cond.code ({ cls := "HoleWaterModel", name := "plainRuns", desc := "(I)I" } : Jvm.MethodName) prog_14_method_95_code (2 : Nat) (Option.some Jvm.ClassFile.FieldType.int)) ∈ mh_T := mh_T_in (List.mem_append_right _ (List.mem_of_getElem? (i := 1660) (by decide +kernel))) (by decide +kernel)
set_option maxRecDepth 100000 in
theorem wd_1661 : (Jvm.Cond.methodLink "HoleWaterModel" (333 : Nat) ({ cls := "HoleWaterModel", name := "holds", desc := "(I)I" } : Jvm.MethodName)) ∈ mh_T := mh_T_in (List.mem_append_right _ (List.mem_of_getElem? (i := 1661) (by decide +kernel))) (by decide +kernel)
set_option maxRecDepth 100000 in
theorem wd_1663 : (Jvm.Cond.instanceMethod ({ cls := "HoleWaterModel", name := "holds", desc := "(I)I" } : Jvm.MethodName)) ∈ mh_T := mh_T_in (List.mem_append_right _ (List.mem_of_getElem? (i := 1663) (by decide +kernel))) (by decide +kernel)
set_option maxRecDepth 100000 in
theorem wd_1664 : (Jvm.Cond.code ({ cls := "HoleWaterModel", name := "holds", desc := "(I)I" } : Jvm.MethodName) prog_14_method_99_code (2 : Nat) (Option.some Jvm.ClassFile.FieldType.int)) ∈ mh_T := mh_T_in (List.mem_append_right _ (List.mem_of_getElem? (i := 1664) (by decide +kernel))) (by decide +kernel)
set_option maxRecDepth 100000 in
theorem wd_1665 : (Jvm.Cond.methodLink "HoleWaterModel" (330 : Nat) ({ cls := "HoleWaterModel", name := "plainHolds", desc := "(I)I" } : Jvm.MethodName)) ∈ mh_T := mh_T_in (List.mem_append_right _ (List.mem_of_getElem? (i := 1665) (by decide +kernel))) (by decide +kernel)
set_option maxRecDepth 100000 in
theorem wd_1667 : (Jvm.Cond.instanceMethod ({ cls := "HoleWaterModel", name := "plainHolds", desc := "(I)I" } : Jvm.MethodName)) ∈ mh_T := mh_T_in (List.mem_append_right _ (List.mem_of_getElem? (i := 1667) (by decide +kernel))) (by decide +kernel)
set_option maxRecDepth 100000 in
theorem wd_1668 : (Jvm.Cond.code ({ cls := "HoleWaterModel", name := "plainHolds", desc := "(I)I" } : Jvm.MethodName) prog_14_method_98_code (2 : Nat) (Option.some Jvm.ClassFile.FieldType.int)) ∈ mh_T := mh_T_in (List.mem_append_right _ (List.mem_of_getElem? (i := 1668) (by decide +kernel))) (by decide +kernel)
set_option maxRecDepth 100000 in
theorem wd_1669 : (Jvm.Cond.methodLink "HoleWaterModel" (344 : Nat) ({ cls := "HoleWaterModel", name := "spills", desc := "(I)I" } : Jvm.MethodName)) ∈ mh_T := mh_T_in (List.mem_append_right _ (List.mem_of_getElem? (i := 1669) (by decide +kernel))) (by decide +kernel)
set_option maxRecDepth 100000 in
theorem wd_1671 : (Jvm.Cond.instanceMethod ({ cls := "HoleWaterModel", name := "spills", desc := "(I)I" } : Jvm.MethodName)) ∈ mh_T := mh_T_in (List.mem_append_right _ (List.mem_of_getElem? (i := 1671) (by decide +kernel))) (by decide +kernel)
set_option maxRecDepth 100000 in
theorem wd_1672 : (Jvm.Cond.code ({ cls := "HoleWaterModel", name := "spills", desc := "(I)I" } : Jvm.MethodName) prog_14_method_101_code (2 : Nat) (Option.some Jvm.ClassFile.FieldType.int)) ∈ mh_T := mh_T_in (List.mem_append_right _ (List.mem_of_getElem? (i := 1672) (by decide +kernel))) (by decide +kernel)
set_option maxRecDepth 100000 in
theorem wd_1673 : (Jvm.Cond.methodLink "HoleWaterModel" (335 : Nat) ({ cls := "HoleWaterModel", name := "plainSpills", desc := "(I)I" } : Jvm.MethodName)) ∈ mh_T := mh_T_in (List.mem_append_right _ (List.mem_of_getElem? (i := 1673) (by decide +kernel))) (by decide +kernel)
set_option maxRecDepth 100000 in
theorem wd_1675 : (Jvm.Cond.instanceMethod ({ cls := "HoleWaterModel", name := "plainSpills", desc := "(I)I" } : Jvm.MethodName)) ∈ mh_T := mh_T_in (List.mem_append_right _ (List.mem_of_getElem? (i := 1675) (by decide +kernel))) (by decide +kernel)
set_option maxRecDepth 100000 in
theorem wd_1676 : (Jvm.Cond.code ({ cls := "HoleWaterModel", name := "plainSpills", desc := "(I)I" } : Jvm.MethodName) prog_14_method_100_code (2 : Nat) (Option.some Jvm.ClassFile.FieldType.int)) ∈ mh_T := mh_T_in (List.mem_append_right _ (List.mem_of_getElem? (i := 1676) (by decide +kernel))) (by decide +kernel)
set_option maxRecDepth 100000 in
theorem wd_1677 : (Jvm.Cond.methodLink "HoleWaterModel" (346 : Nat) ({ cls := "HoleWaterModel", name := "tells", desc := "(I)I" } : Jvm.MethodName)) ∈ mh_T := mh_T_in (List.mem_append_right _ (List.mem_of_getElem? (i := 1677) (by decide +kernel))) (by decide +kernel)
set_option maxRecDepth 100000 in
theorem wd_1679 : (Jvm.Cond.instanceMethod ({ cls := "HoleWaterModel", name := "tells", desc := "(I)I" } : Jvm.MethodName)) ∈ mh_T := mh_T_in (List.mem_append_right _ (List.mem_of_getElem? (i := 1679) (by decide +kernel))) (by decide +kernel)
set_option maxRecDepth 100000 in
theorem wd_1680 : (Jvm.Cond.code ({ cls := "HoleWaterModel", name := "tells", desc := "(I)I" } : Jvm.MethodName) prog_14_method_103_code (3 : Nat) (Option.some Jvm.ClassFile.FieldType.int)) ∈ mh_T := mh_T_in (List.mem_append_right _ (List.mem_of_getElem? (i := 1680) (by decide +kernel))) (by decide +kernel)
set_option maxRecDepth 100000 in
theorem wd_1681 : (Jvm.Cond.methodLink "HoleWaterModel" (341 : Nat) ({ cls := "HoleWaterModel", name := "plainTells", desc := "(I)I" } : Jvm.MethodName)) ∈ mh_T := mh_T_in (List.mem_append_right _ (List.mem_of_getElem? (i := 1681) (by decide +kernel))) (by decide +kernel)
set_option maxRecDepth 100000 in
theorem wd_1683 : (Jvm.Cond.instanceMethod ({ cls := "HoleWaterModel", name := "plainTells", desc := "(I)I" } : Jvm.MethodName)) ∈ mh_T := mh_T_in (List.mem_append_right _ (List.mem_of_getElem? (i := 1683) (by decide +kernel))) (by decide +kernel)
set_option maxRecDepth 100000 in
theorem wd_1684 : (Jvm.Cond.code ({ cls := "HoleWaterModel", name := "plainTells", desc := "(I)I" } : Jvm.MethodName) prog_14_method_102_code (3 : Nat) (Option.some Jvm.ClassFile.FieldType.int)) ∈ mh_T := mh_T_in (List.mem_append_right _ (List.mem_of_getElem? (i := 1684) (by decide +kernel))) (by decide +kernel)
set_option maxRecDepth 100000 in
theorem wd_1685 : (Jvm.Cond.methodLink "HoleWaterLaw" (166 : Nat) ({ cls := "HoleWaterModel", name := "trace", desc := "(I)I" } : Jvm.MethodName)) ∈ mh_T := mh_T_in (List.mem_append_right _ (List.mem_of_getElem? (i := 1685) (by decide +kernel))) (by decide +kernel)
set_option maxRecDepth 100000 in
theorem wd_1686 : (Jvm.Cond.instanceMethod ({ cls := "HoleWaterModel", name := "trace", desc := "(I)I" } : Jvm.MethodName)) ∈ mh_T := mh_T_in (List.mem_append_right _ (List.mem_of_getElem? (i := 1686) (by decide +kernel))) (by decide +kernel)
set_option maxRecDepth 100000 in
theorem wd_1687 : (Jvm.Cond.selects "HoleWaterModel" ({ cls := "HoleWaterModel", name := "trace", desc := "(I)I" } : Jvm.MethodName) ({ cls := "HoleWaterModel", name := "trace", desc := "(I)I" } : Jvm.MethodName)) ∈ mh_T := mh_T_in (List.mem_append_right _ (List.mem_of_getElem? (i := 1687) (by decide +kernel))) (by decide +kernel)
set_option maxRecDepth 100000 in
theorem wd_1688 : (Jvm.Cond.code ({ cls := "HoleWaterModel", name := "trace", desc := "(I)I" } : Jvm.MethodName) prog_14_method_105_code (2 : Nat) (Option.some Jvm.ClassFile.FieldType.int)) ∈ mh_T := mh_T_in (List.mem_append_right _ (List.mem_of_getElem? (i := 1688) (by decide +kernel))) (by decide +kernel)
set_option maxRecDepth 100000 in
theorem wd_1689 : (Jvm.Cond.methodLink "HoleWaterLaw" (170 : Nat) ({ cls := "HoleWaterModel", name := "sheet", desc := "(III)I" } : Jvm.MethodName)) ∈ mh_T := mh_T_in (List.mem_append_right _ (List.mem_of_getElem? (i := 1689) (by decide +kernel))) (by decide +kernel)
set_option maxRecDepth 100000 in
theorem wd_1690 : (Jvm.Cond.instanceMethod ({ cls := "HoleWaterModel", name := "sheet", desc := "(III)I" } : Jvm.MethodName)) ∈ mh_T := mh_T_in (List.mem_append_right _ (List.mem_of_getElem? (i := 1690) (by decide +kernel))) (by decide +kernel)
set_option maxRecDepth 100000 in
theorem wd_1691 : (Jvm.Cond.selects "HoleWaterModel" ({ cls := "HoleWaterModel", name := "sheet", desc := "(III)I" } : Jvm.MethodName) ({ cls := "HoleWaterModel", name := "sheet", desc := "(III)I" } : Jvm.MethodName)) ∈ mh_T := mh_T_in (List.mem_append_right _ (List.mem_of_getElem? (i := 1691) (by decide +kernel))) (by decide +kernel)
set_option maxRecDepth 100000 in
theorem wd_1692 : (Jvm.Cond.code ({ cls := "HoleWaterModel", name := "sheet", desc := "(III)I" } : Jvm.MethodName) prog_14_method_107_code (5 : Nat) (Option.some Jvm.ClassFile.FieldType.int)) ∈ mh_T := mh_T_in (List.mem_append_right _ (List.mem_of_getElem? (i := 1692) (by decide +kernel))) (by decide +kernel)
set_option maxRecDepth 100000 in
theorem wd_1693 : (Jvm.Cond.methodLink "HoleWaterLaw" (174 : Nat) ({ cls := "HoleWaterModel", name := "place", desc := "(III)I" } : Jvm.MethodName)) ∈ mh_T := mh_T_in (List.mem_append_right _ (List.mem_of_getElem? (i := 1693) (by decide +kernel))) (by decide +kernel)
set_option maxRecDepth 100000 in
theorem wd_1694 : (Jvm.Cond.instanceMethod ({ cls := "HoleWaterModel", name := "place", desc := "(III)I" } : Jvm.MethodName)) ∈ mh_T := mh_T_in (List.mem_append_right _ (List.mem_of_getElem? (i := 1694) (by decide +kernel))) (by decide +kernel)
set_option maxRecDepth 100000 in
theorem wd_1695 : (Jvm.Cond.selects "HoleWaterModel" ({ cls := "HoleWaterModel", name := "place", desc := "(III)I" } : Jvm.MethodName) ({ cls := "HoleWaterModel", name := "place", desc := "(III)I" } : Jvm.MethodName)) ∈ mh_T := mh_T_in (List.mem_append_right _ (List.mem_of_getElem? (i := 1695) (by decide +kernel))) (by decide +kernel)
set_option maxRecDepth 100000 in
theorem wd_1696 : (Jvm.Cond.code ({ cls := "HoleWaterModel", name := "place", desc := "(III)I" } : Jvm.MethodName) prog_14_method_108_code (4 : Nat) (Option.some Jvm.ClassFile.FieldType.int)) ∈ mh_T := mh_T_in (List.mem_append_right _ (List.mem_of_getElem? (i := 1696) (by decide +kernel))) (by decide +kernel)
set_option maxRecDepth 100000 in
theorem wd_1697 : (Jvm.Cond.methodLink "HoleWaterLaw" (178 : Nat) ({ cls := "HoleWaterModel", name := "move", desc := "(IIIII)I" } : Jvm.MethodName)) ∈ mh_T := mh_T_in (List.mem_append_right _ (List.mem_of_getElem? (i := 1697) (by decide +kernel))) (by decide +kernel)
set_option maxRecDepth 100000 in
theorem wd_1698 : (Jvm.Cond.instanceMethod ({ cls := "HoleWaterModel", name := "move", desc := "(IIIII)I" } : Jvm.MethodName)) ∈ mh_T := mh_T_in (List.mem_append_right _ (List.mem_of_getElem? (i := 1698) (by decide +kernel))) (by decide +kernel)
set_option maxRecDepth 100000 in
theorem wd_1699 : (Jvm.Cond.selects "HoleWaterModel" ({ cls := "HoleWaterModel", name := "move", desc := "(IIIII)I" } : Jvm.MethodName) ({ cls := "HoleWaterModel", name := "move", desc := "(IIIII)I" } : Jvm.MethodName)) ∈ mh_T := mh_T_in (List.mem_append_right _ (List.mem_of_getElem? (i := 1699) (by decide +kernel))) (by decide +kernel)
set_option maxRecDepth 100000 in
theorem wd_1700 : (Jvm.Cond.code ({ cls := "HoleWaterModel", name := "move", desc := "(IIIII)I" } : Jvm.MethodName) prog_14_method_109_code (9 : Nat) (Option.some Jvm.ClassFile.FieldType.int)) ∈ mh_T := mh_T_in (List.mem_append_right _ (List.mem_of_getElem? (i := 1700) (by decide +kernel))) (by decide +kernel)
set_option maxRecDepth 100000 in
theorem wd_1701 : (Jvm.Cond.methodLink "HoleWaterLaw" (183 : Nat) ({ cls := "HoleWaterModel", name := "image", desc := "()I" } : Jvm.MethodName)) ∈ mh_T := mh_T_in (List.mem_append_right _ (List.mem_of_getElem? (i := 1701) (by decide +kernel))) (by decide +kernel)
set_option maxRecDepth 100000 in
theorem wd_1702 : (Jvm.Cond.instanceMethod ({ cls := "HoleWaterModel", name := "image", desc := "()I" } : Jvm.MethodName)) ∈ mh_T := mh_T_in (List.mem_append_right _ (List.mem_of_getElem? (i := 1702) (by decide +kernel))) (by decide +kernel)
set_option maxRecDepth 100000 in
theorem wd_1703 : (Jvm.Cond.selects "HoleWaterModel" ({ cls := "HoleWaterModel", name := "image", desc := "()I" } : Jvm.MethodName) ({ cls := "HoleWaterModel", name := "image", desc := "()I" } : Jvm.MethodName)) ∈ mh_T := mh_T_in (List.mem_append_right _ (List.mem_of_getElem? (i := 1703) (by decide +kernel))) (by decide +kernel)
set_option maxRecDepth 100000 in
theorem wd_1704 : (Jvm.Cond.code ({ cls := "HoleWaterModel", name := "image", desc := "()I" } : Jvm.MethodName) prog_14_method_110_code (2 : Nat) (Option.some Jvm.ClassFile.FieldType.int)) ∈ mh_T := mh_T_in (List.mem_append_right _ (List.mem_of_getElem? (i := 1704) (by decide +kernel))) (by decide +kernel)
set_option maxRecDepth 100000 in
theorem wd_1705 : (Jvm.Cond.methodLink "HoleWaterLaw" (187 : Nat) ({ cls := "HoleWaterModel", name := "restore", desc := "()I" } : Jvm.MethodName)) ∈ mh_T := mh_T_in (List.mem_append_right _ (List.mem_of_getElem? (i := 1705) (by decide +kernel))) (by decide +kernel)
set_option maxRecDepth 100000 in
theorem wd_1706 : (Jvm.Cond.instanceMethod ({ cls := "HoleWaterModel", name := "restore", desc := "()I" } : Jvm.MethodName)) ∈ mh_T := mh_T_in (List.mem_append_right _ (List.mem_of_getElem? (i := 1706) (by decide +kernel))) (by decide +kernel)
set_option maxRecDepth 100000 in
theorem wd_1707 : (Jvm.Cond.selects "HoleWaterModel" ({ cls := "HoleWaterModel", name := "restore", desc := "()I" } : Jvm.MethodName) ({ cls := "HoleWaterModel", name := "restore", desc := "()I" } : Jvm.MethodName)) ∈ mh_T := mh_T_in (List.mem_append_right _ (List.mem_of_getElem? (i := 1707) (by decide +kernel))) (by decide +kernel)
set_option maxRecDepth 100000 in
theorem wd_1708 : (Jvm.Cond.code ({ cls := "HoleWaterModel", name := "restore", desc := "()I" } : Jvm.MethodName) prog_14_method_111_code (2 : Nat) (Option.some Jvm.ClassFile.FieldType.int)) ∈ mh_T := mh_T_in (List.mem_append_right _ (List.mem_of_getElem? (i := 1708) (by decide +kernel))) (by decide +kernel)
set_option maxRecDepth 100000 in
theorem wd_1709 : (Jvm.Cond.methodLink "HoleWaterLaw" (191 : Nat) ({ cls := "HoleWaterModel", name := "tell", desc := "(I)I" } : Jvm.MethodName)) ∈ mh_T := mh_T_in (List.mem_append_right _ (List.mem_of_getElem? (i := 1709) (by decide +kernel))) (by decide +kernel)
set_option maxRecDepth 100000 in
theorem wd_1710 : (Jvm.Cond.instanceMethod ({ cls := "HoleWaterModel", name := "tell", desc := "(I)I" } : Jvm.MethodName)) ∈ mh_T := mh_T_in (List.mem_append_right _ (List.mem_of_getElem? (i := 1710) (by decide +kernel))) (by decide +kernel)
set_option maxRecDepth 100000 in
theorem wd_1711 : (Jvm.Cond.selects "HoleWaterModel" ({ cls := "HoleWaterModel", name := "tell", desc := "(I)I" } : Jvm.MethodName) ({ cls := "HoleWaterModel", name := "tell", desc := "(I)I" } : Jvm.MethodName)) ∈ mh_T := mh_T_in (List.mem_append_right _ (List.mem_of_getElem? (i := 1711) (by decide +kernel))) (by decide +kernel)
set_option maxRecDepth 100000 in
theorem wd_1712 : (Jvm.Cond.code ({ cls := "HoleWaterModel", name := "tell", desc := "(I)I" } : Jvm.MethodName) prog_14_method_112_code (2 : Nat) (Option.some Jvm.ClassFile.FieldType.int)) ∈ mh_T := mh_T_in (List.mem_append_right _ (List.mem_of_getElem? (i := 1712) (by decide +kernel))) (by decide +kernel)
set_option maxRecDepth 100000 in
theorem wd_1713 : (Jvm.Cond.methodLink "HoleWaterLaw" (195 : Nat) ({ cls := "HoleWaterModel", name := "check", desc := "(I)I" } : Jvm.MethodName)) ∈ mh_T := mh_T_in (List.mem_append_right _ (List.mem_of_getElem? (i := 1713) (by decide +kernel))) (by decide +kernel)
set_option maxRecDepth 100000 in
theorem wd_1714 : (Jvm.Cond.instanceMethod ({ cls := "HoleWaterModel", name := "check", desc := "(I)I" } : Jvm.MethodName)) ∈ mh_T := mh_T_in (List.mem_append_right _ (List.mem_of_getElem? (i := 1714) (by decide +kernel))) (by decide +kernel)
set_option maxRecDepth 100000 in
theorem wd_1715 : (Jvm.Cond.selects "HoleWaterModel" ({ cls := "HoleWaterModel", name := "check", desc := "(I)I" } : Jvm.MethodName) ({ cls := "HoleWaterModel", name := "check", desc := "(I)I" } : Jvm.MethodName)) ∈ mh_T := mh_T_in (List.mem_append_right _ (List.mem_of_getElem? (i := 1715) (by decide +kernel))) (by decide +kernel)
set_option maxRecDepth 100000 in
theorem wd_1716 : (Jvm.Cond.code ({ cls := "HoleWaterModel", name := "check", desc := "(I)I" } : Jvm.MethodName) prog_14_method_113_code (5 : Nat) (Option.some Jvm.ClassFile.FieldType.int)) ∈ mh_T := mh_T_in (List.mem_append_right _ (List.mem_of_getElem? (i := 1716) (by decide +kernel))) (by decide +kernel)
set_option maxRecDepth 100000 in
theorem wd_1717 : (Jvm.Cond.methodLink "HoleWaterLaw" (199 : Nat) ({ cls := "HoleWaterModel", name := "count", desc := "(I)I" } : Jvm.MethodName)) ∈ mh_T := mh_T_in (List.mem_append_right _ (List.mem_of_getElem? (i := 1717) (by decide +kernel))) (by decide +kernel)
set_option maxRecDepth 100000 in
theorem wd_1718 : (Jvm.Cond.instanceMethod ({ cls := "HoleWaterModel", name := "count", desc := "(I)I" } : Jvm.MethodName)) ∈ mh_T := mh_T_in (List.mem_append_right _ (List.mem_of_getElem? (i := 1718) (by decide +kernel))) (by decide +kernel)
set_option maxRecDepth 100000 in
theorem wd_1719 : (Jvm.Cond.selects "HoleWaterModel" ({ cls := "HoleWaterModel", name := "count", desc := "(I)I" } : Jvm.MethodName) ({ cls := "HoleWaterModel", name := "count", desc := "(I)I" } : Jvm.MethodName)) ∈ mh_T := mh_T_in (List.mem_append_right _ (List.mem_of_getElem? (i := 1719) (by decide +kernel))) (by decide +kernel)
set_option maxRecDepth 100000 in
theorem wd_1720 : (Jvm.Cond.code ({ cls := "HoleWaterModel", name := "count", desc := "(I)I" } : Jvm.MethodName) prog_14_method_116_code (2 : Nat) (Option.some Jvm.ClassFile.FieldType.int)) ∈ mh_T := mh_T_in (List.mem_append_right _ (List.mem_of_getElem? (i := 1720) (by decide +kernel))) (by decide +kernel)
set_option maxRecDepth 100000 in
theorem wd_1721 : (Jvm.Cond.methodLink "HoleWaterModel" (352 : Nat) ({ cls := "HoleWaterModel", name := "sawMany", desc := "()I" } : Jvm.MethodName)) ∈ mh_T := mh_T_in (List.mem_append_right _ (List.mem_of_getElem? (i := 1721) (by decide +kernel))) (by decide +kernel)
set_option maxRecDepth 100000 in
theorem wd_1723 : (Jvm.Cond.instanceMethod ({ cls := "HoleWaterModel", name := "sawMany", desc := "()I" } : Jvm.MethodName)) ∈ mh_T := mh_T_in (List.mem_append_right _ (List.mem_of_getElem? (i := 1723) (by decide +kernel))) (by decide +kernel)
set_option maxRecDepth 100000 in
theorem wd_1724 : (Jvm.Cond.code ({ cls := "HoleWaterModel", name := "sawMany", desc := "()I" } : Jvm.MethodName) prog_14_method_115_code (3 : Nat) (Option.some Jvm.ClassFile.FieldType.int)) ∈ mh_T := mh_T_in (List.mem_append_right _ (List.mem_of_getElem? (i := 1724) (by decide +kernel))) (by decide +kernel)
set_option maxRecDepth 100000 in
theorem wd_1725 : (Jvm.Cond.methodLink "HoleWaterModel" (355 : Nat) ({ cls := "HoleWaterModel", name := "water", desc := "()I" } : Jvm.MethodName)) ∈ mh_T := mh_T_in (List.mem_append_right _ (List.mem_of_getElem? (i := 1725) (by decide +kernel))) (by decide +kernel)
set_option maxRecDepth 100000 in
theorem wd_1727 : (Jvm.Cond.instanceMethod ({ cls := "HoleWaterModel", name := "water", desc := "()I" } : Jvm.MethodName)) ∈ mh_T := mh_T_in (List.mem_append_right _ (List.mem_of_getElem? (i := 1727) (by decide +kernel))) (by decide +kernel)
set_option maxRecDepth 100000 in
theorem wd_1728 : (Jvm.Cond.code ({ cls := "HoleWaterModel", name := "water", desc := "()I" } : Jvm.MethodName) prog_14_method_114_code (3 : Nat) (Option.some Jvm.ClassFile.FieldType.int)) ∈ mh_T := mh_T_in (List.mem_append_right _ (List.mem_of_getElem? (i := 1728) (by decide +kernel))) (by decide +kernel)
set_option maxRecDepth 100000 in
theorem wd_1729 : (Jvm.Cond.methodLink "HoleWaterLaw" (203 : Nat) ({ cls := "HoleWaterModel", name := "told", desc := "(I)I" } : Jvm.MethodName)) ∈ mh_T := mh_T_in (List.mem_append_right _ (List.mem_of_getElem? (i := 1729) (by decide +kernel))) (by decide +kernel)
set_option maxRecDepth 100000 in
theorem wd_1730 : (Jvm.Cond.instanceMethod ({ cls := "HoleWaterModel", name := "told", desc := "(I)I" } : Jvm.MethodName)) ∈ mh_T := mh_T_in (List.mem_append_right _ (List.mem_of_getElem? (i := 1730) (by decide +kernel))) (by decide +kernel)
set_option maxRecDepth 100000 in
theorem wd_1731 : (Jvm.Cond.selects "HoleWaterModel" ({ cls := "HoleWaterModel", name := "told", desc := "(I)I" } : Jvm.MethodName) ({ cls := "HoleWaterModel", name := "told", desc := "(I)I" } : Jvm.MethodName)) ∈ mh_T := mh_T_in (List.mem_append_right _ (List.mem_of_getElem? (i := 1731) (by decide +kernel))) (by decide +kernel)
set_option maxRecDepth 100000 in
theorem wd_1732 : (Jvm.Cond.code ({ cls := "HoleWaterModel", name := "told", desc := "(I)I" } : Jvm.MethodName) prog_14_method_117_code (2 : Nat) (Option.some Jvm.ClassFile.FieldType.int)) ∈ mh_T := mh_T_in (List.mem_append_right _ (List.mem_of_getElem? (i := 1732) (by decide +kernel))) (by decide +kernel)
