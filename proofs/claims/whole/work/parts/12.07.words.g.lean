set_option maxRecDepth 100000 in
theorem wd_1388 : (Jvm.Cond.code ({ cls := "HoleWaterModel", name := "goes", desc := "(III)I" } : Jvm.MethodName) prog_14_method_64_code (7 : Nat) (Option.some Jvm.ClassFile.FieldType.int)) ∈ mh_T := mh_T_in (List.mem_append_right _ (List.mem_of_getElem? (i := 1388) (by decide +kernel))) (by decide +kernel)
set_option maxRecDepth 100000 in
theorem wd_1389 : (Jvm.Cond.methodLink "HoleWaterModel" (250 : Nat) ({ cls := "HoleWaterModel", name := "two", desc := "(III)I" } : Jvm.MethodName)) ∈ mh_T := mh_T_in (List.mem_append_right _ (List.mem_of_getElem? (i := 1389) (by decide +kernel))) (by decide +kernel)
set_option maxRecDepth 100000 in
theorem wd_1390 : (Jvm.Cond.static ({ cls := "HoleWaterModel", name := "two", desc := "(III)I" } : Jvm.MethodName)) ∈ mh_T := mh_T_in (List.mem_append_right _ (List.mem_of_getElem? (i := 1390) (by decide +kernel))) (by decide +kernel)
set_option maxRecDepth 100000 in
theorem wd_1391 : (Jvm.Cond.code ({ cls := "HoleWaterModel", name := "two", desc := "(III)I" } : Jvm.MethodName) prog_14_method_63_code (3 : Nat) (Option.some Jvm.ClassFile.FieldType.int)) ∈ mh_T := mh_T_in (List.mem_append_right _ (List.mem_of_getElem? (i := 1391) (by decide +kernel))) (by decide +kernel)
set_option maxRecDepth 100000 in
theorem wd_1392 : (Jvm.Cond.methodLink "HoleWaterModel" (259 : Nat) ({ cls := "HoleWaterModel", name := "within", desc := "(III)I" } : Jvm.MethodName)) ∈ mh_T := mh_T_in (List.mem_append_right _ (List.mem_of_getElem? (i := 1392) (by decide +kernel))) (by decide +kernel)
set_option maxRecDepth 100000 in
theorem wd_1393 : (Jvm.Cond.static ({ cls := "HoleWaterModel", name := "within", desc := "(III)I" } : Jvm.MethodName)) ∈ mh_T := mh_T_in (List.mem_append_right _ (List.mem_of_getElem? (i := 1393) (by decide +kernel))) (by decide +kernel)
set_option maxRecDepth 100000 in
theorem wd_1394 : (Jvm.Cond.code ({ cls := "HoleWaterModel", name := "within", desc := "(III)I" } : Jvm.MethodName) prog_14_method_66_code (3 : Nat) (Option.some Jvm.ClassFile.FieldType.int)) ∈ mh_T := mh_T_in (List.mem_append_right _ (List.mem_of_getElem? (i := 1394) (by decide +kernel))) (by decide +kernel)
set_option maxRecDepth 100000 in
theorem wd_1395 : (Jvm.Cond.methodLink "HoleWaterModel" (149 : Nat) ({ cls := "HoleWaterModel", name := "rises", desc := "(I)V" } : Jvm.MethodName)) ∈ mh_T := mh_T_in (List.mem_append_right _ (List.mem_of_getElem? (i := 1395) (by decide +kernel))) (by decide +kernel)
set_option maxRecDepth 100000 in
theorem wd_1397 : (Jvm.Cond.instanceMethod ({ cls := "HoleWaterModel", name := "rises", desc := "(I)V" } : Jvm.MethodName)) ∈ mh_T := mh_T_in (List.mem_append_right _ (List.mem_of_getElem? (i := 1397) (by decide +kernel))) (by decide +kernel)
set_option maxRecDepth 100000 in
theorem wd_1398 : (Jvm.Cond.code ({ cls := "HoleWaterModel", name := "rises", desc := "(I)V" } : Jvm.MethodName) prog_14_method_27_code (6 : Nat) (Option.none : Option Jvm.ClassFile.FieldType)) ∈ mh_T := mh_T_in (List.mem_append_right _ (List.mem_of_getElem? (i := 1398) (by decide +kernel))) (by decide +kernel)
set_option maxRecDepth 100000 in
theorem wd_1399 : (Jvm.Cond.methodLink "HoleWaterModel" (126 : Nat) ({ cls := "HoleWaterModel", name := "isSpring", desc := "(I)Z" } : Jvm.MethodName)) ∈ mh_T := mh_T_in (List.mem_append_right _ (List.mem_of_getElem? (i := 1399) (by decide +kernel))) (by decide +kernel)
set_option maxRecDepth 100000 in
theorem wd_1401 : (Jvm.Cond.instanceMethod ({ cls := "HoleWaterModel", name := "isSpring", desc := "(I)Z" } : Jvm.MethodName)) ∈ mh_T := mh_T_in (List.mem_append_right _ (List.mem_of_getElem? (i := 1401) (by decide +kernel))) (by decide +kernel)
set_option maxRecDepth 100000 in
theorem wd_1402 : (Jvm.Cond.code ({ cls := "HoleWaterModel", name := "isSpring", desc := "(I)Z" } : Jvm.MethodName) prog_14_method_11_code (2 : Nat) (Option.some Jvm.ClassFile.FieldType.boolean)) ∈ mh_T := mh_T_in (List.mem_append_right _ (List.mem_of_getElem? (i := 1402) (by decide +kernel))) (by decide +kernel)
set_option maxRecDepth 100000 in
theorem wd_1403 : (Jvm.Cond.methodLink "HoleWaterModel" (152 : Nat) ({ cls := "HoleWaterModel", name := "flows", desc := "(I)V" } : Jvm.MethodName)) ∈ mh_T := mh_T_in (List.mem_append_right _ (List.mem_of_getElem? (i := 1403) (by decide +kernel))) (by decide +kernel)
set_option maxRecDepth 100000 in
theorem wd_1405 : (Jvm.Cond.instanceMethod ({ cls := "HoleWaterModel", name := "flows", desc := "(I)V" } : Jvm.MethodName)) ∈ mh_T := mh_T_in (List.mem_append_right _ (List.mem_of_getElem? (i := 1405) (by decide +kernel))) (by decide +kernel)
set_option maxRecDepth 100000 in
theorem wd_1406 : (Jvm.Cond.code ({ cls := "HoleWaterModel", name := "flows", desc := "(I)V" } : Jvm.MethodName) prog_14_method_32_code (11 : Nat) (Option.none : Option Jvm.ClassFile.FieldType)) ∈ mh_T := mh_T_in (List.mem_append_right _ (List.mem_of_getElem? (i := 1406) (by decide +kernel))) (by decide +kernel)
set_option maxRecDepth 100000 in
theorem wd_1407 : (Jvm.Cond.methodLink "HoleWaterModel" (135 : Nat) ({ cls := "HoleWaterModel", name := "parts", desc := "(I)I" } : Jvm.MethodName)) ∈ mh_T := mh_T_in (List.mem_append_right _ (List.mem_of_getElem? (i := 1407) (by decide +kernel))) (by decide +kernel)
set_option maxRecDepth 100000 in
theorem wd_1409 : (Jvm.Cond.instanceMethod ({ cls := "HoleWaterModel", name := "parts", desc := "(I)I" } : Jvm.MethodName)) ∈ mh_T := mh_T_in (List.mem_append_right _ (List.mem_of_getElem? (i := 1409) (by decide +kernel))) (by decide +kernel)
set_option maxRecDepth 100000 in
theorem wd_1410 : (Jvm.Cond.code ({ cls := "HoleWaterModel", name := "parts", desc := "(I)I" } : Jvm.MethodName) prog_14_method_30_code (6 : Nat) (Option.some Jvm.ClassFile.FieldType.int)) ∈ mh_T := mh_T_in (List.mem_append_right _ (List.mem_of_getElem? (i := 1410) (by decide +kernel))) (by decide +kernel)
set_option maxRecDepth 100000 in
theorem wd_1411 : (Jvm.Cond.methodLink "HoleWaterModel" (129 : Nat) ({ cls := "HoleWaterModel", name := "isFrom", desc := "(II)Z" } : Jvm.MethodName)) ∈ mh_T := mh_T_in (List.mem_append_right _ (List.mem_of_getElem? (i := 1411) (by decide +kernel))) (by decide +kernel)
set_option maxRecDepth 100000 in
theorem wd_1413 : (Jvm.Cond.instanceMethod ({ cls := "HoleWaterModel", name := "isFrom", desc := "(II)Z" } : Jvm.MethodName)) ∈ mh_T := mh_T_in (List.mem_append_right _ (List.mem_of_getElem? (i := 1413) (by decide +kernel))) (by decide +kernel)
set_option maxRecDepth 100000 in
theorem wd_1414 : (Jvm.Cond.code ({ cls := "HoleWaterModel", name := "isFrom", desc := "(II)Z" } : Jvm.MethodName) prog_14_method_28_code (3 : Nat) (Option.some Jvm.ClassFile.FieldType.boolean)) ∈ mh_T := mh_T_in (List.mem_append_right _ (List.mem_of_getElem? (i := 1414) (by decide +kernel))) (by decide +kernel)
set_option maxRecDepth 100000 in
theorem wd_1415 : (Jvm.Cond.methodLink "HoleWaterModel" (132 : Nat) ({ cls := "HoleWaterModel", name := "isOverflow", desc := "(I)Z" } : Jvm.MethodName)) ∈ mh_T := mh_T_in (List.mem_append_right _ (List.mem_of_getElem? (i := 1415) (by decide +kernel))) (by decide +kernel)
set_option maxRecDepth 100000 in
theorem wd_1417 : (Jvm.Cond.instanceMethod ({ cls := "HoleWaterModel", name := "isOverflow", desc := "(I)Z" } : Jvm.MethodName)) ∈ mh_T := mh_T_in (List.mem_append_right _ (List.mem_of_getElem? (i := 1417) (by decide +kernel))) (by decide +kernel)
set_option maxRecDepth 100000 in
theorem wd_1418 : (Jvm.Cond.code ({ cls := "HoleWaterModel", name := "isOverflow", desc := "(I)Z" } : Jvm.MethodName) prog_14_method_29_code (2 : Nat) (Option.some Jvm.ClassFile.FieldType.boolean)) ∈ mh_T := mh_T_in (List.mem_append_right _ (List.mem_of_getElem? (i := 1418) (by decide +kernel))) (by decide +kernel)
set_option maxRecDepth 100000 in
theorem wd_1419 : (Jvm.Cond.methodLink "HoleWaterModel" (138 : Nat) ({ cls := "HoleWaterModel", name := "goesIn", desc := "(III)V" } : Jvm.MethodName)) ∈ mh_T := mh_T_in (List.mem_append_right _ (List.mem_of_getElem? (i := 1419) (by decide +kernel))) (by decide +kernel)
set_option maxRecDepth 100000 in
theorem wd_1421 : (Jvm.Cond.instanceMethod ({ cls := "HoleWaterModel", name := "goesIn", desc := "(III)V" } : Jvm.MethodName)) ∈ mh_T := mh_T_in (List.mem_append_right _ (List.mem_of_getElem? (i := 1421) (by decide +kernel))) (by decide +kernel)
set_option maxRecDepth 100000 in
theorem wd_1422 : (Jvm.Cond.code ({ cls := "HoleWaterModel", name := "goesIn", desc := "(III)V" } : Jvm.MethodName) prog_14_method_31_code (8 : Nat) (Option.none : Option Jvm.ClassFile.FieldType)) ∈ mh_T := mh_T_in (List.mem_append_right _ (List.mem_of_getElem? (i := 1422) (by decide +kernel))) (by decide +kernel)
set_option maxRecDepth 100000 in
theorem wd_1423 : (Jvm.Cond.methodLink "HoleWaterLaw" (62 : Nat) ({ cls := "HoleWaterModel", name := "put", desc := "(III)I" } : Jvm.MethodName)) ∈ mh_T := mh_T_in (List.mem_append_right _ (List.mem_of_getElem? (i := 1423) (by decide +kernel))) (by decide +kernel)
set_option maxRecDepth 100000 in
theorem wd_1424 : (Jvm.Cond.instanceMethod ({ cls := "HoleWaterModel", name := "put", desc := "(III)I" } : Jvm.MethodName)) ∈ mh_T := mh_T_in (List.mem_append_right _ (List.mem_of_getElem? (i := 1424) (by decide +kernel))) (by decide +kernel)
set_option maxRecDepth 100000 in
theorem wd_1425 : (Jvm.Cond.selects "HoleWaterModel" ({ cls := "HoleWaterModel", name := "put", desc := "(III)I" } : Jvm.MethodName) ({ cls := "HoleWaterModel", name := "put", desc := "(III)I" } : Jvm.MethodName)) ∈ mh_T := mh_T_in (List.mem_append_right _ (List.mem_of_getElem? (i := 1425) (by decide +kernel))) (by decide +kernel)
set_option maxRecDepth 100000 in
theorem wd_1426 : (Jvm.Cond.code ({ cls := "HoleWaterModel", name := "put", desc := "(III)I" } : Jvm.MethodName) prog_14_method_38_code (4 : Nat) (Option.some Jvm.ClassFile.FieldType.int)) ∈ mh_T := mh_T_in (List.mem_append_right _ (List.mem_of_getElem? (i := 1426) (by decide +kernel))) (by decide +kernel)
set_option maxRecDepth 100000 in
theorem wd_1427 : (Jvm.Cond.constantLong "HoleWaterModel" (163 : Nat) (9999 : Int64)) ∈ mh_T := mh_T_in (List.mem_append_right _ (List.mem_of_getElem? (i := 1427) (by decide +kernel))) (by decide +kernel)
set_option maxRecDepth 100000 in
theorem wd_1428 : (Jvm.Cond.methodLink "HoleWaterModel" (165 : Nat) ({ cls := "HoleWaterModel", name := "puts", desc := "(III)I" } : Jvm.MethodName)) ∈ mh_T := mh_T_in (List.mem_append_right _ (List.mem_of_getElem? (i := 1428) (by decide +kernel))) (by decide +kernel)
set_option maxRecDepth 100000 in
theorem wd_1430 : (Jvm.Cond.instanceMethod ({ cls := "HoleWaterModel", name := "puts", desc := "(III)I" } : Jvm.MethodName)) ∈ mh_T := mh_T_in (List.mem_append_right _ (List.mem_of_getElem? (i := 1430) (by decide +kernel))) (by decide +kernel)
set_option maxRecDepth 100000 in
theorem wd_1431 : (Jvm.Cond.code ({ cls := "HoleWaterModel", name := "puts", desc := "(III)I" } : Jvm.MethodName) prog_14_method_37_code (5 : Nat) (Option.some Jvm.ClassFile.FieldType.int)) ∈ mh_T := mh_T_in (List.mem_append_right _ (List.mem_of_getElem? (i := 1431) (by decide +kernel))) (by decide +kernel)
set_option maxRecDepth 100000 in
theorem wd_1432 : (Jvm.Cond.methodLink "HoleWaterLaw" (66 : Nat) ({ cls := "HoleWaterModel", name := "putIs", desc := "(II)I" } : Jvm.MethodName)) ∈ mh_T := mh_T_in (List.mem_append_right _ (List.mem_of_getElem? (i := 1432) (by decide +kernel))) (by decide +kernel)
set_option maxRecDepth 100000 in
theorem wd_1433 : (Jvm.Cond.instanceMethod ({ cls := "HoleWaterModel", name := "putIs", desc := "(II)I" } : Jvm.MethodName)) ∈ mh_T := mh_T_in (List.mem_append_right _ (List.mem_of_getElem? (i := 1433) (by decide +kernel))) (by decide +kernel)
set_option maxRecDepth 100000 in
theorem wd_1434 : (Jvm.Cond.selects "HoleWaterModel" ({ cls := "HoleWaterModel", name := "putIs", desc := "(II)I" } : Jvm.MethodName) ({ cls := "HoleWaterModel", name := "putIs", desc := "(II)I" } : Jvm.MethodName)) ∈ mh_T := mh_T_in (List.mem_append_right _ (List.mem_of_getElem? (i := 1434) (by decide +kernel))) (by decide +kernel)
set_option maxRecDepth 100000 in
theorem wd_1435 : (Jvm.Cond.code ({ cls := "HoleWaterModel", name := "putIs", desc := "(II)I" } : Jvm.MethodName) prog_14_method_39_code (3 : Nat) (Option.some Jvm.ClassFile.FieldType.int)) ∈ mh_T := mh_T_in (List.mem_append_right _ (List.mem_of_getElem? (i := 1435) (by decide +kernel))) (by decide +kernel)
set_option maxRecDepth 100000 in
theorem wd_1436 : (Jvm.Cond.methodLink "HoleWaterLaw" (71 : Nat) ({ cls := "HoleWaterModel", name := "pours", desc := "(IIIII)I" } : Jvm.MethodName)) ∈ mh_T := mh_T_in (List.mem_append_right _ (List.mem_of_getElem? (i := 1436) (by decide +kernel))) (by decide +kernel)
set_option maxRecDepth 100000 in
theorem wd_1437 : (Jvm.Cond.instanceMethod ({ cls := "HoleWaterModel", name := "pours", desc := "(IIIII)I" } : Jvm.MethodName)) ∈ mh_T := mh_T_in (List.mem_append_right _ (List.mem_of_getElem? (i := 1437) (by decide +kernel))) (by decide +kernel)
set_option maxRecDepth 100000 in
theorem wd_1438 : (Jvm.Cond.selects "HoleWaterModel" ({ cls := "HoleWaterModel", name := "pours", desc := "(IIIII)I" } : Jvm.MethodName) ({ cls := "HoleWaterModel", name := "pours", desc := "(IIIII)I" } : Jvm.MethodName)) ∈ mh_T := mh_T_in (List.mem_append_right _ (List.mem_of_getElem? (i := 1438) (by decide +kernel))) (by decide +kernel)
set_option maxRecDepth 100000 in
theorem wd_1439 : (Jvm.Cond.code ({ cls := "HoleWaterModel", name := "pours", desc := "(IIIII)I" } : Jvm.MethodName) prog_14_method_40_code (9 : Nat) (Option.some Jvm.ClassFile.FieldType.int)) ∈ mh_T := mh_T_in (List.mem_append_right _ (List.mem_of_getElem? (i := 1439) (by decide +kernel))) (by decide +kernel)
set_option maxRecDepth 100000 in
theorem wd_1440 : (Jvm.Cond.methodLink "HoleWaterModel" (169 : Nat) ({ cls := "HoleWaterModel", name := "isSheet", desc := "(I)Z" } : Jvm.MethodName)) ∈ mh_T := mh_T_in (List.mem_append_right _ (List.mem_of_getElem? (i := 1440) (by decide +kernel))) (by decide +kernel)
set_option maxRecDepth 100000 in
theorem wd_1441 : (Jvm.Cond.static ({ cls := "HoleWaterModel", name := "isSheet", desc := "(I)Z" } : Jvm.MethodName)) ∈ mh_T := mh_T_in (List.mem_append_right _ (List.mem_of_getElem? (i := 1441) (by decide +kernel))) (by decide +kernel)
set_option maxRecDepth 100000 in
theorem wd_1442 : (Jvm.Cond.code ({ cls := "HoleWaterModel", name := "isSheet", desc := "(I)Z" } : Jvm.MethodName) prog_14_method_106_code (1 : Nat) (Option.some Jvm.ClassFile.FieldType.boolean)) ∈ mh_T := mh_T_in (List.mem_append_right _ (List.mem_of_getElem? (i := 1442) (by decide +kernel))) (by decide +kernel)
set_option maxRecDepth 100000 in
theorem wd_1443 : (Jvm.Cond.constantLong "HoleWaterModel" (172 : Nat) (9 : Int64)) ∈ mh_T := mh_T_in (List.mem_append_right _ (List.mem_of_getElem? (i := 1443) (by decide +kernel))) (by decide +kernel)
set_option maxRecDepth 100000 in
theorem wd_1444 : (Jvm.Cond.methodLink "HoleWaterLaw" (75 : Nat) ({ cls := "HoleWaterModel", name := "grains", desc := "(II)I" } : Jvm.MethodName)) ∈ mh_T := mh_T_in (List.mem_append_right _ (List.mem_of_getElem? (i := 1444) (by decide +kernel))) (by decide +kernel)
set_option maxRecDepth 100000 in
theorem wd_1445 : (Jvm.Cond.instanceMethod ({ cls := "HoleWaterModel", name := "grains", desc := "(II)I" } : Jvm.MethodName)) ∈ mh_T := mh_T_in (List.mem_append_right _ (List.mem_of_getElem? (i := 1445) (by decide +kernel))) (by decide +kernel)
set_option maxRecDepth 100000 in
theorem wd_1446 : (Jvm.Cond.selects "HoleWaterModel" ({ cls := "HoleWaterModel", name := "grains", desc := "(II)I" } : Jvm.MethodName) ({ cls := "HoleWaterModel", name := "grains", desc := "(II)I" } : Jvm.MethodName)) ∈ mh_T := mh_T_in (List.mem_append_right _ (List.mem_of_getElem? (i := 1446) (by decide +kernel))) (by decide +kernel)
set_option maxRecDepth 100000 in
theorem wd_1447 : (Jvm.Cond.code ({ cls := "HoleWaterModel", name := "grains", desc := "(II)I" } : Jvm.MethodName) prog_14_method_41_code (3 : Nat) (Option.some Jvm.ClassFile.FieldType.int)) ∈ mh_T := mh_T_in (List.mem_append_right _ (List.mem_of_getElem? (i := 1447) (by decide +kernel))) (by decide +kernel)
set_option maxRecDepth 100000 in
theorem wd_1448 : (Jvm.Cond.methodLink "HoleWaterLaw" (79 : Nat) ({ cls := "HoleWaterModel", name := "stuff", desc := "(II)I" } : Jvm.MethodName)) ∈ mh_T := mh_T_in (List.mem_append_right _ (List.mem_of_getElem? (i := 1448) (by decide +kernel))) (by decide +kernel)
set_option maxRecDepth 100000 in
theorem wd_1449 : (Jvm.Cond.instanceMethod ({ cls := "HoleWaterModel", name := "stuff", desc := "(II)I" } : Jvm.MethodName)) ∈ mh_T := mh_T_in (List.mem_append_right _ (List.mem_of_getElem? (i := 1449) (by decide +kernel))) (by decide +kernel)
set_option maxRecDepth 100000 in
theorem wd_1450 : (Jvm.Cond.selects "HoleWaterModel" ({ cls := "HoleWaterModel", name := "stuff", desc := "(II)I" } : Jvm.MethodName) ({ cls := "HoleWaterModel", name := "stuff", desc := "(II)I" } : Jvm.MethodName)) ∈ mh_T := mh_T_in (List.mem_append_right _ (List.mem_of_getElem? (i := 1450) (by decide +kernel))) (by decide +kernel)
set_option maxRecDepth 100000 in
theorem wd_1451 : (Jvm.Cond.code ({ cls := "HoleWaterModel", name := "stuff", desc := "(II)I" } : Jvm.MethodName) prog_14_method_43_code (3 : Nat) (Option.some Jvm.ClassFile.FieldType.int)) ∈ mh_T := mh_T_in (List.mem_append_right _ (List.mem_of_getElem? (i := 1451) (by decide +kernel))) (by decide +kernel)
set_option maxRecDepth 100000 in
theorem wd_1452 : (Jvm.Cond.methodLink "HoleWaterModel" (174 : Nat) ({ cls := "HoleWaterModel", name := "about", desc := "(I)I" } : Jvm.MethodName)) ∈ mh_T := mh_T_in (List.mem_append_right _ (List.mem_of_getElem? (i := 1452) (by decide +kernel))) (by decide +kernel)
set_option maxRecDepth 100000 in
theorem wd_1454 : (Jvm.Cond.instanceMethod ({ cls := "HoleWaterModel", name := "about", desc := "(I)I" } : Jvm.MethodName)) ∈ mh_T := mh_T_in (List.mem_append_right _ (List.mem_of_getElem? (i := 1454) (by decide +kernel))) (by decide +kernel)
set_option maxRecDepth 100000 in
theorem wd_1455 : (Jvm.Cond.code ({ cls := "HoleWaterModel", name := "about", desc := "(I)I" } : Jvm.MethodName) prog_14_method_42_code (4 : Nat) (Option.some Jvm.ClassFile.FieldType.int)) ∈ mh_T := mh_T_in (List.mem_append_right _ (List.mem_of_getElem? (i := 1455) (by decide +kernel))) (by decide +kernel)
set_option maxRecDepth 100000 in
theorem wd_1456 : (Jvm.Cond.methodLink "HoleWaterLaw" (83 : Nat) ({ cls := "HoleWaterModel", name := "out", desc := "(III)I" } : Jvm.MethodName)) ∈ mh_T := mh_T_in (List.mem_append_right _ (List.mem_of_getElem? (i := 1456) (by decide +kernel))) (by decide +kernel)
set_option maxRecDepth 100000 in
theorem wd_1457 : (Jvm.Cond.instanceMethod ({ cls := "HoleWaterModel", name := "out", desc := "(III)I" } : Jvm.MethodName)) ∈ mh_T := mh_T_in (List.mem_append_right _ (List.mem_of_getElem? (i := 1457) (by decide +kernel))) (by decide +kernel)
set_option maxRecDepth 100000 in
theorem wd_1458 : (Jvm.Cond.selects "HoleWaterModel" ({ cls := "HoleWaterModel", name := "out", desc := "(III)I" } : Jvm.MethodName) ({ cls := "HoleWaterModel", name := "out", desc := "(III)I" } : Jvm.MethodName)) ∈ mh_T := mh_T_in (List.mem_append_right _ (List.mem_of_getElem? (i := 1458) (by decide +kernel))) (by decide +kernel)
set_option maxRecDepth 100000 in
theorem wd_1459 : (Jvm.Cond.code ({ cls := "HoleWaterModel", name := "out", desc := "(III)I" } : Jvm.MethodName) prog_14_method_45_code (4 : Nat) (Option.some Jvm.ClassFile.FieldType.int)) ∈ mh_T := mh_T_in (List.mem_append_right _ (List.mem_of_getElem? (i := 1459) (by decide +kernel))) (by decide +kernel)
set_option maxRecDepth 100000 in
theorem wd_1460 : (Jvm.Cond.constantLong "HoleWaterModel" (177 : Nat) (24 : Int64)) ∈ mh_T := mh_T_in (List.mem_append_right _ (List.mem_of_getElem? (i := 1460) (by decide +kernel))) (by decide +kernel)
set_option maxRecDepth 100000 in
theorem wd_1461 : (Jvm.Cond.methodLink "HoleWaterModel" (179 : Nat) ({ cls := "HoleWaterModel", name := "outAgo", desc := "(III)I" } : Jvm.MethodName)) ∈ mh_T := mh_T_in (List.mem_append_right _ (List.mem_of_getElem? (i := 1461) (by decide +kernel))) (by decide +kernel)
set_option maxRecDepth 100000 in
theorem wd_1463 : (Jvm.Cond.instanceMethod ({ cls := "HoleWaterModel", name := "outAgo", desc := "(III)I" } : Jvm.MethodName)) ∈ mh_T := mh_T_in (List.mem_append_right _ (List.mem_of_getElem? (i := 1463) (by decide +kernel))) (by decide +kernel)
set_option maxRecDepth 100000 in
theorem wd_1464 : (Jvm.Cond.code ({ cls := "HoleWaterModel", name := "outAgo", desc := "(III)I" } : Jvm.MethodName) prog_14_method_44_code (5 : Nat) (Option.some Jvm.ClassFile.FieldType.int)) ∈ mh_T := mh_T_in (List.mem_append_right _ (List.mem_of_getElem? (i := 1464) (by decide +kernel))) (by decide +kernel)
set_option maxRecDepth 100000 in
theorem wd_1465 : (Jvm.Cond.methodLink "HoleWaterLaw" (87 : Nat) ({ cls := "HoleWaterModel", name := "spill", desc := "(IIII)I" } : Jvm.MethodName)) ∈ mh_T := mh_T_in (List.mem_append_right _ (List.mem_of_getElem? (i := 1465) (by decide +kernel))) (by decide +kernel)
set_option maxRecDepth 100000 in
theorem wd_1466 : (Jvm.Cond.instanceMethod ({ cls := "HoleWaterModel", name := "spill", desc := "(IIII)I" } : Jvm.MethodName)) ∈ mh_T := mh_T_in (List.mem_append_right _ (List.mem_of_getElem? (i := 1466) (by decide +kernel))) (by decide +kernel)
set_option maxRecDepth 100000 in
theorem wd_1467 : (Jvm.Cond.selects "HoleWaterModel" ({ cls := "HoleWaterModel", name := "spill", desc := "(IIII)I" } : Jvm.MethodName) ({ cls := "HoleWaterModel", name := "spill", desc := "(IIII)I" } : Jvm.MethodName)) ∈ mh_T := mh_T_in (List.mem_append_right _ (List.mem_of_getElem? (i := 1467) (by decide +kernel))) (by decide +kernel)
set_option maxRecDepth 100000 in
theorem wd_1468 : (Jvm.Cond.code ({ cls := "HoleWaterModel", name := "spill", desc := "(IIII)I" } : Jvm.MethodName) prog_14_method_50_code (8 : Nat) (Option.some Jvm.ClassFile.FieldType.int)) ∈ mh_T := mh_T_in (List.mem_append_right _ (List.mem_of_getElem? (i := 1468) (by decide +kernel))) (by decide +kernel)
set_option maxRecDepth 100000 in
theorem wd_1469 : (Jvm.Cond.methodLink "HoleWaterModel" (182 : Nat) ({ cls := "HoleWaterModel", name := "isWrongSpill", desc := "(III)I" } : Jvm.MethodName)) ∈ mh_T := mh_T_in (List.mem_append_right _ (List.mem_of_getElem? (i := 1469) (by decide +kernel))) (by decide +kernel)
set_option maxRecDepth 100000 in
theorem wd_1471 : (Jvm.Cond.instanceMethod ({ cls := "HoleWaterModel", name := "isWrongSpill", desc := "(III)I" } : Jvm.MethodName)) ∈ mh_T := mh_T_in (List.mem_append_right _ (List.mem_of_getElem? (i := 1471) (by decide +kernel))) (by decide +kernel)
set_option maxRecDepth 100000 in
theorem wd_1472 : (Jvm.Cond.code ({ cls := "HoleWaterModel", name := "isWrongSpill", desc := "(III)I" } : Jvm.MethodName) prog_14_method_49_code (4 : Nat) (Option.some Jvm.ClassFile.FieldType.int)) ∈ mh_T := mh_T_in (List.mem_append_right _ (List.mem_of_getElem? (i := 1472) (by decide +kernel))) (by decide +kernel)
set_option maxRecDepth 100000 in
theorem wd_1473 : (Jvm.Cond.methodLink "HoleWaterModel" (185 : Nat) ({ cls := "HoleWaterModel", name := "laysAside", desc := "()V" } : Jvm.MethodName)) ∈ mh_T := mh_T_in (List.mem_append_right _ (List.mem_of_getElem? (i := 1473) (by decide +kernel))) (by decide +kernel)
set_option maxRecDepth 100000 in
theorem wd_1475 : (Jvm.Cond.instanceMethod ({ cls := "HoleWaterModel", name := "laysAside", desc := "()V" } : Jvm.MethodName)) ∈ mh_T := mh_T_in (List.mem_append_right _ (List.mem_of_getElem? (i := 1475) (by decide +kernel))) (by decide +kernel)
set_option maxRecDepth 100000 in
theorem wd_1476 : (Jvm.Cond.code ({ cls := "HoleWaterModel", name := "laysAside", desc := "()V" } : Jvm.MethodName) prog_14_method_46_code (2 : Nat) (Option.none : Option Jvm.ClassFile.FieldType)) ∈ mh_T := mh_T_in (List.mem_append_right _ (List.mem_of_getElem? (i := 1476) (by decide +kernel))) (by decide +kernel)
set_option maxRecDepth 100000 in
theorem wd_1477 : (Jvm.Cond.methodLink "HoleWaterModel" (188 : Nat) ({ cls := "HoleWaterModel", name := "spills", desc := "(II)V" } : Jvm.MethodName)) ∈ mh_T := mh_T_in (List.mem_append_right _ (List.mem_of_getElem? (i := 1477) (by decide +kernel))) (by decide +kernel)
set_option maxRecDepth 100000 in
theorem wd_1479 : (Jvm.Cond.instanceMethod ({ cls := "HoleWaterModel", name := "spills", desc := "(II)V" } : Jvm.MethodName)) ∈ mh_T := mh_T_in (List.mem_append_right _ (List.mem_of_getElem? (i := 1479) (by decide +kernel))) (by decide +kernel)
set_option maxRecDepth 100000 in
theorem wd_1480 : (Jvm.Cond.code ({ cls := "HoleWaterModel", name := "spills", desc := "(II)V" } : Jvm.MethodName) prog_14_method_48_code (6 : Nat) (Option.none : Option Jvm.ClassFile.FieldType)) ∈ mh_T := mh_T_in (List.mem_append_right _ (List.mem_of_getElem? (i := 1480) (by decide +kernel))) (by decide +kernel)
set_option maxRecDepth 100000 in
theorem wd_1481 : (Jvm.Cond.methodLink "HoleWaterModel" (192 : Nat) ({ cls := "HoleWaterModel", name := "laysBack", desc := "()V" } : Jvm.MethodName)) ∈ mh_T := mh_T_in (List.mem_append_right _ (List.mem_of_getElem? (i := 1481) (by decide +kernel))) (by decide +kernel)
set_option maxRecDepth 100000 in
theorem wd_1483 : (Jvm.Cond.instanceMethod ({ cls := "HoleWaterModel", name := "laysBack", desc := "()V" } : Jvm.MethodName)) ∈ mh_T := mh_T_in (List.mem_append_right _ (List.mem_of_getElem? (i := 1483) (by decide +kernel))) (by decide +kernel)
set_option maxRecDepth 100000 in
theorem wd_1484 : (Jvm.Cond.code ({ cls := "HoleWaterModel", name := "laysBack", desc := "()V" } : Jvm.MethodName) prog_14_method_47_code (2 : Nat) (Option.none : Option Jvm.ClassFile.FieldType)) ∈ mh_T := mh_T_in (List.mem_append_right _ (List.mem_of_getElem? (i := 1484) (by decide +kernel))) (by decide +kernel)
set_option maxRecDepth 100000 in
theorem wd_1485 : (Jvm.Cond.methodLink "HoleWaterLaw" (91 : Nat) ({ cls := "HoleWaterModel", name := "first", desc := "(III)I" } : Jvm.MethodName)) ∈ mh_T := mh_T_in (List.mem_append_right _ (List.mem_of_getElem? (i := 1485) (by decide +kernel))) (by decide +kernel)
set_option maxRecDepth 100000 in
theorem wd_1486 : (Jvm.Cond.instanceMethod ({ cls := "HoleWaterModel", name := "first", desc := "(III)I" } : Jvm.MethodName)) ∈ mh_T := mh_T_in (List.mem_append_right _ (List.mem_of_getElem? (i := 1486) (by decide +kernel))) (by decide +kernel)
set_option maxRecDepth 100000 in
theorem wd_1487 : (Jvm.Cond.selects "HoleWaterModel" ({ cls := "HoleWaterModel", name := "first", desc := "(III)I" } : Jvm.MethodName) ({ cls := "HoleWaterModel", name := "first", desc := "(III)I" } : Jvm.MethodName)) ∈ mh_T := mh_T_in (List.mem_append_right _ (List.mem_of_getElem? (i := 1487) (by decide +kernel))) (by decide +kernel)
set_option maxRecDepth 100000 in
theorem wd_1488 : (Jvm.Cond.code ({ cls := "HoleWaterModel", name := "first", desc := "(III)I" } : Jvm.MethodName) prog_14_method_51_code (7 : Nat) (Option.some Jvm.ClassFile.FieldType.int)) ∈ mh_T := mh_T_in (List.mem_append_right _ (List.mem_of_getElem? (i := 1488) (by decide +kernel))) (by decide +kernel)
set_option maxRecDepth 100000 in
theorem wd_1489 : (Jvm.Cond.methodLink "HoleWaterLaw" (98 : Nat) ({ cls := "HoleWaterModel", name := "feed", desc := "(JI)I" } : Jvm.MethodName)) ∈ mh_T := mh_T_in (List.mem_append_right _ (List.mem_of_getElem? (i := 1489) (by decide +kernel))) (by decide +kernel)
set_option maxRecDepth 100000 in
theorem wd_1490 : (Jvm.Cond.instanceMethod ({ cls := "HoleWaterModel", name := "feed", desc := "(JI)I" } : Jvm.MethodName)) ∈ mh_T := mh_T_in (List.mem_append_right _ (List.mem_of_getElem? (i := 1490) (by decide +kernel))) (by decide +kernel)
set_option maxRecDepth 100000 in
theorem wd_1491 : (Jvm.Cond.selects "HoleWaterModel" ({ cls := "HoleWaterModel", name := "feed", desc := "(JI)I" } : Jvm.MethodName) ({ cls := "HoleWaterModel", name := "feed", desc := "(JI)I" } : Jvm.MethodName)) ∈ mh_T := mh_T_in (List.mem_append_right _ (List.mem_of_getElem? (i := 1491) (by decide +kernel))) (by decide +kernel)
set_option maxRecDepth 100000 in
theorem wd_1492 : (Jvm.Cond.code ({ cls := "HoleWaterModel", name := "feed", desc := "(JI)I" } : Jvm.MethodName) prog_14_method_52_code (5 : Nat) (Option.some Jvm.ClassFile.FieldType.int)) ∈ mh_T := mh_T_in (List.mem_append_right _ (List.mem_of_getElem? (i := 1492) (by decide +kernel))) (by decide +kernel)
set_option maxRecDepth 100000 in
theorem wd_1493 : (Jvm.Cond.constantLong "HoleWaterModel" (195 : Nat) (8 : Int64)) ∈ mh_T := mh_T_in (List.mem_append_right _ (List.mem_of_getElem? (i := 1493) (by decide +kernel))) (by decide +kernel)
set_option maxRecDepth 100000 in
theorem wd_1494 : (Jvm.Cond.constantLong "HoleWaterModel" (197 : Nat) (255 : Int64)) ∈ mh_T := mh_T_in (List.mem_append_right _ (List.mem_of_getElem? (i := 1494) (by decide +kernel))) (by decide +kernel)
set_option maxRecDepth 100000 in
theorem wd_1495 : (Jvm.Cond.methodLink "HoleWaterLaw" (102 : Nat) ({ cls := "HoleWaterModel", name := "text", desc := "(I)I" } : Jvm.MethodName)) ∈ mh_T := mh_T_in (List.mem_append_right _ (List.mem_of_getElem? (i := 1495) (by decide +kernel))) (by decide +kernel)
set_option maxRecDepth 100000 in
theorem wd_1496 : (Jvm.Cond.instanceMethod ({ cls := "HoleWaterModel", name := "text", desc := "(I)I" } : Jvm.MethodName)) ∈ mh_T := mh_T_in (List.mem_append_right _ (List.mem_of_getElem? (i := 1496) (by decide +kernel))) (by decide +kernel)
set_option maxRecDepth 100000 in
theorem wd_1497 : (Jvm.Cond.selects "HoleWaterModel" ({ cls := "HoleWaterModel", name := "text", desc := "(I)I" } : Jvm.MethodName) ({ cls := "HoleWaterModel", name := "text", desc := "(I)I" } : Jvm.MethodName)) ∈ mh_T := mh_T_in (List.mem_append_right _ (List.mem_of_getElem? (i := 1497) (by decide +kernel))) (by decide +kernel)
set_option maxRecDepth 100000 in
theorem wd_1498 : (Jvm.Cond.code ({ cls := "HoleWaterModel", name := "text", desc := "(I)I" } : Jvm.MethodName) prog_14_method_62_code (5 : Nat) (Option.some Jvm.ClassFile.FieldType.int)) ∈ mh_T := mh_T_in (List.mem_append_right _ (List.mem_of_getElem? (i := 1498) (by decide +kernel))) (by decide +kernel)
set_option maxRecDepth 100000 in
theorem wd_1499 : (Jvm.Cond.methodLink "HoleWaterModel" (247 : Nat) ({ cls := "HoleWaterModel", name := "reads", desc := "()V" } : Jvm.MethodName)) ∈ mh_T := mh_T_in (List.mem_append_right _ (List.mem_of_getElem? (i := 1499) (by decide +kernel))) (by decide +kernel)
set_option maxRecDepth 100000 in
theorem wd_1501 : (Jvm.Cond.instanceMethod ({ cls := "HoleWaterModel", name := "reads", desc := "()V" } : Jvm.MethodName)) ∈ mh_T := mh_T_in (List.mem_append_right _ (List.mem_of_getElem? (i := 1501) (by decide +kernel))) (by decide +kernel)
set_option maxRecDepth 100000 in
theorem wd_1502 : (Jvm.Cond.code ({ cls := "HoleWaterModel", name := "reads", desc := "()V" } : Jvm.MethodName) prog_14_method_61_code (2 : Nat) (Option.none : Option Jvm.ClassFile.FieldType)) ∈ mh_T := mh_T_in (List.mem_append_right _ (List.mem_of_getElem? (i := 1502) (by decide +kernel))) (by decide +kernel)
set_option maxRecDepth 100000 in
theorem wd_1503 : (Jvm.Cond.methodLink "HoleWaterModel" (229 : Nat) ({ cls := "HoleWaterModel", name := "sum", desc := "()V" } : Jvm.MethodName)) ∈ mh_T := mh_T_in (List.mem_append_right _ (List.mem_of_getElem? (i := 1503) (by decide +kernel))) (by decide +kernel)
set_option maxRecDepth 100000 in
theorem wd_1505 : (Jvm.Cond.instanceMethod ({ cls := "HoleWaterModel", name := "sum", desc := "()V" } : Jvm.MethodName)) ∈ mh_T := mh_T_in (List.mem_append_right _ (List.mem_of_getElem? (i := 1505) (by decide +kernel))) (by decide +kernel)
set_option maxRecDepth 100000 in
theorem wd_1506 : (Jvm.Cond.code ({ cls := "HoleWaterModel", name := "sum", desc := "()V" } : Jvm.MethodName) prog_14_method_59_code (2 : Nat) (Option.none : Option Jvm.ClassFile.FieldType)) ∈ mh_T := mh_T_in (List.mem_append_right _ (List.mem_of_getElem? (i := 1506) (by decide +kernel))) (by decide +kernel)
set_option maxRecDepth 100000 in
theorem wd_1507 : (Jvm.Cond.methodLink "HoleWaterModel" (238 : Nat) ({ cls := "HoleWaterModel", name := "term", desc := "()V" } : Jvm.MethodName)) ∈ mh_T := mh_T_in (List.mem_append_right _ (List.mem_of_getElem? (i := 1507) (by decide +kernel))) (by decide +kernel)
set_option maxRecDepth 100000 in
theorem wd_1509 : (Jvm.Cond.instanceMethod ({ cls := "HoleWaterModel", name := "term", desc := "()V" } : Jvm.MethodName)) ∈ mh_T := mh_T_in (List.mem_append_right _ (List.mem_of_getElem? (i := 1509) (by decide +kernel))) (by decide +kernel)
set_option maxRecDepth 100000 in
theorem wd_1510 : (Jvm.Cond.code ({ cls := "HoleWaterModel", name := "term", desc := "()V" } : Jvm.MethodName) prog_14_method_58_code (2 : Nat) (Option.none : Option Jvm.ClassFile.FieldType)) ∈ mh_T := mh_T_in (List.mem_append_right _ (List.mem_of_getElem? (i := 1510) (by decide +kernel))) (by decide +kernel)
set_option maxRecDepth 100000 in
theorem wd_1511 : (Jvm.Cond.methodLink "HoleWaterModel" (235 : Nat) ({ cls := "HoleWaterModel", name := "one", desc := "()V" } : Jvm.MethodName)) ∈ mh_T := mh_T_in (List.mem_append_right _ (List.mem_of_getElem? (i := 1511) (by decide +kernel))) (by decide +kernel)
set_option maxRecDepth 100000 in
theorem wd_1513 : (Jvm.Cond.instanceMethod ({ cls := "HoleWaterModel", name := "one", desc := "()V" } : Jvm.MethodName)) ∈ mh_T := mh_T_in (List.mem_append_right _ (List.mem_of_getElem? (i := 1513) (by decide +kernel))) (by decide +kernel)
set_option maxRecDepth 100000 in
theorem wd_1514 : (Jvm.Cond.code ({ cls := "HoleWaterModel", name := "one", desc := "()V" } : Jvm.MethodName) prog_14_method_57_code (4 : Nat) (Option.none : Option Jvm.ClassFile.FieldType)) ∈ mh_T := mh_T_in (List.mem_append_right _ (List.mem_of_getElem? (i := 1514) (by decide +kernel))) (by decide +kernel)
set_option maxRecDepth 100000 in
theorem wd_1515 : (Jvm.Cond.methodLink "HoleWaterModel" (207 : Nat) ({ cls := "HoleWaterModel", name := "here", desc := "()I" } : Jvm.MethodName)) ∈ mh_T := mh_T_in (List.mem_append_right _ (List.mem_of_getElem? (i := 1515) (by decide +kernel))) (by decide +kernel)
set_option maxRecDepth 100000 in
theorem wd_1517 : (Jvm.Cond.instanceMethod ({ cls := "HoleWaterModel", name := "here", desc := "()I" } : Jvm.MethodName)) ∈ mh_T := mh_T_in (List.mem_append_right _ (List.mem_of_getElem? (i := 1517) (by decide +kernel))) (by decide +kernel)
set_option maxRecDepth 100000 in
theorem wd_1518 : (Jvm.Cond.code ({ cls := "HoleWaterModel", name := "here", desc := "()I" } : Jvm.MethodName) prog_14_method_53_code (1 : Nat) (Option.some Jvm.ClassFile.FieldType.int)) ∈ mh_T := mh_T_in (List.mem_append_right _ (List.mem_of_getElem? (i := 1518) (by decide +kernel))) (by decide +kernel)
set_option maxRecDepth 100000 in
theorem wd_1519 : (Jvm.Cond.constantLong "HoleWaterModel" (214 : Nat) (48 : Int64)) ∈ mh_T := mh_T_in (List.mem_append_right _ (List.mem_of_getElem? (i := 1519) (by decide +kernel))) (by decide +kernel)
set_option maxRecDepth 100000 in
theorem wd_1520 : (Jvm.Cond.constantLong "HoleWaterModel" (216 : Nat) (57 : Int64)) ∈ mh_T := mh_T_in (List.mem_append_right _ (List.mem_of_getElem? (i := 1520) (by decide +kernel))) (by decide +kernel)
set_option maxRecDepth 100000 in
theorem wd_1521 : (Jvm.Cond.methodLink "HoleWaterModel" (218 : Nat) ({ cls := "HoleWaterModel", name := "puts", desc := "(I)V" } : Jvm.MethodName)) ∈ mh_T := mh_T_in (List.mem_append_right _ (List.mem_of_getElem? (i := 1521) (by decide +kernel))) (by decide +kernel)
set_option maxRecDepth 100000 in
theorem wd_1523 : (Jvm.Cond.instanceMethod ({ cls := "HoleWaterModel", name := "puts", desc := "(I)V" } : Jvm.MethodName)) ∈ mh_T := mh_T_in (List.mem_append_right _ (List.mem_of_getElem? (i := 1523) (by decide +kernel))) (by decide +kernel)
set_option maxRecDepth 100000 in
theorem wd_1524 : (Jvm.Cond.code ({ cls := "HoleWaterModel", name := "puts", desc := "(I)V" } : Jvm.MethodName) prog_14_method_55_code (2 : Nat) (Option.none : Option Jvm.ClassFile.FieldType)) ∈ mh_T := mh_T_in (List.mem_append_right _ (List.mem_of_getElem? (i := 1524) (by decide +kernel))) (by decide +kernel)
set_option maxRecDepth 100000 in
theorem wd_1525 : (Jvm.Cond.methodLink "HoleWaterModel" (223 : Nat) ({ cls := "HoleWaterModel", name := "nameOf", desc := "(II)I" } : Jvm.MethodName)) ∈ mh_T := mh_T_in (List.mem_append_right _ (List.mem_of_getElem? (i := 1525) (by decide +kernel))) (by decide +kernel)
set_option maxRecDepth 100000 in
theorem wd_1526 : (Jvm.Cond.static ({ cls := "HoleWaterModel", name := "nameOf", desc := "(II)I" } : Jvm.MethodName)) ∈ mh_T := mh_T_in (List.mem_append_right _ (List.mem_of_getElem? (i := 1526) (by decide +kernel))) (by decide +kernel)
set_option maxRecDepth 100000 in
theorem wd_1527 : (Jvm.Cond.code ({ cls := "HoleWaterModel", name := "nameOf", desc := "(II)I" } : Jvm.MethodName) prog_14_method_56_code (2 : Nat) (Option.some Jvm.ClassFile.FieldType.int)) ∈ mh_T := mh_T_in (List.mem_append_right _ (List.mem_of_getElem? (i := 1527) (by decide +kernel))) (by decide +kernel)
set_option maxRecDepth 100000 in
theorem wd_1528 : (Jvm.Cond.methodLink "HoleWaterModel" (232 : Nat) ({ cls := "HoleWaterModel", name := "takes", desc := "(C)Z" } : Jvm.MethodName)) ∈ mh_T := mh_T_in (List.mem_append_right _ (List.mem_of_getElem? (i := 1528) (by decide +kernel))) (by decide +kernel)
set_option maxRecDepth 100000 in
theorem wd_1530 : (Jvm.Cond.instanceMethod ({ cls := "HoleWaterModel", name := "takes", desc := "(C)Z" } : Jvm.MethodName)) ∈ mh_T := mh_T_in (List.mem_append_right _ (List.mem_of_getElem? (i := 1530) (by decide +kernel))) (by decide +kernel)
set_option maxRecDepth 100000 in
theorem wd_1531 : (Jvm.Cond.code ({ cls := "HoleWaterModel", name := "takes", desc := "(C)Z" } : Jvm.MethodName) prog_14_method_54_code (2 : Nat) (Option.some Jvm.ClassFile.FieldType.boolean)) ∈ mh_T := mh_T_in (List.mem_append_right _ (List.mem_of_getElem? (i := 1531) (by decide +kernel))) (by decide +kernel)
set_option maxRecDepth 100000 in
theorem wd_1532 : (Jvm.Cond.methodLink "HoleWaterModel" (244 : Nat) ({ cls := "HoleWaterModel", name := "test", desc := "()V" } : Jvm.MethodName)) ∈ mh_T := mh_T_in (List.mem_append_right _ (List.mem_of_getElem? (i := 1532) (by decide +kernel))) (by decide +kernel)
set_option maxRecDepth 100000 in
theorem wd_1534 : (Jvm.Cond.instanceMethod ({ cls := "HoleWaterModel", name := "test", desc := "()V" } : Jvm.MethodName)) ∈ mh_T := mh_T_in (List.mem_append_right _ (List.mem_of_getElem? (i := 1534) (by decide +kernel))) (by decide +kernel)
set_option maxRecDepth 100000 in
theorem wd_1535 : (Jvm.Cond.code ({ cls := "HoleWaterModel", name := "test", desc := "()V" } : Jvm.MethodName) prog_14_method_60_code (2 : Nat) (Option.none : Option Jvm.ClassFile.FieldType)) ∈ mh_T := mh_T_in (List.mem_append_right _ (List.mem_of_getElem? (i := 1535) (by decide +kernel))) (by decide +kernel)
set_option maxRecDepth 100000 in
theorem wd_1536 : (Jvm.Cond.methodLink "HoleWaterLaw" (106 : Nat) ({ cls := "HoleWaterModel", name := "rain", desc := "(I)I" } : Jvm.MethodName)) ∈ mh_T := mh_T_in (List.mem_append_right _ (List.mem_of_getElem? (i := 1536) (by decide +kernel))) (by decide +kernel)
set_option maxRecDepth 100000 in
theorem wd_1537 : (Jvm.Cond.instanceMethod ({ cls := "HoleWaterModel", name := "rain", desc := "(I)I" } : Jvm.MethodName)) ∈ mh_T := mh_T_in (List.mem_append_right _ (List.mem_of_getElem? (i := 1537) (by decide +kernel))) (by decide +kernel)
set_option maxRecDepth 100000 in
theorem wd_1538 : (Jvm.Cond.selects "HoleWaterModel" ({ cls := "HoleWaterModel", name := "rain", desc := "(I)I" } : Jvm.MethodName) ({ cls := "HoleWaterModel", name := "rain", desc := "(I)I" } : Jvm.MethodName)) ∈ mh_T := mh_T_in (List.mem_append_right _ (List.mem_of_getElem? (i := 1538) (by decide +kernel))) (by decide +kernel)
set_option maxRecDepth 100000 in
theorem wd_1539 : (Jvm.Cond.code ({ cls := "HoleWaterModel", name := "rain", desc := "(I)I" } : Jvm.MethodName) prog_14_method_68_code (2 : Nat) (Option.some Jvm.ClassFile.FieldType.int)) ∈ mh_T := mh_T_in (List.mem_append_right _ (List.mem_of_getElem? (i := 1539) (by decide +kernel))) (by decide +kernel)
set_option maxRecDepth 100000 in
theorem wd_1540 : (Jvm.Cond.methodLink "HoleWaterLaw" (110 : Nat) ({ cls := "HoleWaterModel", name := "seen", desc := "(III)I" } : Jvm.MethodName)) ∈ mh_T := mh_T_in (List.mem_append_right _ (List.mem_of_getElem? (i := 1540) (by decide +kernel))) (by decide +kernel)
set_option maxRecDepth 100000 in
theorem wd_1541 : (Jvm.Cond.instanceMethod ({ cls := "HoleWaterModel", name := "seen", desc := "(III)I" } : Jvm.MethodName)) ∈ mh_T := mh_T_in (List.mem_append_right _ (List.mem_of_getElem? (i := 1541) (by decide +kernel))) (by decide +kernel)
set_option maxRecDepth 100000 in
theorem wd_1542 : (Jvm.Cond.selects "HoleWaterModel" ({ cls := "HoleWaterModel", name := "seen", desc := "(III)I" } : Jvm.MethodName) ({ cls := "HoleWaterModel", name := "seen", desc := "(III)I" } : Jvm.MethodName)) ∈ mh_T := mh_T_in (List.mem_append_right _ (List.mem_of_getElem? (i := 1542) (by decide +kernel))) (by decide +kernel)
set_option maxRecDepth 100000 in
theorem wd_1543 : (Jvm.Cond.code ({ cls := "HoleWaterModel", name := "seen", desc := "(III)I" } : Jvm.MethodName) prog_14_method_70_code (4 : Nat) (Option.some Jvm.ClassFile.FieldType.int)) ∈ mh_T := mh_T_in (List.mem_append_right _ (List.mem_of_getElem? (i := 1543) (by decide +kernel))) (by decide +kernel)
set_option maxRecDepth 100000 in
theorem wd_1544 : (Jvm.Cond.methodLink "HoleWaterModel" (262 : Nat) ({ cls := "HoleWaterModel", name := "seenOf", desc := "(III)I" } : Jvm.MethodName)) ∈ mh_T := mh_T_in (List.mem_append_right _ (List.mem_of_getElem? (i := 1544) (by decide +kernel))) (by decide +kernel)
set_option maxRecDepth 100000 in
theorem wd_1546 : (Jvm.Cond.instanceMethod ({ cls := "HoleWaterModel", name := "seenOf", desc := "(III)I" } : Jvm.MethodName)) ∈ mh_T := mh_T_in (List.mem_append_right _ (List.mem_of_getElem? (i := 1546) (by decide +kernel))) (by decide +kernel)
set_option maxRecDepth 100000 in
theorem wd_1547 : (Jvm.Cond.code ({ cls := "HoleWaterModel", name := "seenOf", desc := "(III)I" } : Jvm.MethodName) prog_14_method_69_code (4 : Nat) (Option.some Jvm.ClassFile.FieldType.int)) ∈ mh_T := mh_T_in (List.mem_append_right _ (List.mem_of_getElem? (i := 1547) (by decide +kernel))) (by decide +kernel)
set_option maxRecDepth 100000 in
theorem wd_1548 : (Jvm.Cond.methodLink "HoleWaterLaw" (114 : Nat) ({ cls := "HoleWaterModel", name := "bottle", desc := "(II)I" } : Jvm.MethodName)) ∈ mh_T := mh_T_in (List.mem_append_right _ (List.mem_of_getElem? (i := 1548) (by decide +kernel))) (by decide +kernel)
set_option maxRecDepth 100000 in
theorem wd_1549 : (Jvm.Cond.instanceMethod ({ cls := "HoleWaterModel", name := "bottle", desc := "(II)I" } : Jvm.MethodName)) ∈ mh_T := mh_T_in (List.mem_append_right _ (List.mem_of_getElem? (i := 1549) (by decide +kernel))) (by decide +kernel)
set_option maxRecDepth 100000 in
theorem wd_1550 : (Jvm.Cond.selects "HoleWaterModel" ({ cls := "HoleWaterModel", name := "bottle", desc := "(II)I" } : Jvm.MethodName) ({ cls := "HoleWaterModel", name := "bottle", desc := "(II)I" } : Jvm.MethodName)) ∈ mh_T := mh_T_in (List.mem_append_right _ (List.mem_of_getElem? (i := 1550) (by decide +kernel))) (by decide +kernel)
set_option maxRecDepth 100000 in
theorem wd_1551 : (Jvm.Cond.code ({ cls := "HoleWaterModel", name := "bottle", desc := "(II)I" } : Jvm.MethodName) prog_14_method_72_code (4 : Nat) (Option.some Jvm.ClassFile.FieldType.int)) ∈ mh_T := mh_T_in (List.mem_append_right _ (List.mem_of_getElem? (i := 1551) (by decide +kernel))) (by decide +kernel)
set_option maxRecDepth 100000 in
theorem wd_1552 : (Jvm.Cond.methodLink "HoleWaterModel" (265 : Nat) ({ cls := "HoleWaterModel", name := "looks", desc := "(IIII)Z" } : Jvm.MethodName)) ∈ mh_T := mh_T_in (List.mem_append_right _ (List.mem_of_getElem? (i := 1552) (by decide +kernel))) (by decide +kernel)
set_option maxRecDepth 100000 in
theorem wd_1554 : (Jvm.Cond.instanceMethod ({ cls := "HoleWaterModel", name := "looks", desc := "(IIII)Z" } : Jvm.MethodName)) ∈ mh_T := mh_T_in (List.mem_append_right _ (List.mem_of_getElem? (i := 1554) (by decide +kernel))) (by decide +kernel)
set_option maxRecDepth 100000 in
theorem wd_1555 : (Jvm.Cond.code ({ cls := "HoleWaterModel", name := "looks", desc := "(IIII)Z" } : Jvm.MethodName) prog_14_method_71_code (7 : Nat) (Option.some Jvm.ClassFile.FieldType.boolean)) ∈ mh_T := mh_T_in (List.mem_append_right _ (List.mem_of_getElem? (i := 1555) (by decide +kernel))) (by decide +kernel)
set_option maxRecDepth 100000 in
theorem wd_1556 : (Jvm.Cond.methodLink "HoleWaterLaw" (118 : Nat) ({ cls := "HoleWaterModel", name := "bag", desc := "(III)I" } : Jvm.MethodName)) ∈ mh_T := mh_T_in (List.mem_append_right _ (List.mem_of_getElem? (i := 1556) (by decide +kernel))) (by decide +kernel)
set_option maxRecDepth 100000 in
theorem wd_1557 : (Jvm.Cond.instanceMethod ({ cls := "HoleWaterModel", name := "bag", desc := "(III)I" } : Jvm.MethodName)) ∈ mh_T := mh_T_in (List.mem_append_right _ (List.mem_of_getElem? (i := 1557) (by decide +kernel))) (by decide +kernel)
set_option maxRecDepth 100000 in
theorem wd_1558 : (Jvm.Cond.selects "HoleWaterModel" ({ cls := "HoleWaterModel", name := "bag", desc := "(III)I" } : Jvm.MethodName) ({ cls := "HoleWaterModel", name := "bag", desc := "(III)I" } : Jvm.MethodName)) ∈ mh_T := mh_T_in (List.mem_append_right _ (List.mem_of_getElem? (i := 1558) (by decide +kernel))) (by decide +kernel)
set_option maxRecDepth 100000 in
theorem wd_1559 : (Jvm.Cond.code ({ cls := "HoleWaterModel", name := "bag", desc := "(III)I" } : Jvm.MethodName) prog_14_method_73_code (6 : Nat) (Option.some Jvm.ClassFile.FieldType.int)) ∈ mh_T := mh_T_in (List.mem_append_right _ (List.mem_of_getElem? (i := 1559) (by decide +kernel))) (by decide +kernel)
set_option maxRecDepth 100000 in
theorem wd_1560 : (Jvm.Cond.methodLink "HoleWaterLaw" (122 : Nat) ({ cls := "HoleWaterModel", name := "lookIs", desc := "(II)I" } : Jvm.MethodName)) ∈ mh_T := mh_T_in (List.mem_append_right _ (List.mem_of_getElem? (i := 1560) (by decide +kernel))) (by decide +kernel)
set_option maxRecDepth 100000 in
theorem wd_1561 : (Jvm.Cond.instanceMethod ({ cls := "HoleWaterModel", name := "lookIs", desc := "(II)I" } : Jvm.MethodName)) ∈ mh_T := mh_T_in (List.mem_append_right _ (List.mem_of_getElem? (i := 1561) (by decide +kernel))) (by decide +kernel)
