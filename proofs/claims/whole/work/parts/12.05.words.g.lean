set_option maxRecDepth 100000 in
theorem wd_1246 : (Jvm.Cond.constantLong "HoleWaterModel" (78 : Nat) (99 : Int64)) ∈ mh_T := mh_T_in (List.mem_append_right _ (List.mem_of_getElem? (i := 1246) (by decide +kernel))) (by decide +kernel)
set_option maxRecDepth 100000 in
theorem wd_1247 : (Jvm.Cond.methodLink "HoleWaterModel" (80 : Nat) ({ cls := "HoleWaterModel", name := "error", desc := "(I)I" } : Jvm.MethodName)) ∈ mh_T := mh_T_in (List.mem_append_right _ (List.mem_of_getElem? (i := 1247) (by decide +kernel))) (by decide +kernel)
set_option maxRecDepth 100000 in
theorem wd_1249 : (Jvm.Cond.instanceMethod ({ cls := "HoleWaterModel", name := "error", desc := "(I)I" } : Jvm.MethodName)) ∈ mh_T := mh_T_in (List.mem_append_right _ (List.mem_of_getElem? (i := 1249) (by decide +kernel))) (by decide +kernel)
set_option maxRecDepth 100000 in
theorem wd_1250 : (Jvm.Cond.code ({ cls := "HoleWaterModel", name := "error", desc := "(I)I" } : Jvm.MethodName) prog_14_method_2_code (2 : Nat) (Option.some Jvm.ClassFile.FieldType.int)) ∈ mh_T := mh_T_in (List.mem_append_right _ (List.mem_of_getElem? (i := 1250) (by decide +kernel))) (by decide +kernel)
set_option maxRecDepth 100000 in
theorem wd_1251 : (Jvm.Cond.constant "HoleWaterModel" (64 : Nat) (-1000000 : Int32)) ∈ mh_T := mh_T_in (List.mem_append_right _ (List.mem_of_getElem? (i := 1251) (by decide +kernel))) (by decide +kernel)
set_option maxRecDepth 100000 in
theorem wd_1252 : (Jvm.Cond.methodLink "HoleWaterModel" (71 : Nat) ({ cls := "HoleWaterModel", name := "joint", desc := "(I)I" } : Jvm.MethodName)) ∈ mh_T := mh_T_in (List.mem_append_right _ (List.mem_of_getElem? (i := 1252) (by decide +kernel))) (by decide +kernel)
set_option maxRecDepth 100000 in
theorem wd_1253 : (Jvm.Cond.static ({ cls := "HoleWaterModel", name := "joint", desc := "(I)I" } : Jvm.MethodName)) ∈ mh_T := mh_T_in (List.mem_append_right _ (List.mem_of_getElem? (i := 1253) (by decide +kernel))) (by decide +kernel)
set_option maxRecDepth 100000 in
theorem wd_1254 : (Jvm.Cond.code ({ cls := "HoleWaterModel", name := "joint", desc := "(I)I" } : Jvm.MethodName) prog_14_method_7_code (1 : Nat) (Option.some Jvm.ClassFile.FieldType.int)) ∈ mh_T := mh_T_in (List.mem_append_right _ (List.mem_of_getElem? (i := 1254) (by decide +kernel))) (by decide +kernel)
set_option maxRecDepth 100000 in
theorem wd_1258 : (Jvm.Cond.code ({ cls := "HoleWaterModel", name := "jointIs", desc := "(II)I" } : Jvm.MethodName) prog_14_method_14_code (3 : Nat) (Option.some Jvm.ClassFile.FieldType.int)) ∈ mh_T := mh_T_in (List.mem_append_right _ (List.mem_of_getElem? (i := 1258) (by decide +kernel))) (by decide +kernel)
set_option maxRecDepth 100000 in
theorem wd_1259 : (Jvm.Cond.methodLink "HoleWaterModel" (83 : Nat) ({ cls := "HoleWaterModel", name := "isJoint", desc := "(I)Z" } : Jvm.MethodName)) ∈ mh_T := mh_T_in (List.mem_append_right _ (List.mem_of_getElem? (i := 1259) (by decide +kernel))) (by decide +kernel)
set_option maxRecDepth 100000 in
theorem wd_1261 : (Jvm.Cond.instanceMethod ({ cls := "HoleWaterModel", name := "isJoint", desc := "(I)Z" } : Jvm.MethodName)) ∈ mh_T := mh_T_in (List.mem_append_right _ (List.mem_of_getElem? (i := 1261) (by decide +kernel))) (by decide +kernel)
set_option maxRecDepth 100000 in
theorem wd_1262 : (Jvm.Cond.code ({ cls := "HoleWaterModel", name := "isJoint", desc := "(I)Z" } : Jvm.MethodName) prog_14_method_4_code (2 : Nat) (Option.some Jvm.ClassFile.FieldType.boolean)) ∈ mh_T := mh_T_in (List.mem_append_right _ (List.mem_of_getElem? (i := 1262) (by decide +kernel))) (by decide +kernel)
set_option maxRecDepth 100000 in
theorem wd_1263 : (Jvm.Cond.constantLong "HoleWaterModel" (87 : Nat) (6 : Int64)) ∈ mh_T := mh_T_in (List.mem_append_right _ (List.mem_of_getElem? (i := 1263) (by decide +kernel))) (by decide +kernel)
set_option maxRecDepth 100000 in
theorem wd_1267 : (Jvm.Cond.code ({ cls := "HoleWaterModel", name := "way", desc := "(IIII)I" } : Jvm.MethodName) prog_14_method_15_code (10 : Nat) (Option.some Jvm.ClassFile.FieldType.int)) ∈ mh_T := mh_T_in (List.mem_append_right _ (List.mem_of_getElem? (i := 1267) (by decide +kernel))) (by decide +kernel)
set_option maxRecDepth 100000 in
theorem wd_1268 : (Jvm.Cond.constantLong "HoleWaterModel" (89 : Nat) (5 : Int64)) ∈ mh_T := mh_T_in (List.mem_append_right _ (List.mem_of_getElem? (i := 1268) (by decide +kernel))) (by decide +kernel)
set_option maxRecDepth 100000 in
theorem wd_1269 : (Jvm.Cond.constantLong "HoleWaterModel" (91 : Nat) (20 : Int64)) ∈ mh_T := mh_T_in (List.mem_append_right _ (List.mem_of_getElem? (i := 1269) (by decide +kernel))) (by decide +kernel)
set_option maxRecDepth 100000 in
theorem wd_1270 : (Jvm.Cond.methodLink "HoleWaterModel" (93 : Nat) ({ cls := "HoleWaterModel", name := "isEnd", desc := "(I)Z" } : Jvm.MethodName)) ∈ mh_T := mh_T_in (List.mem_append_right _ (List.mem_of_getElem? (i := 1270) (by decide +kernel))) (by decide +kernel)
set_option maxRecDepth 100000 in
theorem wd_1272 : (Jvm.Cond.instanceMethod ({ cls := "HoleWaterModel", name := "isEnd", desc := "(I)Z" } : Jvm.MethodName)) ∈ mh_T := mh_T_in (List.mem_append_right _ (List.mem_of_getElem? (i := 1272) (by decide +kernel))) (by decide +kernel)
set_option maxRecDepth 100000 in
theorem wd_1273 : (Jvm.Cond.code ({ cls := "HoleWaterModel", name := "isEnd", desc := "(I)Z" } : Jvm.MethodName) prog_14_method_12_code (2 : Nat) (Option.some Jvm.ClassFile.FieldType.boolean)) ∈ mh_T := mh_T_in (List.mem_append_right _ (List.mem_of_getElem? (i := 1273) (by decide +kernel))) (by decide +kernel)
set_option maxRecDepth 100000 in
theorem wd_1274 : (Jvm.Cond.methodLink "HoleWaterModel" (75 : Nat) ({ cls := "HoleWaterModel", name := "sort", desc := "(I)I" } : Jvm.MethodName)) ∈ mh_T := mh_T_in (List.mem_append_right _ (List.mem_of_getElem? (i := 1274) (by decide +kernel))) (by decide +kernel)
set_option maxRecDepth 100000 in
theorem wd_1276 : (Jvm.Cond.instanceMethod ({ cls := "HoleWaterModel", name := "sort", desc := "(I)I" } : Jvm.MethodName)) ∈ mh_T := mh_T_in (List.mem_append_right _ (List.mem_of_getElem? (i := 1276) (by decide +kernel))) (by decide +kernel)
set_option maxRecDepth 100000 in
theorem wd_1277 : (Jvm.Cond.code ({ cls := "HoleWaterModel", name := "sort", desc := "(I)I" } : Jvm.MethodName) prog_14_method_9_code (2 : Nat) (Option.some Jvm.ClassFile.FieldType.int)) ∈ mh_T := mh_T_in (List.mem_append_right _ (List.mem_of_getElem? (i := 1277) (by decide +kernel))) (by decide +kernel)
set_option maxRecDepth 100000 in
theorem wd_1278 : (Jvm.Cond.methodLink "HoleWaterModel" (96 : Nat) ({ cls := "HoleWaterModel", name := "isHole", desc := "(I)Z" } : Jvm.MethodName)) ∈ mh_T := mh_T_in (List.mem_append_right _ (List.mem_of_getElem? (i := 1278) (by decide +kernel))) (by decide +kernel)
set_option maxRecDepth 100000 in
theorem wd_1280 : (Jvm.Cond.instanceMethod ({ cls := "HoleWaterModel", name := "isHole", desc := "(I)Z" } : Jvm.MethodName)) ∈ mh_T := mh_T_in (List.mem_append_right _ (List.mem_of_getElem? (i := 1280) (by decide +kernel))) (by decide +kernel)
set_option maxRecDepth 100000 in
theorem wd_1281 : (Jvm.Cond.code ({ cls := "HoleWaterModel", name := "isHole", desc := "(I)Z" } : Jvm.MethodName) prog_14_method_10_code (2 : Nat) (Option.some Jvm.ClassFile.FieldType.boolean)) ∈ mh_T := mh_T_in (List.mem_append_right _ (List.mem_of_getElem? (i := 1281) (by decide +kernel))) (by decide +kernel)
set_option maxRecDepth 100000 in
theorem wd_1282 : (Jvm.Cond.methodLink "HoleWaterModel" (99 : Nat) ({ cls := "HoleWaterModel", name := "way", desc := "(I)I" } : Jvm.MethodName)) ∈ mh_T := mh_T_in (List.mem_append_right _ (List.mem_of_getElem? (i := 1282) (by decide +kernel))) (by decide +kernel)
set_option maxRecDepth 100000 in
theorem wd_1283 : (Jvm.Cond.static ({ cls := "HoleWaterModel", name := "way", desc := "(I)I" } : Jvm.MethodName)) ∈ mh_T := mh_T_in (List.mem_append_right _ (List.mem_of_getElem? (i := 1283) (by decide +kernel))) (by decide +kernel)
set_option maxRecDepth 100000 in
theorem wd_1284 : (Jvm.Cond.code ({ cls := "HoleWaterModel", name := "way", desc := "(I)I" } : Jvm.MethodName) prog_14_method_8_code (1 : Nat) (Option.some Jvm.ClassFile.FieldType.int)) ∈ mh_T := mh_T_in (List.mem_append_right _ (List.mem_of_getElem? (i := 1284) (by decide +kernel))) (by decide +kernel)
set_option maxRecDepth 100000 in
theorem wd_1288 : (Jvm.Cond.code ({ cls := "HoleWaterModel", name := "as", desc := "(II)I" } : Jvm.MethodName) prog_14_method_19_code (3 : Nat) (Option.some Jvm.ClassFile.FieldType.int)) ∈ mh_T := mh_T_in (List.mem_append_right _ (List.mem_of_getElem? (i := 1288) (by decide +kernel))) (by decide +kernel)
set_option maxRecDepth 100000 in
theorem wd_1289 : (Jvm.Cond.methodLink "HoleWaterModel" (109 : Nat) ({ cls := "HoleWaterModel", name := "isWay", desc := "(I)Z" } : Jvm.MethodName)) ∈ mh_T := mh_T_in (List.mem_append_right _ (List.mem_of_getElem? (i := 1289) (by decide +kernel))) (by decide +kernel)
set_option maxRecDepth 100000 in
theorem wd_1291 : (Jvm.Cond.instanceMethod ({ cls := "HoleWaterModel", name := "isWay", desc := "(I)Z" } : Jvm.MethodName)) ∈ mh_T := mh_T_in (List.mem_append_right _ (List.mem_of_getElem? (i := 1291) (by decide +kernel))) (by decide +kernel)
set_option maxRecDepth 100000 in
theorem wd_1292 : (Jvm.Cond.code ({ cls := "HoleWaterModel", name := "isWay", desc := "(I)Z" } : Jvm.MethodName) prog_14_method_5_code (2 : Nat) (Option.some Jvm.ClassFile.FieldType.boolean)) ∈ mh_T := mh_T_in (List.mem_append_right _ (List.mem_of_getElem? (i := 1292) (by decide +kernel))) (by decide +kernel)
set_option maxRecDepth 100000 in
theorem wd_1293 : (Jvm.Cond.methodLink "HoleWaterModel" (105 : Nat) ({ cls := "HoleWaterModel", name := "isUnder", desc := "(II)Z" } : Jvm.MethodName)) ∈ mh_T := mh_T_in (List.mem_append_right _ (List.mem_of_getElem? (i := 1293) (by decide +kernel))) (by decide +kernel)
set_option maxRecDepth 100000 in
theorem wd_1294 : (Jvm.Cond.static ({ cls := "HoleWaterModel", name := "isUnder", desc := "(II)Z" } : Jvm.MethodName)) ∈ mh_T := mh_T_in (List.mem_append_right _ (List.mem_of_getElem? (i := 1294) (by decide +kernel))) (by decide +kernel)
set_option maxRecDepth 100000 in
theorem wd_1295 : (Jvm.Cond.code ({ cls := "HoleWaterModel", name := "isUnder", desc := "(II)Z" } : Jvm.MethodName) prog_14_method_17_code (3 : Nat) (Option.some Jvm.ClassFile.FieldType.boolean)) ∈ mh_T := mh_T_in (List.mem_append_right _ (List.mem_of_getElem? (i := 1295) (by decide +kernel))) (by decide +kernel)
set_option maxRecDepth 100000 in
theorem wd_1296 : (Jvm.Cond.methodLink "HoleWaterModel" (102 : Nat) ({ cls := "HoleWaterModel", name := "above", desc := "(I)I" } : Jvm.MethodName)) ∈ mh_T := mh_T_in (List.mem_append_right _ (List.mem_of_getElem? (i := 1296) (by decide +kernel))) (by decide +kernel)
set_option maxRecDepth 100000 in
theorem wd_1297 : (Jvm.Cond.static ({ cls := "HoleWaterModel", name := "above", desc := "(I)I" } : Jvm.MethodName)) ∈ mh_T := mh_T_in (List.mem_append_right _ (List.mem_of_getElem? (i := 1297) (by decide +kernel))) (by decide +kernel)
set_option maxRecDepth 100000 in
theorem wd_1298 : (Jvm.Cond.code ({ cls := "HoleWaterModel", name := "above", desc := "(I)I" } : Jvm.MethodName) prog_14_method_16_code (1 : Nat) (Option.some Jvm.ClassFile.FieldType.int)) ∈ mh_T := mh_T_in (List.mem_append_right _ (List.mem_of_getElem? (i := 1298) (by decide +kernel))) (by decide +kernel)
set_option maxRecDepth 100000 in
theorem wd_1299 : (Jvm.Cond.methodLink "HoleWaterModel" (112 : Nat) ({ cls := "HoleWaterModel", name := "takes", desc := "(I)I" } : Jvm.MethodName)) ∈ mh_T := mh_T_in (List.mem_append_right _ (List.mem_of_getElem? (i := 1299) (by decide +kernel))) (by decide +kernel)
set_option maxRecDepth 100000 in
theorem wd_1301 : (Jvm.Cond.instanceMethod ({ cls := "HoleWaterModel", name := "takes", desc := "(I)I" } : Jvm.MethodName)) ∈ mh_T := mh_T_in (List.mem_append_right _ (List.mem_of_getElem? (i := 1301) (by decide +kernel))) (by decide +kernel)
set_option maxRecDepth 100000 in
theorem wd_1302 : (Jvm.Cond.code ({ cls := "HoleWaterModel", name := "takes", desc := "(I)I" } : Jvm.MethodName) prog_14_method_18_code (4 : Nat) (Option.some Jvm.ClassFile.FieldType.int)) ∈ mh_T := mh_T_in (List.mem_append_right _ (List.mem_of_getElem? (i := 1302) (by decide +kernel))) (by decide +kernel)
set_option maxRecDepth 100000 in
theorem wd_1306 : (Jvm.Cond.code ({ cls := "HoleWaterModel", name := "wayIs", desc := "(II)I" } : Jvm.MethodName) prog_14_method_21_code (3 : Nat) (Option.some Jvm.ClassFile.FieldType.int)) ∈ mh_T := mh_T_in (List.mem_append_right _ (List.mem_of_getElem? (i := 1306) (by decide +kernel))) (by decide +kernel)
set_option maxRecDepth 100000 in
theorem wd_1307 : (Jvm.Cond.methodLink "HoleWaterModel" (115 : Nat) ({ cls := "HoleWaterModel", name := "inWay", desc := "(II)I" } : Jvm.MethodName)) ∈ mh_T := mh_T_in (List.mem_append_right _ (List.mem_of_getElem? (i := 1307) (by decide +kernel))) (by decide +kernel)
set_option maxRecDepth 100000 in
theorem wd_1309 : (Jvm.Cond.instanceMethod ({ cls := "HoleWaterModel", name := "inWay", desc := "(II)I" } : Jvm.MethodName)) ∈ mh_T := mh_T_in (List.mem_append_right _ (List.mem_of_getElem? (i := 1309) (by decide +kernel))) (by decide +kernel)
set_option maxRecDepth 100000 in
theorem wd_1310 : (Jvm.Cond.code ({ cls := "HoleWaterModel", name := "inWay", desc := "(II)I" } : Jvm.MethodName) prog_14_method_20_code (5 : Nat) (Option.some Jvm.ClassFile.FieldType.int)) ∈ mh_T := mh_T_in (List.mem_append_right _ (List.mem_of_getElem? (i := 1310) (by decide +kernel))) (by decide +kernel)
set_option maxRecDepth 100000 in
theorem wd_1314 : (Jvm.Cond.code ({ cls := "HoleWaterModel", name := "hangs", desc := "(IZ)I" } : Jvm.MethodName) prog_14_method_23_code (5 : Nat) (Option.some Jvm.ClassFile.FieldType.int)) ∈ mh_T := mh_T_in (List.mem_append_right _ (List.mem_of_getElem? (i := 1314) (by decide +kernel))) (by decide +kernel)
set_option maxRecDepth 100000 in
theorem wd_1315 : (Jvm.Cond.methodLink "HoleWaterModel" (119 : Nat) ({ cls := "HoleWaterModel", name := "findFar", desc := "(IZ)V" } : Jvm.MethodName)) ∈ mh_T := mh_T_in (List.mem_append_right _ (List.mem_of_getElem? (i := 1315) (by decide +kernel))) (by decide +kernel)
set_option maxRecDepth 100000 in
theorem wd_1317 : (Jvm.Cond.instanceMethod ({ cls := "HoleWaterModel", name := "findFar", desc := "(IZ)V" } : Jvm.MethodName)) ∈ mh_T := mh_T_in (List.mem_append_right _ (List.mem_of_getElem? (i := 1317) (by decide +kernel))) (by decide +kernel)
set_option maxRecDepth 100000 in
theorem wd_1318 : (Jvm.Cond.code ({ cls := "HoleWaterModel", name := "findFar", desc := "(IZ)V" } : Jvm.MethodName) prog_14_method_22_code (9 : Nat) (Option.none : Option Jvm.ClassFile.FieldType)) ∈ mh_T := mh_T_in (List.mem_append_right _ (List.mem_of_getElem? (i := 1318) (by decide +kernel))) (by decide +kernel)
set_option maxRecDepth 100000 in
theorem wd_1322 : (Jvm.Cond.code ({ cls := "HoleWaterModel", name := "quick", desc := "(II)I" } : Jvm.MethodName) prog_14_method_24_code (3 : Nat) (Option.some Jvm.ClassFile.FieldType.int)) ∈ mh_T := mh_T_in (List.mem_append_right _ (List.mem_of_getElem? (i := 1322) (by decide +kernel))) (by decide +kernel)
set_option maxRecDepth 100000 in
theorem wd_1326 : (Jvm.Cond.code ({ cls := "HoleWaterModel", name := "flood", desc := "(Z)I" } : Jvm.MethodName) prog_14_method_34_code (3 : Nat) (Option.some Jvm.ClassFile.FieldType.int)) ∈ mh_T := mh_T_in (List.mem_append_right _ (List.mem_of_getElem? (i := 1326) (by decide +kernel))) (by decide +kernel)
set_option maxRecDepth 100000 in
theorem wd_1330 : (Jvm.Cond.code ({ cls := "HoleWaterModel", name := "fade", desc := "(II)I" } : Jvm.MethodName) prog_14_method_35_code (4 : Nat) (Option.some Jvm.ClassFile.FieldType.int)) ∈ mh_T := mh_T_in (List.mem_append_right _ (List.mem_of_getElem? (i := 1330) (by decide +kernel))) (by decide +kernel)
set_option maxRecDepth 100000 in
theorem wd_1331 : (Jvm.Cond.methodLink "HoleWaterModel" (155 : Nat) ({ cls := "HoleWaterModel", name := "isColour", desc := "(I)Z" } : Jvm.MethodName)) ∈ mh_T := mh_T_in (List.mem_append_right _ (List.mem_of_getElem? (i := 1331) (by decide +kernel))) (by decide +kernel)
set_option maxRecDepth 100000 in
theorem wd_1332 : (Jvm.Cond.static ({ cls := "HoleWaterModel", name := "isColour", desc := "(I)Z" } : Jvm.MethodName)) ∈ mh_T := mh_T_in (List.mem_append_right _ (List.mem_of_getElem? (i := 1332) (by decide +kernel))) (by decide +kernel)
set_option maxRecDepth 100000 in
theorem wd_1333 : (Jvm.Cond.code ({ cls := "HoleWaterModel", name := "isColour", desc := "(I)Z" } : Jvm.MethodName) prog_14_method_6_code (1 : Nat) (Option.some Jvm.ClassFile.FieldType.boolean)) ∈ mh_T := mh_T_in (List.mem_append_right _ (List.mem_of_getElem? (i := 1333) (by decide +kernel))) (by decide +kernel)
set_option maxRecDepth 100000 in
theorem wd_1337 : (Jvm.Cond.code ({ cls := "HoleWaterModel", name := "hours", desc := "(I)I" } : Jvm.MethodName) prog_14_method_36_code (3 : Nat) (Option.some Jvm.ClassFile.FieldType.int)) ∈ mh_T := mh_T_in (List.mem_append_right _ (List.mem_of_getElem? (i := 1337) (by decide +kernel))) (by decide +kernel)
set_option maxRecDepth 100000 in
theorem wd_1338 : (Jvm.Cond.constantLong "HoleWaterModel" (158 : Nat) (60 : Int64)) ∈ mh_T := mh_T_in (List.mem_append_right _ (List.mem_of_getElem? (i := 1338) (by decide +kernel))) (by decide +kernel)
set_option maxRecDepth 100000 in
theorem wd_1339 : (Jvm.Cond.methodLink "HoleWaterModel" (160 : Nat) ({ cls := "HoleWaterModel", name := "hour", desc := "()V" } : Jvm.MethodName)) ∈ mh_T := mh_T_in (List.mem_append_right _ (List.mem_of_getElem? (i := 1339) (by decide +kernel))) (by decide +kernel)
set_option maxRecDepth 100000 in
theorem wd_1341 : (Jvm.Cond.instanceMethod ({ cls := "HoleWaterModel", name := "hour", desc := "()V" } : Jvm.MethodName)) ∈ mh_T := mh_T_in (List.mem_append_right _ (List.mem_of_getElem? (i := 1341) (by decide +kernel))) (by decide +kernel)
set_option maxRecDepth 100000 in
theorem wd_1342 : (Jvm.Cond.code ({ cls := "HoleWaterModel", name := "hour", desc := "()V" } : Jvm.MethodName) prog_14_method_33_code (2 : Nat) (Option.none : Option Jvm.ClassFile.FieldType)) ∈ mh_T := mh_T_in (List.mem_append_right _ (List.mem_of_getElem? (i := 1342) (by decide +kernel))) (by decide +kernel)
set_option maxRecDepth 100000 in
theorem wd_1343 : (Jvm.Cond.methodLink "HoleWaterModel" (142 : Nat) ({ cls := "HoleWaterModel", name := "comesOut", desc := "(I)V" } : Jvm.MethodName)) ∈ mh_T := mh_T_in (List.mem_append_right _ (List.mem_of_getElem? (i := 1343) (by decide +kernel))) (by decide +kernel)
set_option maxRecDepth 100000 in
theorem wd_1345 : (Jvm.Cond.instanceMethod ({ cls := "HoleWaterModel", name := "comesOut", desc := "(I)V" } : Jvm.MethodName)) ∈ mh_T := mh_T_in (List.mem_append_right _ (List.mem_of_getElem? (i := 1345) (by decide +kernel))) (by decide +kernel)
set_option maxRecDepth 100000 in
theorem wd_1346 : (Jvm.Cond.code ({ cls := "HoleWaterModel", name := "comesOut", desc := "(I)V" } : Jvm.MethodName) prog_14_method_26_code (11 : Nat) (Option.none : Option Jvm.ClassFile.FieldType)) ∈ mh_T := mh_T_in (List.mem_append_right _ (List.mem_of_getElem? (i := 1346) (by decide +kernel))) (by decide +kernel)
set_option maxRecDepth 100000 in
theorem wd_1347 : (Jvm.Cond.methodLink "HoleWaterModel" (123 : Nat) ({ cls := "HoleWaterModel", name := "stuffAt", desc := "(II)I" } : Jvm.MethodName)) ∈ mh_T := mh_T_in (List.mem_append_right _ (List.mem_of_getElem? (i := 1347) (by decide +kernel))) (by decide +kernel)
set_option maxRecDepth 100000 in
theorem wd_1348 : (Jvm.Cond.static ({ cls := "HoleWaterModel", name := "stuffAt", desc := "(II)I" } : Jvm.MethodName)) ∈ mh_T := mh_T_in (List.mem_append_right _ (List.mem_of_getElem? (i := 1348) (by decide +kernel))) (by decide +kernel)
set_option maxRecDepth 100000 in
theorem wd_1349 : (Jvm.Cond.code ({ cls := "HoleWaterModel", name := "stuffAt", desc := "(II)I" } : Jvm.MethodName) prog_14_method_25_code (2 : Nat) (Option.some Jvm.ClassFile.FieldType.int)) ∈ mh_T := mh_T_in (List.mem_append_right _ (List.mem_of_getElem? (i := 1349) (by decide +kernel))) (by decide +kernel)
set_option maxRecDepth 100000 in
theorem wd_1350 : (Jvm.Cond.methodLink "HoleWaterModel" (146 : Nat) ({ cls := "HoleWaterModel", name := "rainOf", desc := "(I)I" } : Jvm.MethodName)) ∈ mh_T := mh_T_in (List.mem_append_right _ (List.mem_of_getElem? (i := 1350) (by decide +kernel))) (by decide +kernel)
set_option maxRecDepth 100000 in
theorem wd_1352 : (Jvm.Cond.instanceMethod ({ cls := "HoleWaterModel", name := "rainOf", desc := "(I)I" } : Jvm.MethodName)) ∈ mh_T := mh_T_in (List.mem_append_right _ (List.mem_of_getElem? (i := 1352) (by decide +kernel))) (by decide +kernel)
set_option maxRecDepth 100000 in
theorem wd_1353 : (Jvm.Cond.code ({ cls := "HoleWaterModel", name := "rainOf", desc := "(I)I" } : Jvm.MethodName) prog_14_method_67_code (2 : Nat) (Option.some Jvm.ClassFile.FieldType.int)) ∈ mh_T := mh_T_in (List.mem_append_right _ (List.mem_of_getElem? (i := 1353) (by decide +kernel))) (by decide +kernel)
set_option maxRecDepth 100000 in
theorem wd_1354 : (Jvm.Cond.methodLink "HoleWaterModel" (256 : Nat) ({ cls := "HoleWaterModel", name := "says", desc := "(I)I" } : Jvm.MethodName)) ∈ mh_T := mh_T_in (List.mem_append_right _ (List.mem_of_getElem? (i := 1354) (by decide +kernel))) (by decide +kernel)
set_option maxRecDepth 100000 in
theorem wd_1356 : (Jvm.Cond.instanceMethod ({ cls := "HoleWaterModel", name := "says", desc := "(I)I" } : Jvm.MethodName)) ∈ mh_T := mh_T_in (List.mem_append_right _ (List.mem_of_getElem? (i := 1356) (by decide +kernel))) (by decide +kernel)
set_option maxRecDepth 100000 in
theorem wd_1357 : (Jvm.Cond.code ({ cls := "HoleWaterModel", name := "says", desc := "(I)I" } : Jvm.MethodName) prog_14_method_65_code (10 : Nat) (Option.some Jvm.ClassFile.FieldType.int)) ∈ mh_T := mh_T_in (List.mem_append_right _ (List.mem_of_getElem? (i := 1357) (by decide +kernel))) (by decide +kernel)
set_option maxRecDepth 100000 in
theorem wd_1358 : (Jvm.Cond.methodLink "HoleWaterModel" (253 : Nat) ({ cls := "HoleWaterModel", name := "goes", desc := "(III)I" } : Jvm.MethodName)) ∈ mh_T := mh_T_in (List.mem_append_right _ (List.mem_of_getElem? (i := 1358) (by decide +kernel))) (by decide +kernel)
set_option maxRecDepth 100000 in
theorem wd_1360 : (Jvm.Cond.instanceMethod ({ cls := "HoleWaterModel", name := "goes", desc := "(III)I" } : Jvm.MethodName)) ∈ mh_T := mh_T_in (List.mem_append_right _ (List.mem_of_getElem? (i := 1360) (by decide +kernel))) (by decide +kernel)
set_option maxRecDepth 100000 in
theorem wd_1361 : (Jvm.Cond.code ({ cls := "HoleWaterModel", name := "goes", desc := "(III)I" } : Jvm.MethodName) prog_14_method_64_code (7 : Nat) (Option.some Jvm.ClassFile.FieldType.int)) ∈ mh_T := mh_T_in (List.mem_append_right _ (List.mem_of_getElem? (i := 1361) (by decide +kernel))) (by decide +kernel)
set_option maxRecDepth 100000 in
theorem wd_1362 : (Jvm.Cond.methodLink "HoleWaterModel" (250 : Nat) ({ cls := "HoleWaterModel", name := "two", desc := "(III)I" } : Jvm.MethodName)) ∈ mh_T := mh_T_in (List.mem_append_right _ (List.mem_of_getElem? (i := 1362) (by decide +kernel))) (by decide +kernel)
set_option maxRecDepth 100000 in
theorem wd_1363 : (Jvm.Cond.static ({ cls := "HoleWaterModel", name := "two", desc := "(III)I" } : Jvm.MethodName)) ∈ mh_T := mh_T_in (List.mem_append_right _ (List.mem_of_getElem? (i := 1363) (by decide +kernel))) (by decide +kernel)
set_option maxRecDepth 100000 in
theorem wd_1364 : (Jvm.Cond.code ({ cls := "HoleWaterModel", name := "two", desc := "(III)I" } : Jvm.MethodName) prog_14_method_63_code (3 : Nat) (Option.some Jvm.ClassFile.FieldType.int)) ∈ mh_T := mh_T_in (List.mem_append_right _ (List.mem_of_getElem? (i := 1364) (by decide +kernel))) (by decide +kernel)
set_option maxRecDepth 100000 in
theorem wd_1365 : (Jvm.Cond.methodLink "HoleWaterModel" (259 : Nat) ({ cls := "HoleWaterModel", name := "within", desc := "(III)I" } : Jvm.MethodName)) ∈ mh_T := mh_T_in (List.mem_append_right _ (List.mem_of_getElem? (i := 1365) (by decide +kernel))) (by decide +kernel)
set_option maxRecDepth 100000 in
theorem wd_1366 : (Jvm.Cond.static ({ cls := "HoleWaterModel", name := "within", desc := "(III)I" } : Jvm.MethodName)) ∈ mh_T := mh_T_in (List.mem_append_right _ (List.mem_of_getElem? (i := 1366) (by decide +kernel))) (by decide +kernel)
set_option maxRecDepth 100000 in
theorem wd_1367 : (Jvm.Cond.code ({ cls := "HoleWaterModel", name := "within", desc := "(III)I" } : Jvm.MethodName) prog_14_method_66_code (3 : Nat) (Option.some Jvm.ClassFile.FieldType.int)) ∈ mh_T := mh_T_in (List.mem_append_right _ (List.mem_of_getElem? (i := 1367) (by decide +kernel))) (by decide +kernel)
set_option maxRecDepth 100000 in
theorem wd_1368 : (Jvm.Cond.methodLink "HoleWaterModel" (149 : Nat) ({ cls := "HoleWaterModel", name := "rises", desc := "(I)V" } : Jvm.MethodName)) ∈ mh_T := mh_T_in (List.mem_append_right _ (List.mem_of_getElem? (i := 1368) (by decide +kernel))) (by decide +kernel)
set_option maxRecDepth 100000 in
theorem wd_1370 : (Jvm.Cond.instanceMethod ({ cls := "HoleWaterModel", name := "rises", desc := "(I)V" } : Jvm.MethodName)) ∈ mh_T := mh_T_in (List.mem_append_right _ (List.mem_of_getElem? (i := 1370) (by decide +kernel))) (by decide +kernel)
set_option maxRecDepth 100000 in
theorem wd_1371 : (Jvm.Cond.code ({ cls := "HoleWaterModel", name := "rises", desc := "(I)V" } : Jvm.MethodName) prog_14_method_27_code (6 : Nat) (Option.none : Option Jvm.ClassFile.FieldType)) ∈ mh_T := mh_T_in (List.mem_append_right _ (List.mem_of_getElem? (i := 1371) (by decide +kernel))) (by decide +kernel)
set_option maxRecDepth 100000 in
theorem wd_1372 : (Jvm.Cond.methodLink "HoleWaterModel" (126 : Nat) ({ cls := "HoleWaterModel", name := "isSpring", desc := "(I)Z" } : Jvm.MethodName)) ∈ mh_T := mh_T_in (List.mem_append_right _ (List.mem_of_getElem? (i := 1372) (by decide +kernel))) (by decide +kernel)
set_option maxRecDepth 100000 in
theorem wd_1374 : (Jvm.Cond.instanceMethod ({ cls := "HoleWaterModel", name := "isSpring", desc := "(I)Z" } : Jvm.MethodName)) ∈ mh_T := mh_T_in (List.mem_append_right _ (List.mem_of_getElem? (i := 1374) (by decide +kernel))) (by decide +kernel)
set_option maxRecDepth 100000 in
theorem wd_1375 : (Jvm.Cond.code ({ cls := "HoleWaterModel", name := "isSpring", desc := "(I)Z" } : Jvm.MethodName) prog_14_method_11_code (2 : Nat) (Option.some Jvm.ClassFile.FieldType.boolean)) ∈ mh_T := mh_T_in (List.mem_append_right _ (List.mem_of_getElem? (i := 1375) (by decide +kernel))) (by decide +kernel)
set_option maxRecDepth 100000 in
theorem wd_1376 : (Jvm.Cond.methodLink "HoleWaterModel" (152 : Nat) ({ cls := "HoleWaterModel", name := "flows", desc := "(I)V" } : Jvm.MethodName)) ∈ mh_T := mh_T_in (List.mem_append_right _ (List.mem_of_getElem? (i := 1376) (by decide +kernel))) (by decide +kernel)
set_option maxRecDepth 100000 in
theorem wd_1378 : (Jvm.Cond.instanceMethod ({ cls := "HoleWaterModel", name := "flows", desc := "(I)V" } : Jvm.MethodName)) ∈ mh_T := mh_T_in (List.mem_append_right _ (List.mem_of_getElem? (i := 1378) (by decide +kernel))) (by decide +kernel)
set_option maxRecDepth 100000 in
theorem wd_1379 : (Jvm.Cond.code ({ cls := "HoleWaterModel", name := "flows", desc := "(I)V" } : Jvm.MethodName) prog_14_method_32_code (11 : Nat) (Option.none : Option Jvm.ClassFile.FieldType)) ∈ mh_T := mh_T_in (List.mem_append_right _ (List.mem_of_getElem? (i := 1379) (by decide +kernel))) (by decide +kernel)
set_option maxRecDepth 100000 in
theorem wd_1380 : (Jvm.Cond.methodLink "HoleWaterModel" (135 : Nat) ({ cls := "HoleWaterModel", name := "parts", desc := "(I)I" } : Jvm.MethodName)) ∈ mh_T := mh_T_in (List.mem_append_right _ (List.mem_of_getElem? (i := 1380) (by decide +kernel))) (by decide +kernel)
set_option maxRecDepth 100000 in
theorem wd_1382 : (Jvm.Cond.instanceMethod ({ cls := "HoleWaterModel", name := "parts", desc := "(I)I" } : Jvm.MethodName)) ∈ mh_T := mh_T_in (List.mem_append_right _ (List.mem_of_getElem? (i := 1382) (by decide +kernel))) (by decide +kernel)
set_option maxRecDepth 100000 in
theorem wd_1383 : (Jvm.Cond.code ({ cls := "HoleWaterModel", name := "parts", desc := "(I)I" } : Jvm.MethodName) prog_14_method_30_code (6 : Nat) (Option.some Jvm.ClassFile.FieldType.int)) ∈ mh_T := mh_T_in (List.mem_append_right _ (List.mem_of_getElem? (i := 1383) (by decide +kernel))) (by decide +kernel)
set_option maxRecDepth 100000 in
theorem wd_1384 : (Jvm.Cond.methodLink "HoleWaterModel" (129 : Nat) ({ cls := "HoleWaterModel", name := "isFrom", desc := "(II)Z" } : Jvm.MethodName)) ∈ mh_T := mh_T_in (List.mem_append_right _ (List.mem_of_getElem? (i := 1384) (by decide +kernel))) (by decide +kernel)
set_option maxRecDepth 100000 in
theorem wd_1386 : (Jvm.Cond.instanceMethod ({ cls := "HoleWaterModel", name := "isFrom", desc := "(II)Z" } : Jvm.MethodName)) ∈ mh_T := mh_T_in (List.mem_append_right _ (List.mem_of_getElem? (i := 1386) (by decide +kernel))) (by decide +kernel)
set_option maxRecDepth 100000 in
theorem wd_1387 : (Jvm.Cond.code ({ cls := "HoleWaterModel", name := "isFrom", desc := "(II)Z" } : Jvm.MethodName) prog_14_method_28_code (3 : Nat) (Option.some Jvm.ClassFile.FieldType.boolean)) ∈ mh_T := mh_T_in (List.mem_append_right _ (List.mem_of_getElem? (i := 1387) (by decide +kernel))) (by decide +kernel)
set_option maxRecDepth 100000 in
theorem wd_1388 : (Jvm.Cond.methodLink "HoleWaterModel" (132 : Nat) ({ cls := "HoleWaterModel", name := "isOverflow", desc := "(I)Z" } : Jvm.MethodName)) ∈ mh_T := mh_T_in (List.mem_append_right _ (List.mem_of_getElem? (i := 1388) (by decide +kernel))) (by decide +kernel)
set_option maxRecDepth 100000 in
theorem wd_1390 : (Jvm.Cond.instanceMethod ({ cls := "HoleWaterModel", name := "isOverflow", desc := "(I)Z" } : Jvm.MethodName)) ∈ mh_T := mh_T_in (List.mem_append_right _ (List.mem_of_getElem? (i := 1390) (by decide +kernel))) (by decide +kernel)
set_option maxRecDepth 100000 in
theorem wd_1391 : (Jvm.Cond.code ({ cls := "HoleWaterModel", name := "isOverflow", desc := "(I)Z" } : Jvm.MethodName) prog_14_method_29_code (2 : Nat) (Option.some Jvm.ClassFile.FieldType.boolean)) ∈ mh_T := mh_T_in (List.mem_append_right _ (List.mem_of_getElem? (i := 1391) (by decide +kernel))) (by decide +kernel)
set_option maxRecDepth 100000 in
theorem wd_1392 : (Jvm.Cond.methodLink "HoleWaterModel" (138 : Nat) ({ cls := "HoleWaterModel", name := "goesIn", desc := "(III)V" } : Jvm.MethodName)) ∈ mh_T := mh_T_in (List.mem_append_right _ (List.mem_of_getElem? (i := 1392) (by decide +kernel))) (by decide +kernel)
set_option maxRecDepth 100000 in
theorem wd_1394 : (Jvm.Cond.instanceMethod ({ cls := "HoleWaterModel", name := "goesIn", desc := "(III)V" } : Jvm.MethodName)) ∈ mh_T := mh_T_in (List.mem_append_right _ (List.mem_of_getElem? (i := 1394) (by decide +kernel))) (by decide +kernel)
set_option maxRecDepth 100000 in
theorem wd_1395 : (Jvm.Cond.code ({ cls := "HoleWaterModel", name := "goesIn", desc := "(III)V" } : Jvm.MethodName) prog_14_method_31_code (8 : Nat) (Option.none : Option Jvm.ClassFile.FieldType)) ∈ mh_T := mh_T_in (List.mem_append_right _ (List.mem_of_getElem? (i := 1395) (by decide +kernel))) (by decide +kernel)
set_option maxRecDepth 100000 in
theorem wd_1399 : (Jvm.Cond.code ({ cls := "HoleWaterModel", name := "put", desc := "(III)I" } : Jvm.MethodName) prog_14_method_38_code (4 : Nat) (Option.some Jvm.ClassFile.FieldType.int)) ∈ mh_T := mh_T_in (List.mem_append_right _ (List.mem_of_getElem? (i := 1399) (by decide +kernel))) (by decide +kernel)
set_option maxRecDepth 100000 in
theorem wd_1400 : (Jvm.Cond.constantLong "HoleWaterModel" (163 : Nat) (9999 : Int64)) ∈ mh_T := mh_T_in (List.mem_append_right _ (List.mem_of_getElem? (i := 1400) (by decide +kernel))) (by decide +kernel)
set_option maxRecDepth 100000 in
theorem wd_1401 : (Jvm.Cond.methodLink "HoleWaterModel" (165 : Nat) ({ cls := "HoleWaterModel", name := "puts", desc := "(III)I" } : Jvm.MethodName)) ∈ mh_T := mh_T_in (List.mem_append_right _ (List.mem_of_getElem? (i := 1401) (by decide +kernel))) (by decide +kernel)
set_option maxRecDepth 100000 in
theorem wd_1403 : (Jvm.Cond.instanceMethod ({ cls := "HoleWaterModel", name := "puts", desc := "(III)I" } : Jvm.MethodName)) ∈ mh_T := mh_T_in (List.mem_append_right _ (List.mem_of_getElem? (i := 1403) (by decide +kernel))) (by decide +kernel)
set_option maxRecDepth 100000 in
theorem wd_1404 : (Jvm.Cond.code ({ cls := "HoleWaterModel", name := "puts", desc := "(III)I" } : Jvm.MethodName) prog_14_method_37_code (5 : Nat) (Option.some Jvm.ClassFile.FieldType.int)) ∈ mh_T := mh_T_in (List.mem_append_right _ (List.mem_of_getElem? (i := 1404) (by decide +kernel))) (by decide +kernel)
set_option maxRecDepth 100000 in
theorem wd_1408 : (Jvm.Cond.code ({ cls := "HoleWaterModel", name := "putIs", desc := "(II)I" } : Jvm.MethodName) prog_14_method_39_code (3 : Nat) (Option.some Jvm.ClassFile.FieldType.int)) ∈ mh_T := mh_T_in (List.mem_append_right _ (List.mem_of_getElem? (i := 1408) (by decide +kernel))) (by decide +kernel)
set_option maxRecDepth 100000 in
theorem wd_1412 : (Jvm.Cond.code ({ cls := "HoleWaterModel", name := "pours", desc := "(IIIII)I" } : Jvm.MethodName) prog_14_method_40_code (9 : Nat) (Option.some Jvm.ClassFile.FieldType.int)) ∈ mh_T := mh_T_in (List.mem_append_right _ (List.mem_of_getElem? (i := 1412) (by decide +kernel))) (by decide +kernel)
set_option maxRecDepth 100000 in
theorem wd_1413 : (Jvm.Cond.methodLink "HoleWaterModel" (169 : Nat) ({ cls := "HoleWaterModel", name := "isSheet", desc := "(I)Z" } : Jvm.MethodName)) ∈ mh_T := mh_T_in (List.mem_append_right _ (List.mem_of_getElem? (i := 1413) (by decide +kernel))) (by decide +kernel)
set_option maxRecDepth 100000 in
theorem wd_1414 : (Jvm.Cond.static ({ cls := "HoleWaterModel", name := "isSheet", desc := "(I)Z" } : Jvm.MethodName)) ∈ mh_T := mh_T_in (List.mem_append_right _ (List.mem_of_getElem? (i := 1414) (by decide +kernel))) (by decide +kernel)
set_option maxRecDepth 100000 in
theorem wd_1415 : (Jvm.Cond.code ({ cls := "HoleWaterModel", name := "isSheet", desc := "(I)Z" } : Jvm.MethodName) prog_14_method_106_code (1 : Nat) (Option.some Jvm.ClassFile.FieldType.boolean)) ∈ mh_T := mh_T_in (List.mem_append_right _ (List.mem_of_getElem? (i := 1415) (by decide +kernel))) (by decide +kernel)
set_option maxRecDepth 100000 in
theorem wd_1416 : (Jvm.Cond.constantLong "HoleWaterModel" (172 : Nat) (9 : Int64)) ∈ mh_T := mh_T_in (List.mem_append_right _ (List.mem_of_getElem? (i := 1416) (by decide +kernel))) (by decide +kernel)
set_option maxRecDepth 100000 in
theorem wd_1420 : (Jvm.Cond.code ({ cls := "HoleWaterModel", name := "grains", desc := "(II)I" } : Jvm.MethodName) prog_14_method_41_code (3 : Nat) (Option.some Jvm.ClassFile.FieldType.int)) ∈ mh_T := mh_T_in (List.mem_append_right _ (List.mem_of_getElem? (i := 1420) (by decide +kernel))) (by decide +kernel)
set_option maxRecDepth 100000 in
theorem wd_1424 : (Jvm.Cond.code ({ cls := "HoleWaterModel", name := "stuff", desc := "(II)I" } : Jvm.MethodName) prog_14_method_43_code (3 : Nat) (Option.some Jvm.ClassFile.FieldType.int)) ∈ mh_T := mh_T_in (List.mem_append_right _ (List.mem_of_getElem? (i := 1424) (by decide +kernel))) (by decide +kernel)
set_option maxRecDepth 100000 in
theorem wd_1425 : (Jvm.Cond.methodLink "HoleWaterModel" (174 : Nat) ({ cls := "HoleWaterModel", name := "about", desc := "(I)I" } : Jvm.MethodName)) ∈ mh_T := mh_T_in (List.mem_append_right _ (List.mem_of_getElem? (i := 1425) (by decide +kernel))) (by decide +kernel)
set_option maxRecDepth 100000 in
theorem wd_1427 : (Jvm.Cond.instanceMethod ({ cls := "HoleWaterModel", name := "about", desc := "(I)I" } : Jvm.MethodName)) ∈ mh_T := mh_T_in (List.mem_append_right _ (List.mem_of_getElem? (i := 1427) (by decide +kernel))) (by decide +kernel)
set_option maxRecDepth 100000 in
theorem wd_1428 : (Jvm.Cond.code ({ cls := "HoleWaterModel", name := "about", desc := "(I)I" } : Jvm.MethodName) prog_14_method_42_code (4 : Nat) (Option.some Jvm.ClassFile.FieldType.int)) ∈ mh_T := mh_T_in (List.mem_append_right _ (List.mem_of_getElem? (i := 1428) (by decide +kernel))) (by decide +kernel)
set_option maxRecDepth 100000 in
theorem wd_1432 : (Jvm.Cond.code ({ cls := "HoleWaterModel", name := "out", desc := "(III)I" } : Jvm.MethodName) prog_14_method_45_code (4 : Nat) (Option.some Jvm.ClassFile.FieldType.int)) ∈ mh_T := mh_T_in (List.mem_append_right _ (List.mem_of_getElem? (i := 1432) (by decide +kernel))) (by decide +kernel)
set_option maxRecDepth 100000 in
theorem wd_1433 : (Jvm.Cond.constantLong "HoleWaterModel" (177 : Nat) (24 : Int64)) ∈ mh_T := mh_T_in (List.mem_append_right _ (List.mem_of_getElem? (i := 1433) (by decide +kernel))) (by decide +kernel)
set_option maxRecDepth 100000 in
theorem wd_1434 : (Jvm.Cond.methodLink "HoleWaterModel" (179 : Nat) ({ cls := "HoleWaterModel", name := "outAgo", desc := "(III)I" } : Jvm.MethodName)) ∈ mh_T := mh_T_in (List.mem_append_right _ (List.mem_of_getElem? (i := 1434) (by decide +kernel))) (by decide +kernel)
set_option maxRecDepth 100000 in
theorem wd_1436 : (Jvm.Cond.instanceMethod ({ cls := "HoleWaterModel", name := "outAgo", desc := "(III)I" } : Jvm.MethodName)) ∈ mh_T := mh_T_in (List.mem_append_right _ (List.mem_of_getElem? (i := 1436) (by decide +kernel))) (by decide +kernel)
set_option maxRecDepth 100000 in
theorem wd_1437 : (Jvm.Cond.code ({ cls := "HoleWaterModel", name := "outAgo", desc := "(III)I" } : Jvm.MethodName) prog_14_method_44_code (5 : Nat) (Option.some Jvm.ClassFile.FieldType.int)) ∈ mh_T := mh_T_in (List.mem_append_right _ (List.mem_of_getElem? (i := 1437) (by decide +kernel))) (by decide +kernel)
set_option maxRecDepth 100000 in
theorem wd_1441 : (Jvm.Cond.code ({ cls := "HoleWaterModel", name := "spill", desc := "(IIII)I" } : Jvm.MethodName) prog_14_method_50_code (8 : Nat) (Option.some Jvm.ClassFile.FieldType.int)) ∈ mh_T := mh_T_in (List.mem_append_right _ (List.mem_of_getElem? (i := 1441) (by decide +kernel))) (by decide +kernel)
set_option maxRecDepth 100000 in
theorem wd_1442 : (Jvm.Cond.methodLink "HoleWaterModel" (182 : Nat) ({ cls := "HoleWaterModel", name := "isWrongSpill", desc := "(III)I" } : Jvm.MethodName)) ∈ mh_T := mh_T_in (List.mem_append_right _ (List.mem_of_getElem? (i := 1442) (by decide +kernel))) (by decide +kernel)
set_option maxRecDepth 100000 in
theorem wd_1444 : (Jvm.Cond.instanceMethod ({ cls := "HoleWaterModel", name := "isWrongSpill", desc := "(III)I" } : Jvm.MethodName)) ∈ mh_T := mh_T_in (List.mem_append_right _ (List.mem_of_getElem? (i := 1444) (by decide +kernel))) (by decide +kernel)
set_option maxRecDepth 100000 in
theorem wd_1445 : (Jvm.Cond.code ({ cls := "HoleWaterModel", name := "isWrongSpill", desc := "(III)I" } : Jvm.MethodName) prog_14_method_49_code (4 : Nat) (Option.some Jvm.ClassFile.FieldType.int)) ∈ mh_T := mh_T_in (List.mem_append_right _ (List.mem_of_getElem? (i := 1445) (by decide +kernel))) (by decide +kernel)
set_option maxRecDepth 100000 in
theorem wd_1446 : (Jvm.Cond.methodLink "HoleWaterModel" (185 : Nat) ({ cls := "HoleWaterModel", name := "laysAside", desc := "()V" } : Jvm.MethodName)) ∈ mh_T := mh_T_in (List.mem_append_right _ (List.mem_of_getElem? (i := 1446) (by decide +kernel))) (by decide +kernel)
set_option maxRecDepth 100000 in
theorem wd_1448 : (Jvm.Cond.instanceMethod ({ cls := "HoleWaterModel", name := "laysAside", desc := "()V" } : Jvm.MethodName)) ∈ mh_T := mh_T_in (List.mem_append_right _ (List.mem_of_getElem? (i := 1448) (by decide +kernel))) (by decide +kernel)
set_option maxRecDepth 100000 in
theorem wd_1449 : (Jvm.Cond.code ({ cls := "HoleWaterModel", name := "laysAside", desc := "()V" } : Jvm.MethodName) prog_14_method_46_code (2 : Nat) (Option.none : Option Jvm.ClassFile.FieldType)) ∈ mh_T := mh_T_in (List.mem_append_right _ (List.mem_of_getElem? (i := 1449) (by decide +kernel))) (by decide +kernel)
set_option maxRecDepth 100000 in
theorem wd_1450 : (Jvm.Cond.methodLink "HoleWaterModel" (188 : Nat) ({ cls := "HoleWaterModel", name := "spills", desc := "(II)V" } : Jvm.MethodName)) ∈ mh_T := mh_T_in (List.mem_append_right _ (List.mem_of_getElem? (i := 1450) (by decide +kernel))) (by decide +kernel)
set_option maxRecDepth 100000 in
theorem wd_1452 : (Jvm.Cond.instanceMethod ({ cls := "HoleWaterModel", name := "spills", desc := "(II)V" } : Jvm.MethodName)) ∈ mh_T := mh_T_in (List.mem_append_right _ (List.mem_of_getElem? (i := 1452) (by decide +kernel))) (by decide +kernel)
set_option maxRecDepth 100000 in
theorem wd_1453 : (Jvm.Cond.code ({ cls := "HoleWaterModel", name := "spills", desc := "(II)V" } : Jvm.MethodName) prog_14_method_48_code (6 : Nat) (Option.none : Option Jvm.ClassFile.FieldType)) ∈ mh_T := mh_T_in (List.mem_append_right _ (List.mem_of_getElem? (i := 1453) (by decide +kernel))) (by decide +kernel)
set_option maxRecDepth 100000 in
theorem wd_1454 : (Jvm.Cond.methodLink "HoleWaterModel" (192 : Nat) ({ cls := "HoleWaterModel", name := "laysBack", desc := "()V" } : Jvm.MethodName)) ∈ mh_T := mh_T_in (List.mem_append_right _ (List.mem_of_getElem? (i := 1454) (by decide +kernel))) (by decide +kernel)
set_option maxRecDepth 100000 in
theorem wd_1456 : (Jvm.Cond.instanceMethod ({ cls := "HoleWaterModel", name := "laysBack", desc := "()V" } : Jvm.MethodName)) ∈ mh_T := mh_T_in (List.mem_append_right _ (List.mem_of_getElem? (i := 1456) (by decide +kernel))) (by decide +kernel)
set_option maxRecDepth 100000 in
theorem wd_1457 : (Jvm.Cond.code ({ cls := "HoleWaterModel", name := "laysBack", desc := "()V" } : Jvm.MethodName) prog_14_method_47_code (2 : Nat) (Option.none : Option Jvm.ClassFile.FieldType)) ∈ mh_T := mh_T_in (List.mem_append_right _ (List.mem_of_getElem? (i := 1457) (by decide +kernel))) (by decide +kernel)
set_option maxRecDepth 100000 in
theorem wd_1461 : (Jvm.Cond.code ({ cls := "HoleWaterModel", name := "first", desc := "(III)I" } : Jvm.MethodName) prog_14_method_51_code (7 : Nat) (Option.some Jvm.ClassFile.FieldType.int)) ∈ mh_T := mh_T_in (List.mem_append_right _ (List.mem_of_getElem? (i := 1461) (by decide +kernel))) (by decide +kernel)
set_option maxRecDepth 100000 in
theorem wd_1465 : (Jvm.Cond.code ({ cls := "HoleWaterModel", name := "feed", desc := "(JI)I" } : Jvm.MethodName) prog_14_method_52_code (5 : Nat) (Option.some Jvm.ClassFile.FieldType.int)) ∈ mh_T := mh_T_in (List.mem_append_right _ (List.mem_of_getElem? (i := 1465) (by decide +kernel))) (by decide +kernel)
set_option maxRecDepth 100000 in
theorem wd_1466 : (Jvm.Cond.constantLong "HoleWaterModel" (195 : Nat) (8 : Int64)) ∈ mh_T := mh_T_in (List.mem_append_right _ (List.mem_of_getElem? (i := 1466) (by decide +kernel))) (by decide +kernel)
set_option maxRecDepth 100000 in
theorem wd_1467 : (Jvm.Cond.constantLong "HoleWaterModel" (197 : Nat) (255 : Int64)) ∈ mh_T := mh_T_in (List.mem_append_right _ (List.mem_of_getElem? (i := 1467) (by decide +kernel))) (by decide +kernel)
set_option maxRecDepth 100000 in
theorem wd_1471 : (Jvm.Cond.code ({ cls := "HoleWaterModel", name := "text", desc := "(I)I" } : Jvm.MethodName) prog_14_method_62_code (5 : Nat) (Option.some Jvm.ClassFile.FieldType.int)) ∈ mh_T := mh_T_in (List.mem_append_right _ (List.mem_of_getElem? (i := 1471) (by decide +kernel))) (by decide +kernel)
set_option maxRecDepth 100000 in
theorem wd_1472 : (Jvm.Cond.methodLink "HoleWaterModel" (247 : Nat) ({ cls := "HoleWaterModel", name := "reads", desc := "()V" } : Jvm.MethodName)) ∈ mh_T := mh_T_in (List.mem_append_right _ (List.mem_of_getElem? (i := 1472) (by decide +kernel))) (by decide +kernel)
set_option maxRecDepth 100000 in
theorem wd_1474 : (Jvm.Cond.instanceMethod ({ cls := "HoleWaterModel", name := "reads", desc := "()V" } : Jvm.MethodName)) ∈ mh_T := mh_T_in (List.mem_append_right _ (List.mem_of_getElem? (i := 1474) (by decide +kernel))) (by decide +kernel)
set_option maxRecDepth 100000 in
theorem wd_1475 : (Jvm.Cond.code ({ cls := "HoleWaterModel", name := "reads", desc := "()V" } : Jvm.MethodName) prog_14_method_61_code (2 : Nat) (Option.none : Option Jvm.ClassFile.FieldType)) ∈ mh_T := mh_T_in (List.mem_append_right _ (List.mem_of_getElem? (i := 1475) (by decide +kernel))) (by decide +kernel)
set_option maxRecDepth 100000 in
theorem wd_1476 : (Jvm.Cond.methodLink "HoleWaterModel" (229 : Nat) ({ cls := "HoleWaterModel", name := "sum", desc := "()V" } : Jvm.MethodName)) ∈ mh_T := mh_T_in (List.mem_append_right _ (List.mem_of_getElem? (i := 1476) (by decide +kernel))) (by decide +kernel)
set_option maxRecDepth 100000 in
theorem wd_1478 : (Jvm.Cond.instanceMethod ({ cls := "HoleWaterModel", name := "sum", desc := "()V" } : Jvm.MethodName)) ∈ mh_T := mh_T_in (List.mem_append_right _ (List.mem_of_getElem? (i := 1478) (by decide +kernel))) (by decide +kernel)
set_option maxRecDepth 100000 in
theorem wd_1479 : (Jvm.Cond.code ({ cls := "HoleWaterModel", name := "sum", desc := "()V" } : Jvm.MethodName) prog_14_method_59_code (2 : Nat) (Option.none : Option Jvm.ClassFile.FieldType)) ∈ mh_T := mh_T_in (List.mem_append_right _ (List.mem_of_getElem? (i := 1479) (by decide +kernel))) (by decide +kernel)
set_option maxRecDepth 100000 in
theorem wd_1480 : (Jvm.Cond.methodLink "HoleWaterModel" (238 : Nat) ({ cls := "HoleWaterModel", name := "term", desc := "()V" } : Jvm.MethodName)) ∈ mh_T := mh_T_in (List.mem_append_right _ (List.mem_of_getElem? (i := 1480) (by decide +kernel))) (by decide +kernel)
set_option maxRecDepth 100000 in
theorem wd_1482 : (Jvm.Cond.instanceMethod ({ cls := "HoleWaterModel", name := "term", desc := "()V" } : Jvm.MethodName)) ∈ mh_T := mh_T_in (List.mem_append_right _ (List.mem_of_getElem? (i := 1482) (by decide +kernel))) (by decide +kernel)
set_option maxRecDepth 100000 in
theorem wd_1483 : (Jvm.Cond.code ({ cls := "HoleWaterModel", name := "term", desc := "()V" } : Jvm.MethodName) prog_14_method_58_code (2 : Nat) (Option.none : Option Jvm.ClassFile.FieldType)) ∈ mh_T := mh_T_in (List.mem_append_right _ (List.mem_of_getElem? (i := 1483) (by decide +kernel))) (by decide +kernel)
