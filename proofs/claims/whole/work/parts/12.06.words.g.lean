set_option maxRecDepth 100000 in
theorem wd_1156 : (Jvm.Cond.fieldLink "HoleWaterModel" (211 : Nat) "HoleWaterModel" "codes" "I") ∈ mh_T := mh_T_in (List.mem_append_right _ (List.mem_of_getElem? (i := 1156) (by decide +kernel))) (by decide +kernel)
set_option maxRecDepth 100000 in
theorem wd_1157 : (Jvm.Cond.fieldLink "HoleWaterModel" (241 : Nat) "HoleWaterModel" "cases" "I") ∈ mh_T := mh_T_in (List.mem_append_right _ (List.mem_of_getElem? (i := 1157) (by decide +kernel))) (by decide +kernel)
set_option maxRecDepth 100000 in
theorem wd_1158 : (Jvm.Cond.fieldLink "HoleWaterModel" (203 : Nat) "HoleWaterModel" "at" "I") ∈ mh_T := mh_T_in (List.mem_append_right _ (List.mem_of_getElem? (i := 1158) (by decide +kernel))) (by decide +kernel)
set_option maxRecDepth 100000 in
theorem wd_1159 : (Jvm.Cond.fieldLink "HoleWaterModel" (226 : Nat) "HoleWaterModel" "open" "I") ∈ mh_T := mh_T_in (List.mem_append_right _ (List.mem_of_getElem? (i := 1159) (by decide +kernel))) (by decide +kernel)
set_option maxRecDepth 100000 in
theorem wd_1160 : (Jvm.Cond.fieldLink "HoleWaterModel" (220 : Nat) "HoleWaterModel" "useRead" "I") ∈ mh_T := mh_T_in (List.mem_append_right _ (List.mem_of_getElem? (i := 1160) (by decide +kernel))) (by decide +kernel)
set_option maxRecDepth 100000 in
theorem wd_1161 : (Jvm.Cond.fieldLink "HoleWaterModel" (199 : Nat) "HoleWaterModel" "bad" "Z") ∈ mh_T := mh_T_in (List.mem_append_right _ (List.mem_of_getElem? (i := 1161) (by decide +kernel))) (by decide +kernel)
set_option maxRecDepth 100000 in
theorem wd_1162 : (Jvm.Cond.fieldLink "HoleWaterModel" (34 : Nat) "HoleWaterModel" "named" "[I") ∈ mh_T := mh_T_in (List.mem_append_right _ (List.mem_of_getElem? (i := 1162) (by decide +kernel))) (by decide +kernel)
set_option maxRecDepth 100000 in
theorem wd_1163 : (Jvm.Cond.fieldLink "HoleWaterModel" (37 : Nat) "HoleWaterModel" "stack" "[I") ∈ mh_T := mh_T_in (List.mem_append_right _ (List.mem_of_getElem? (i := 1163) (by decide +kernel))) (by decide +kernel)
set_option maxRecDepth 100000 in
theorem wd_1164 : (Jvm.Cond.fieldLink "HoleWaterModel" (40 : Nat) "HoleWaterModel" "someHoles" "[I") ∈ mh_T := mh_T_in (List.mem_append_right _ (List.mem_of_getElem? (i := 1164) (by decide +kernel))) (by decide +kernel)
set_option maxRecDepth 100000 in
theorem wd_1165 : (Jvm.Cond.fieldLink "HoleWaterModel" (43 : Nat) "HoleWaterModel" "someSprings" "[I") ∈ mh_T := mh_T_in (List.mem_append_right _ (List.mem_of_getElem? (i := 1165) (by decide +kernel))) (by decide +kernel)
set_option maxRecDepth 100000 in
theorem wd_1166 : (Jvm.Cond.fieldLink "HoleWaterModel" (46 : Nat) "HoleWaterModel" "holds" "[I") ∈ mh_T := mh_T_in (List.mem_append_right _ (List.mem_of_getElem? (i := 1166) (by decide +kernel))) (by decide +kernel)
set_option maxRecDepth 100000 in
theorem wd_1167 : (Jvm.Cond.fieldLink "HoleWaterModel" (49 : Nat) "HoleWaterModel" "nothing" "[I") ∈ mh_T := mh_T_in (List.mem_append_right _ (List.mem_of_getElem? (i := 1167) (by decide +kernel))) (by decide +kernel)
set_option maxRecDepth 100000 in
theorem wd_1168 : (Jvm.Cond.fieldLink "HoleWaterModel" (52 : Nat) "HoleWaterModel" "ran" "[I") ∈ mh_T := mh_T_in (List.mem_append_right _ (List.mem_of_getElem? (i := 1168) (by decide +kernel))) (by decide +kernel)
set_option maxRecDepth 100000 in
theorem wd_1169 : (Jvm.Cond.fieldLink "HoleWaterModel" (306 : Nat) "HoleWaterModel" "bodies" "I") ∈ mh_T := mh_T_in (List.mem_append_right _ (List.mem_of_getElem? (i := 1169) (by decide +kernel))) (by decide +kernel)
set_option maxRecDepth 100000 in
theorem wd_1170 : (Jvm.Cond.fieldLink "HoleWaterModel" (318 : Nat) "HoleWaterModel" "voiceKind" "I") ∈ mh_T := mh_T_in (List.mem_append_right _ (List.mem_of_getElem? (i := 1170) (by decide +kernel))) (by decide +kernel)
set_option maxRecDepth 100000 in
theorem wd_1171 : (Jvm.Cond.fieldLink "HoleWaterModel" (312 : Nat) "HoleWaterModel" "voiceLong" "I") ∈ mh_T := mh_T_in (List.mem_append_right _ (List.mem_of_getElem? (i := 1171) (by decide +kernel))) (by decide +kernel)
set_option maxRecDepth 100000 in
theorem wd_1172 : (Jvm.Cond.fieldLink "HoleWaterModel" (321 : Nat) "HoleWaterModel" "voiceN" "I") ∈ mh_T := mh_T_in (List.mem_append_right _ (List.mem_of_getElem? (i := 1172) (by decide +kernel))) (by decide +kernel)
set_option maxRecDepth 100000 in
theorem wd_1173 : (Jvm.Cond.fieldLink "HoleWaterModel" (338 : Nat) "HoleWaterModel" "isParted" "Z") ∈ mh_T := mh_T_in (List.mem_append_right _ (List.mem_of_getElem? (i := 1173) (by decide +kernel))) (by decide +kernel)
set_option maxRecDepth 100000 in
theorem wd_1174 : (Jvm.Cond.fieldLink "HoleWaterModel" (55 : Nat) "HoleWaterModel" "bits" "[I") ∈ mh_T := mh_T_in (List.mem_append_right _ (List.mem_of_getElem? (i := 1174) (by decide +kernel))) (by decide +kernel)
set_option maxRecDepth 100000 in
theorem wd_1175 : (Jvm.Cond.fieldLink "HoleWaterModel" (58 : Nat) "HoleWaterModel" "size" "[I") ∈ mh_T := mh_T_in (List.mem_append_right _ (List.mem_of_getElem? (i := 1175) (by decide +kernel))) (by decide +kernel)
set_option maxRecDepth 100000 in
theorem wd_1176 : (Jvm.Cond.fieldLink "HoleWaterModel" (61 : Nat) "HoleWaterModel" "number" "[I") ∈ mh_T := mh_T_in (List.mem_append_right _ (List.mem_of_getElem? (i := 1176) (by decide +kernel))) (by decide +kernel)
set_option maxRecDepth 100000 in
theorem wd_1238 : (Jvm.Cond.methodLink "HoleWaterLaw" (17 : Nat) ({ cls := "HoleWaterModel", name := "joint", desc := "(III)I" } : Jvm.MethodName)) ∈ mh_T := mh_T_in (List.mem_append_right _ (List.mem_of_getElem? (i := 1238) (by decide +kernel))) (by decide +kernel)
set_option maxRecDepth 100000 in
theorem wd_1239 : (Jvm.Cond.instanceMethod ({ cls := "HoleWaterModel", name := "joint", desc := "(III)I" } : Jvm.MethodName)) ∈ mh_T := mh_T_in (List.mem_append_right _ (List.mem_of_getElem? (i := 1239) (by decide +kernel))) (by decide +kernel)
set_option maxRecDepth 100000 in
theorem wd_1240 : (Jvm.Cond.selects "HoleWaterModel" ({ cls := "HoleWaterModel", name := "joint", desc := "(III)I" } : Jvm.MethodName) ({ cls := "HoleWaterModel", name := "joint", desc := "(III)I" } : Jvm.MethodName)) ∈ mh_T := mh_T_in (List.mem_append_right _ (List.mem_of_getElem? (i := 1240) (by decide +kernel))) (by decide +kernel)
set_option maxRecDepth 100000 in
theorem wd_1241 : (Jvm.Cond.code ({ cls := "HoleWaterModel", name := "joint", desc := "(III)I" } : Jvm.MethodName) prog_14_method_13_code (6 : Nat) (Option.some Jvm.ClassFile.FieldType.int)) ∈ mh_T := mh_T_in (List.mem_append_right _ (List.mem_of_getElem? (i := 1241) (by decide +kernel))) (by decide +kernel)
set_option maxRecDepth 100000 in
theorem wd_1242 : (Jvm.Cond.constantLong "HoleWaterModel" (69 : Nat) (3 : Int64)) ∈ mh_T := mh_T_in (List.mem_append_right _ (List.mem_of_getElem? (i := 1242) (by decide +kernel))) (by decide +kernel)
set_option maxRecDepth 100000 in
theorem wd_1243 : (Jvm.Cond.methodLink "HoleWaterModel" (65 : Nat) ({ cls := "HoleWaterModel", name := "in", desc := "(JJJ)Z" } : Jvm.MethodName)) ∈ mh_T := mh_T_in (List.mem_append_right _ (List.mem_of_getElem? (i := 1243) (by decide +kernel))) (by decide +kernel)
set_option maxRecDepth 100000 in
theorem wd_1244 : (Jvm.Cond.static ({ cls := "HoleWaterModel", name := "in", desc := "(JJJ)Z" } : Jvm.MethodName)) ∈ mh_T := mh_T_in (List.mem_append_right _ (List.mem_of_getElem? (i := 1244) (by decide +kernel))) (by decide +kernel)
set_option maxRecDepth 100000 in
theorem wd_1245 : (Jvm.Cond.code ({ cls := "HoleWaterModel", name := "in", desc := "(JJJ)Z" } : Jvm.MethodName) prog_14_method_3_code (6 : Nat) (Option.some Jvm.ClassFile.FieldType.boolean)) ∈ mh_T := mh_T_in (List.mem_append_right _ (List.mem_of_getElem? (i := 1245) (by decide +kernel))) (by decide +kernel)
set_option maxRecDepth 100000 in
theorem wd_1246 : (Jvm.Cond.constantLong "HoleWaterModel" (78 : Nat) (99 : Int64)) ∈ mh_T := mh_T_in (List.mem_append_right _ (List.mem_of_getElem? (i := 1246) (by decide +kernel))) (by decide +kernel)
set_option maxRecDepth 100000 in
theorem wd_1247 : (Jvm.Cond.methodLink "HoleWaterModel" (80 : Nat) ({ cls := "HoleWaterModel", name := "error", desc := "(I)I" } : Jvm.MethodName)) ∈ mh_T := mh_T_in (List.mem_append_right _ (List.mem_of_getElem? (i := 1247) (by decide +kernel))) (by decide +kernel)
set_option maxRecDepth 100000 in
theorem wd_1249 : (Jvm.Cond.instanceMethod ({ cls := "HoleWaterModel", name := "error", desc := "(I)I" } : Jvm.MethodName)) ∈ mh_T := mh_T_in (List.mem_append_right _ (List.mem_of_getElem? (i := 1249) (by decide +kernel))) (by decide +kernel)
set_option maxRecDepth 100000 in
theorem wd_1250 : (Jvm.Cond.code ({ cls := "HoleWaterModel", name := "error", desc := "(I)I" } : Jvm.MethodName) prog_14_method_2_code (2 : Nat) (Option.some Jvm.ClassFile.FieldType.int)) ∈ mh_T := mh_T_in (List.mem_append_right _ (List.mem_of_getElem? (i := 1250) (by decide +kernel))) (by decide +kernel)
set_option maxRecDepth 100000 in
theorem wd_1251 : (Jvm.Cond.constant "HoleWaterModel" (64 : Nat) (-1000000 : Int32)) ∈ mh_T := mh_T_in (List.mem_append_right _ (List.mem_of_getElem? (i := 1251) (by decide +kernel))) (by decide +kernel)
set_option maxRecDepth 100000 in
theorem wd_1252 : (Jvm.Cond.methodLink "HoleWaterModel" (71 : Nat) ({ cls := "HoleWaterModel", name := "joint", desc := "(I)I" } : Jvm.MethodName)) ∈ mh_T := mh_T_in (List.mem_append_right _ (List.mem_of_getElem? (i := 1252) (by decide +kernel))) (by decide +kernel)
set_option maxRecDepth 100000 in
theorem wd_1253 : (Jvm.Cond.static ({ cls := "HoleWaterModel", name := "joint", desc := "(I)I" } : Jvm.MethodName)) ∈ mh_T := mh_T_in (List.mem_append_right _ (List.mem_of_getElem? (i := 1253) (by decide +kernel))) (by decide +kernel)
set_option maxRecDepth 100000 in
theorem wd_1254 : (Jvm.Cond.code ({ cls := "HoleWaterModel", name := "joint", desc := "(I)I" } : Jvm.MethodName) prog_14_method_7_code (1 : Nat) (Option.some Jvm.ClassFile.FieldType.int)) ∈ mh_T := mh_T_in (List.mem_append_right _ (List.mem_of_getElem? (i := 1254) (by decide +kernel))) (by decide +kernel)
set_option maxRecDepth 100000 in
theorem wd_1255 : (Jvm.Cond.methodLink "HoleWaterLaw" (22 : Nat) ({ cls := "HoleWaterModel", name := "jointIs", desc := "(II)I" } : Jvm.MethodName)) ∈ mh_T := mh_T_in (List.mem_append_right _ (List.mem_of_getElem? (i := 1255) (by decide +kernel))) (by decide +kernel)
set_option maxRecDepth 100000 in
theorem wd_1256 : (Jvm.Cond.instanceMethod ({ cls := "HoleWaterModel", name := "jointIs", desc := "(II)I" } : Jvm.MethodName)) ∈ mh_T := mh_T_in (List.mem_append_right _ (List.mem_of_getElem? (i := 1256) (by decide +kernel))) (by decide +kernel)
set_option maxRecDepth 100000 in
theorem wd_1257 : (Jvm.Cond.selects "HoleWaterModel" ({ cls := "HoleWaterModel", name := "jointIs", desc := "(II)I" } : Jvm.MethodName) ({ cls := "HoleWaterModel", name := "jointIs", desc := "(II)I" } : Jvm.MethodName)) ∈ mh_T := mh_T_in (List.mem_append_right _ (List.mem_of_getElem? (i := 1257) (by decide +kernel))) (by decide +kernel)
set_option maxRecDepth 100000 in
theorem wd_1258 : (Jvm.Cond.code ({ cls := "HoleWaterModel", name := "jointIs", desc := "(II)I" } : Jvm.MethodName) prog_14_method_14_code (3 : Nat) (Option.some Jvm.ClassFile.FieldType.int)) ∈ mh_T := mh_T_in (List.mem_append_right _ (List.mem_of_getElem? (i := 1258) (by decide +kernel))) (by decide +kernel)
set_option maxRecDepth 100000 in
theorem wd_1259 : (Jvm.Cond.methodLink "HoleWaterModel" (83 : Nat) ({ cls := "HoleWaterModel", name := "isJoint", desc := "(I)Z" } : Jvm.MethodName)) ∈ mh_T := mh_T_in (List.mem_append_right _ (List.mem_of_getElem? (i := 1259) (by decide +kernel))) (by decide +kernel)
set_option maxRecDepth 100000 in
theorem wd_1261 : (Jvm.Cond.instanceMethod ({ cls := "HoleWaterModel", name := "isJoint", desc := "(I)Z" } : Jvm.MethodName)) ∈ mh_T := mh_T_in (List.mem_append_right _ (List.mem_of_getElem? (i := 1261) (by decide +kernel))) (by decide +kernel)
set_option maxRecDepth 100000 in
theorem wd_1262 : (Jvm.Cond.code ({ cls := "HoleWaterModel", name := "isJoint", desc := "(I)Z" } : Jvm.MethodName) prog_14_method_4_code (2 : Nat) (Option.some Jvm.ClassFile.FieldType.boolean)) ∈ mh_T := mh_T_in (List.mem_append_right _ (List.mem_of_getElem? (i := 1262) (by decide +kernel))) (by decide +kernel)
set_option maxRecDepth 100000 in
theorem wd_1263 : (Jvm.Cond.constantLong "HoleWaterModel" (87 : Nat) (6 : Int64)) ∈ mh_T := mh_T_in (List.mem_append_right _ (List.mem_of_getElem? (i := 1263) (by decide +kernel))) (by decide +kernel)
set_option maxRecDepth 100000 in
theorem wd_1264 : (Jvm.Cond.methodLink "HoleWaterLaw" (27 : Nat) ({ cls := "HoleWaterModel", name := "way", desc := "(IIII)I" } : Jvm.MethodName)) ∈ mh_T := mh_T_in (List.mem_append_right _ (List.mem_of_getElem? (i := 1264) (by decide +kernel))) (by decide +kernel)
set_option maxRecDepth 100000 in
theorem wd_1265 : (Jvm.Cond.instanceMethod ({ cls := "HoleWaterModel", name := "way", desc := "(IIII)I" } : Jvm.MethodName)) ∈ mh_T := mh_T_in (List.mem_append_right _ (List.mem_of_getElem? (i := 1265) (by decide +kernel))) (by decide +kernel)
set_option maxRecDepth 100000 in
theorem wd_1266 : (Jvm.Cond.selects "HoleWaterModel" ({ cls := "HoleWaterModel", name := "way", desc := "(IIII)I" } : Jvm.MethodName) ({ cls := "HoleWaterModel", name := "way", desc := "(IIII)I" } : Jvm.MethodName)) ∈ mh_T := mh_T_in (List.mem_append_right _ (List.mem_of_getElem? (i := 1266) (by decide +kernel))) (by decide +kernel)
set_option maxRecDepth 100000 in
theorem wd_1267 : (Jvm.Cond.code ({ cls := "HoleWaterModel", name := "way", desc := "(IIII)I" } : Jvm.MethodName) prog_14_method_15_code (10 : Nat) (Option.some Jvm.ClassFile.FieldType.int)) ∈ mh_T := mh_T_in (List.mem_append_right _ (List.mem_of_getElem? (i := 1267) (by decide +kernel))) (by decide +kernel)
set_option maxRecDepth 100000 in
theorem wd_1268 : (Jvm.Cond.constantLong "HoleWaterModel" (89 : Nat) (5 : Int64)) ∈ mh_T := mh_T_in (List.mem_append_right _ (List.mem_of_getElem? (i := 1268) (by decide +kernel))) (by decide +kernel)
set_option maxRecDepth 100000 in
theorem wd_1269 : (Jvm.Cond.constantLong "HoleWaterModel" (91 : Nat) (20 : Int64)) ∈ mh_T := mh_T_in (List.mem_append_right _ (List.mem_of_getElem? (i := 1269) (by decide +kernel))) (by decide +kernel)
set_option maxRecDepth 100000 in
theorem wd_1270 : (Jvm.Cond.methodLink "HoleWaterModel" (93 : Nat) ({ cls := "HoleWaterModel", name := "isEnd", desc := "(I)Z" } : Jvm.MethodName)) ∈ mh_T := mh_T_in (List.mem_append_right _ (List.mem_of_getElem? (i := 1270) (by decide +kernel))) (by decide +kernel)
set_option maxRecDepth 100000 in
theorem wd_1272 : (Jvm.Cond.instanceMethod ({ cls := "HoleWaterModel", name := "isEnd", desc := "(I)Z" } : Jvm.MethodName)) ∈ mh_T := mh_T_in (List.mem_append_right _ (List.mem_of_getElem? (i := 1272) (by decide +kernel))) (by decide +kernel)
set_option maxRecDepth 100000 in
theorem wd_1273 : (Jvm.Cond.code ({ cls := "HoleWaterModel", name := "isEnd", desc := "(I)Z" } : Jvm.MethodName) prog_14_method_12_code (2 : Nat) (Option.some Jvm.ClassFile.FieldType.boolean)) ∈ mh_T := mh_T_in (List.mem_append_right _ (List.mem_of_getElem? (i := 1273) (by decide +kernel))) (by decide +kernel)
set_option maxRecDepth 100000 in
theorem wd_1274 : (Jvm.Cond.methodLink "HoleWaterModel" (75 : Nat) ({ cls := "HoleWaterModel", name := "sort", desc := "(I)I" } : Jvm.MethodName)) ∈ mh_T := mh_T_in (List.mem_append_right _ (List.mem_of_getElem? (i := 1274) (by decide +kernel))) (by decide +kernel)
set_option maxRecDepth 100000 in
theorem wd_1276 : (Jvm.Cond.instanceMethod ({ cls := "HoleWaterModel", name := "sort", desc := "(I)I" } : Jvm.MethodName)) ∈ mh_T := mh_T_in (List.mem_append_right _ (List.mem_of_getElem? (i := 1276) (by decide +kernel))) (by decide +kernel)
set_option maxRecDepth 100000 in
theorem wd_1277 : (Jvm.Cond.code ({ cls := "HoleWaterModel", name := "sort", desc := "(I)I" } : Jvm.MethodName) prog_14_method_9_code (2 : Nat) (Option.some Jvm.ClassFile.FieldType.int)) ∈ mh_T := mh_T_in (List.mem_append_right _ (List.mem_of_getElem? (i := 1277) (by decide +kernel))) (by decide +kernel)
set_option maxRecDepth 100000 in
theorem wd_1278 : (Jvm.Cond.methodLink "HoleWaterModel" (96 : Nat) ({ cls := "HoleWaterModel", name := "isHole", desc := "(I)Z" } : Jvm.MethodName)) ∈ mh_T := mh_T_in (List.mem_append_right _ (List.mem_of_getElem? (i := 1278) (by decide +kernel))) (by decide +kernel)
set_option maxRecDepth 100000 in
theorem wd_1280 : (Jvm.Cond.instanceMethod ({ cls := "HoleWaterModel", name := "isHole", desc := "(I)Z" } : Jvm.MethodName)) ∈ mh_T := mh_T_in (List.mem_append_right _ (List.mem_of_getElem? (i := 1280) (by decide +kernel))) (by decide +kernel)
set_option maxRecDepth 100000 in
theorem wd_1281 : (Jvm.Cond.code ({ cls := "HoleWaterModel", name := "isHole", desc := "(I)Z" } : Jvm.MethodName) prog_14_method_10_code (2 : Nat) (Option.some Jvm.ClassFile.FieldType.boolean)) ∈ mh_T := mh_T_in (List.mem_append_right _ (List.mem_of_getElem? (i := 1281) (by decide +kernel))) (by decide +kernel)
set_option maxRecDepth 100000 in
theorem wd_1282 : (Jvm.Cond.methodLink "HoleWaterModel" (99 : Nat) ({ cls := "HoleWaterModel", name := "way", desc := "(I)I" } : Jvm.MethodName)) ∈ mh_T := mh_T_in (List.mem_append_right _ (List.mem_of_getElem? (i := 1282) (by decide +kernel))) (by decide +kernel)
set_option maxRecDepth 100000 in
theorem wd_1283 : (Jvm.Cond.static ({ cls := "HoleWaterModel", name := "way", desc := "(I)I" } : Jvm.MethodName)) ∈ mh_T := mh_T_in (List.mem_append_right _ (List.mem_of_getElem? (i := 1283) (by decide +kernel))) (by decide +kernel)
set_option maxRecDepth 100000 in
theorem wd_1284 : (Jvm.Cond.code ({ cls := "HoleWaterModel", name := "way", desc := "(I)I" } : Jvm.MethodName) prog_14_method_8_code (1 : Nat) (Option.some Jvm.ClassFile.FieldType.int)) ∈ mh_T := mh_T_in (List.mem_append_right _ (List.mem_of_getElem? (i := 1284) (by decide +kernel))) (by decide +kernel)
set_option maxRecDepth 100000 in
theorem wd_1285 : (Jvm.Cond.methodLink "HoleWaterLaw" (31 : Nat) ({ cls := "HoleWaterModel", name := "as", desc := "(II)I" } : Jvm.MethodName)) ∈ mh_T := mh_T_in (List.mem_append_right _ (List.mem_of_getElem? (i := 1285) (by decide +kernel))) (by decide +kernel)
set_option maxRecDepth 100000 in
theorem wd_1286 : (Jvm.Cond.instanceMethod ({ cls := "HoleWaterModel", name := "as", desc := "(II)I" } : Jvm.MethodName)) ∈ mh_T := mh_T_in (List.mem_append_right _ (List.mem_of_getElem? (i := 1286) (by decide +kernel))) (by decide +kernel)
set_option maxRecDepth 100000 in
theorem wd_1287 : (Jvm.Cond.selects "HoleWaterModel" ({ cls := "HoleWaterModel", name := "as", desc := "(II)I" } : Jvm.MethodName) ({ cls := "HoleWaterModel", name := "as", desc := "(II)I" } : Jvm.MethodName)) ∈ mh_T := mh_T_in (List.mem_append_right _ (List.mem_of_getElem? (i := 1287) (by decide +kernel))) (by decide +kernel)
set_option maxRecDepth 100000 in
theorem wd_1288 : (Jvm.Cond.code ({ cls := "HoleWaterModel", name := "as", desc := "(II)I" } : Jvm.MethodName) prog_14_method_19_code (3 : Nat) (Option.some Jvm.ClassFile.FieldType.int)) ∈ mh_T := mh_T_in (List.mem_append_right _ (List.mem_of_getElem? (i := 1288) (by decide +kernel))) (by decide +kernel)
set_option maxRecDepth 100000 in
theorem wd_1289 : (Jvm.Cond.methodLink "HoleWaterModel" (109 : Nat) ({ cls := "HoleWaterModel", name := "isWay", desc := "(I)Z" } : Jvm.MethodName)) ∈ mh_T := mh_T_in (List.mem_append_right _ (List.mem_of_getElem? (i := 1289) (by decide +kernel))) (by decide +kernel)
set_option maxRecDepth 100000 in
theorem wd_1291 : (Jvm.Cond.instanceMethod ({ cls := "HoleWaterModel", name := "isWay", desc := "(I)Z" } : Jvm.MethodName)) ∈ mh_T := mh_T_in (List.mem_append_right _ (List.mem_of_getElem? (i := 1291) (by decide +kernel))) (by decide +kernel)
set_option maxRecDepth 100000 in
theorem wd_1292 : (Jvm.Cond.code ({ cls := "HoleWaterModel", name := "isWay", desc := "(I)Z" } : Jvm.MethodName) prog_14_method_5_code (2 : Nat) (Option.some Jvm.ClassFile.FieldType.boolean)) ∈ mh_T := mh_T_in (List.mem_append_right _ (List.mem_of_getElem? (i := 1292) (by decide +kernel))) (by decide +kernel)
set_option maxRecDepth 100000 in
theorem wd_1293 : (Jvm.Cond.methodLink "HoleWaterModel" (105 : Nat) ({ cls := "HoleWaterModel", name := "isUnder", desc := "(II)Z" } : Jvm.MethodName)) ∈ mh_T := mh_T_in (List.mem_append_right _ (List.mem_of_getElem? (i := 1293) (by decide +kernel))) (by decide +kernel)
set_option maxRecDepth 100000 in
theorem wd_1294 : (Jvm.Cond.static ({ cls := "HoleWaterModel", name := "isUnder", desc := "(II)Z" } : Jvm.MethodName)) ∈ mh_T := mh_T_in (List.mem_append_right _ (List.mem_of_getElem? (i := 1294) (by decide +kernel))) (by decide +kernel)
set_option maxRecDepth 100000 in
theorem wd_1295 : (Jvm.Cond.code ({ cls := "HoleWaterModel", name := "isUnder", desc := "(II)Z" } : Jvm.MethodName) prog_14_method_17_code (3 : Nat) (Option.some Jvm.ClassFile.FieldType.boolean)) ∈ mh_T := mh_T_in (List.mem_append_right _ (List.mem_of_getElem? (i := 1295) (by decide +kernel))) (by decide +kernel)
set_option maxRecDepth 100000 in
theorem wd_1296 : (Jvm.Cond.methodLink "HoleWaterModel" (102 : Nat) ({ cls := "HoleWaterModel", name := "above", desc := "(I)I" } : Jvm.MethodName)) ∈ mh_T := mh_T_in (List.mem_append_right _ (List.mem_of_getElem? (i := 1296) (by decide +kernel))) (by decide +kernel)
set_option maxRecDepth 100000 in
theorem wd_1297 : (Jvm.Cond.static ({ cls := "HoleWaterModel", name := "above", desc := "(I)I" } : Jvm.MethodName)) ∈ mh_T := mh_T_in (List.mem_append_right _ (List.mem_of_getElem? (i := 1297) (by decide +kernel))) (by decide +kernel)
set_option maxRecDepth 100000 in
theorem wd_1298 : (Jvm.Cond.code ({ cls := "HoleWaterModel", name := "above", desc := "(I)I" } : Jvm.MethodName) prog_14_method_16_code (1 : Nat) (Option.some Jvm.ClassFile.FieldType.int)) ∈ mh_T := mh_T_in (List.mem_append_right _ (List.mem_of_getElem? (i := 1298) (by decide +kernel))) (by decide +kernel)
set_option maxRecDepth 100000 in
theorem wd_1299 : (Jvm.Cond.methodLink "HoleWaterModel" (112 : Nat) ({ cls := "HoleWaterModel", name := "takes", desc := "(I)I" } : Jvm.MethodName)) ∈ mh_T := mh_T_in (List.mem_append_right _ (List.mem_of_getElem? (i := 1299) (by decide +kernel))) (by decide +kernel)
set_option maxRecDepth 100000 in
theorem wd_1301 : (Jvm.Cond.instanceMethod ({ cls := "HoleWaterModel", name := "takes", desc := "(I)I" } : Jvm.MethodName)) ∈ mh_T := mh_T_in (List.mem_append_right _ (List.mem_of_getElem? (i := 1301) (by decide +kernel))) (by decide +kernel)
set_option maxRecDepth 100000 in
theorem wd_1302 : (Jvm.Cond.code ({ cls := "HoleWaterModel", name := "takes", desc := "(I)I" } : Jvm.MethodName) prog_14_method_18_code (4 : Nat) (Option.some Jvm.ClassFile.FieldType.int)) ∈ mh_T := mh_T_in (List.mem_append_right _ (List.mem_of_getElem? (i := 1302) (by decide +kernel))) (by decide +kernel)
set_option maxRecDepth 100000 in
theorem wd_1303 : (Jvm.Cond.methodLink "HoleWaterLaw" (35 : Nat) ({ cls := "HoleWaterModel", name := "wayIs", desc := "(II)I" } : Jvm.MethodName)) ∈ mh_T := mh_T_in (List.mem_append_right _ (List.mem_of_getElem? (i := 1303) (by decide +kernel))) (by decide +kernel)
set_option maxRecDepth 100000 in
theorem wd_1304 : (Jvm.Cond.instanceMethod ({ cls := "HoleWaterModel", name := "wayIs", desc := "(II)I" } : Jvm.MethodName)) ∈ mh_T := mh_T_in (List.mem_append_right _ (List.mem_of_getElem? (i := 1304) (by decide +kernel))) (by decide +kernel)
set_option maxRecDepth 100000 in
theorem wd_1305 : (Jvm.Cond.selects "HoleWaterModel" ({ cls := "HoleWaterModel", name := "wayIs", desc := "(II)I" } : Jvm.MethodName) ({ cls := "HoleWaterModel", name := "wayIs", desc := "(II)I" } : Jvm.MethodName)) ∈ mh_T := mh_T_in (List.mem_append_right _ (List.mem_of_getElem? (i := 1305) (by decide +kernel))) (by decide +kernel)
set_option maxRecDepth 100000 in
theorem wd_1306 : (Jvm.Cond.code ({ cls := "HoleWaterModel", name := "wayIs", desc := "(II)I" } : Jvm.MethodName) prog_14_method_21_code (3 : Nat) (Option.some Jvm.ClassFile.FieldType.int)) ∈ mh_T := mh_T_in (List.mem_append_right _ (List.mem_of_getElem? (i := 1306) (by decide +kernel))) (by decide +kernel)
set_option maxRecDepth 100000 in
theorem wd_1307 : (Jvm.Cond.methodLink "HoleWaterModel" (115 : Nat) ({ cls := "HoleWaterModel", name := "inWay", desc := "(II)I" } : Jvm.MethodName)) ∈ mh_T := mh_T_in (List.mem_append_right _ (List.mem_of_getElem? (i := 1307) (by decide +kernel))) (by decide +kernel)
set_option maxRecDepth 100000 in
theorem wd_1309 : (Jvm.Cond.instanceMethod ({ cls := "HoleWaterModel", name := "inWay", desc := "(II)I" } : Jvm.MethodName)) ∈ mh_T := mh_T_in (List.mem_append_right _ (List.mem_of_getElem? (i := 1309) (by decide +kernel))) (by decide +kernel)
set_option maxRecDepth 100000 in
theorem wd_1310 : (Jvm.Cond.code ({ cls := "HoleWaterModel", name := "inWay", desc := "(II)I" } : Jvm.MethodName) prog_14_method_20_code (5 : Nat) (Option.some Jvm.ClassFile.FieldType.int)) ∈ mh_T := mh_T_in (List.mem_append_right _ (List.mem_of_getElem? (i := 1310) (by decide +kernel))) (by decide +kernel)
set_option maxRecDepth 100000 in
theorem wd_1311 : (Jvm.Cond.methodLink "HoleWaterLaw" (40 : Nat) ({ cls := "HoleWaterModel", name := "hangs", desc := "(IZ)I" } : Jvm.MethodName)) ∈ mh_T := mh_T_in (List.mem_append_right _ (List.mem_of_getElem? (i := 1311) (by decide +kernel))) (by decide +kernel)
set_option maxRecDepth 100000 in
theorem wd_1312 : (Jvm.Cond.instanceMethod ({ cls := "HoleWaterModel", name := "hangs", desc := "(IZ)I" } : Jvm.MethodName)) ∈ mh_T := mh_T_in (List.mem_append_right _ (List.mem_of_getElem? (i := 1312) (by decide +kernel))) (by decide +kernel)
set_option maxRecDepth 100000 in
theorem wd_1313 : (Jvm.Cond.selects "HoleWaterModel" ({ cls := "HoleWaterModel", name := "hangs", desc := "(IZ)I" } : Jvm.MethodName) ({ cls := "HoleWaterModel", name := "hangs", desc := "(IZ)I" } : Jvm.MethodName)) ∈ mh_T := mh_T_in (List.mem_append_right _ (List.mem_of_getElem? (i := 1313) (by decide +kernel))) (by decide +kernel)
set_option maxRecDepth 100000 in
theorem wd_1314 : (Jvm.Cond.code ({ cls := "HoleWaterModel", name := "hangs", desc := "(IZ)I" } : Jvm.MethodName) prog_14_method_23_code (5 : Nat) (Option.some Jvm.ClassFile.FieldType.int)) ∈ mh_T := mh_T_in (List.mem_append_right _ (List.mem_of_getElem? (i := 1314) (by decide +kernel))) (by decide +kernel)
set_option maxRecDepth 100000 in
theorem wd_1315 : (Jvm.Cond.methodLink "HoleWaterModel" (119 : Nat) ({ cls := "HoleWaterModel", name := "findFar", desc := "(IZ)V" } : Jvm.MethodName)) ∈ mh_T := mh_T_in (List.mem_append_right _ (List.mem_of_getElem? (i := 1315) (by decide +kernel))) (by decide +kernel)
set_option maxRecDepth 100000 in
theorem wd_1317 : (Jvm.Cond.instanceMethod ({ cls := "HoleWaterModel", name := "findFar", desc := "(IZ)V" } : Jvm.MethodName)) ∈ mh_T := mh_T_in (List.mem_append_right _ (List.mem_of_getElem? (i := 1317) (by decide +kernel))) (by decide +kernel)
set_option maxRecDepth 100000 in
theorem wd_1318 : (Jvm.Cond.code ({ cls := "HoleWaterModel", name := "findFar", desc := "(IZ)V" } : Jvm.MethodName) prog_14_method_22_code (9 : Nat) (Option.none : Option Jvm.ClassFile.FieldType)) ∈ mh_T := mh_T_in (List.mem_append_right _ (List.mem_of_getElem? (i := 1318) (by decide +kernel))) (by decide +kernel)
set_option maxRecDepth 100000 in
theorem wd_1319 : (Jvm.Cond.methodLink "HoleWaterLaw" (44 : Nat) ({ cls := "HoleWaterModel", name := "quick", desc := "(II)I" } : Jvm.MethodName)) ∈ mh_T := mh_T_in (List.mem_append_right _ (List.mem_of_getElem? (i := 1319) (by decide +kernel))) (by decide +kernel)
set_option maxRecDepth 100000 in
theorem wd_1320 : (Jvm.Cond.instanceMethod ({ cls := "HoleWaterModel", name := "quick", desc := "(II)I" } : Jvm.MethodName)) ∈ mh_T := mh_T_in (List.mem_append_right _ (List.mem_of_getElem? (i := 1320) (by decide +kernel))) (by decide +kernel)
set_option maxRecDepth 100000 in
theorem wd_1321 : (Jvm.Cond.selects "HoleWaterModel" ({ cls := "HoleWaterModel", name := "quick", desc := "(II)I" } : Jvm.MethodName) ({ cls := "HoleWaterModel", name := "quick", desc := "(II)I" } : Jvm.MethodName)) ∈ mh_T := mh_T_in (List.mem_append_right _ (List.mem_of_getElem? (i := 1321) (by decide +kernel))) (by decide +kernel)
set_option maxRecDepth 100000 in
theorem wd_1322 : (Jvm.Cond.code ({ cls := "HoleWaterModel", name := "quick", desc := "(II)I" } : Jvm.MethodName) prog_14_method_24_code (3 : Nat) (Option.some Jvm.ClassFile.FieldType.int)) ∈ mh_T := mh_T_in (List.mem_append_right _ (List.mem_of_getElem? (i := 1322) (by decide +kernel))) (by decide +kernel)
set_option maxRecDepth 100000 in
theorem wd_1323 : (Jvm.Cond.methodLink "HoleWaterLaw" (49 : Nat) ({ cls := "HoleWaterModel", name := "flood", desc := "(Z)I" } : Jvm.MethodName)) ∈ mh_T := mh_T_in (List.mem_append_right _ (List.mem_of_getElem? (i := 1323) (by decide +kernel))) (by decide +kernel)
set_option maxRecDepth 100000 in
theorem wd_1324 : (Jvm.Cond.instanceMethod ({ cls := "HoleWaterModel", name := "flood", desc := "(Z)I" } : Jvm.MethodName)) ∈ mh_T := mh_T_in (List.mem_append_right _ (List.mem_of_getElem? (i := 1324) (by decide +kernel))) (by decide +kernel)
set_option maxRecDepth 100000 in
theorem wd_1325 : (Jvm.Cond.selects "HoleWaterModel" ({ cls := "HoleWaterModel", name := "flood", desc := "(Z)I" } : Jvm.MethodName) ({ cls := "HoleWaterModel", name := "flood", desc := "(Z)I" } : Jvm.MethodName)) ∈ mh_T := mh_T_in (List.mem_append_right _ (List.mem_of_getElem? (i := 1325) (by decide +kernel))) (by decide +kernel)
set_option maxRecDepth 100000 in
theorem wd_1326 : (Jvm.Cond.code ({ cls := "HoleWaterModel", name := "flood", desc := "(Z)I" } : Jvm.MethodName) prog_14_method_34_code (3 : Nat) (Option.some Jvm.ClassFile.FieldType.int)) ∈ mh_T := mh_T_in (List.mem_append_right _ (List.mem_of_getElem? (i := 1326) (by decide +kernel))) (by decide +kernel)
set_option maxRecDepth 100000 in
theorem wd_1327 : (Jvm.Cond.methodLink "HoleWaterLaw" (53 : Nat) ({ cls := "HoleWaterModel", name := "fade", desc := "(II)I" } : Jvm.MethodName)) ∈ mh_T := mh_T_in (List.mem_append_right _ (List.mem_of_getElem? (i := 1327) (by decide +kernel))) (by decide +kernel)
set_option maxRecDepth 100000 in
theorem wd_1328 : (Jvm.Cond.instanceMethod ({ cls := "HoleWaterModel", name := "fade", desc := "(II)I" } : Jvm.MethodName)) ∈ mh_T := mh_T_in (List.mem_append_right _ (List.mem_of_getElem? (i := 1328) (by decide +kernel))) (by decide +kernel)
set_option maxRecDepth 100000 in
theorem wd_1329 : (Jvm.Cond.selects "HoleWaterModel" ({ cls := "HoleWaterModel", name := "fade", desc := "(II)I" } : Jvm.MethodName) ({ cls := "HoleWaterModel", name := "fade", desc := "(II)I" } : Jvm.MethodName)) ∈ mh_T := mh_T_in (List.mem_append_right _ (List.mem_of_getElem? (i := 1329) (by decide +kernel))) (by decide +kernel)
set_option maxRecDepth 100000 in
theorem wd_1330 : (Jvm.Cond.code ({ cls := "HoleWaterModel", name := "fade", desc := "(II)I" } : Jvm.MethodName) prog_14_method_35_code (4 : Nat) (Option.some Jvm.ClassFile.FieldType.int)) ∈ mh_T := mh_T_in (List.mem_append_right _ (List.mem_of_getElem? (i := 1330) (by decide +kernel))) (by decide +kernel)
set_option maxRecDepth 100000 in
theorem wd_1331 : (Jvm.Cond.methodLink "HoleWaterModel" (155 : Nat) ({ cls := "HoleWaterModel", name := "isColour", desc := "(I)Z" } : Jvm.MethodName)) ∈ mh_T := mh_T_in (List.mem_append_right _ (List.mem_of_getElem? (i := 1331) (by decide +kernel))) (by decide +kernel)
set_option maxRecDepth 100000 in
theorem wd_1332 : (Jvm.Cond.static ({ cls := "HoleWaterModel", name := "isColour", desc := "(I)Z" } : Jvm.MethodName)) ∈ mh_T := mh_T_in (List.mem_append_right _ (List.mem_of_getElem? (i := 1332) (by decide +kernel))) (by decide +kernel)
set_option maxRecDepth 100000 in
theorem wd_1333 : (Jvm.Cond.code ({ cls := "HoleWaterModel", name := "isColour", desc := "(I)Z" } : Jvm.MethodName) prog_14_method_6_code (1 : Nat) (Option.some Jvm.ClassFile.FieldType.boolean)) ∈ mh_T := mh_T_in (List.mem_append_right _ (List.mem_of_getElem? (i := 1333) (by decide +kernel))) (by decide +kernel)
set_option maxRecDepth 100000 in
theorem wd_1334 : (Jvm.Cond.methodLink "HoleWaterLaw" (58 : Nat) ({ cls := "HoleWaterModel", name := "hours", desc := "(I)I" } : Jvm.MethodName)) ∈ mh_T := mh_T_in (List.mem_append_right _ (List.mem_of_getElem? (i := 1334) (by decide +kernel))) (by decide +kernel)
set_option maxRecDepth 100000 in
theorem wd_1335 : (Jvm.Cond.instanceMethod ({ cls := "HoleWaterModel", name := "hours", desc := "(I)I" } : Jvm.MethodName)) ∈ mh_T := mh_T_in (List.mem_append_right _ (List.mem_of_getElem? (i := 1335) (by decide +kernel))) (by decide +kernel)
set_option maxRecDepth 100000 in
theorem wd_1336 : (Jvm.Cond.selects "HoleWaterModel" ({ cls := "HoleWaterModel", name := "hours", desc := "(I)I" } : Jvm.MethodName) ({ cls := "HoleWaterModel", name := "hours", desc := "(I)I" } : Jvm.MethodName)) ∈ mh_T := mh_T_in (List.mem_append_right _ (List.mem_of_getElem? (i := 1336) (by decide +kernel))) (by decide +kernel)
set_option maxRecDepth 100000 in
theorem wd_1337 : (Jvm.Cond.code ({ cls := "HoleWaterModel", name := "hours", desc := "(I)I" } : Jvm.MethodName) prog_14_method_36_code (3 : Nat) (Option.some Jvm.ClassFile.FieldType.int)) ∈ mh_T := mh_T_in (List.mem_append_right _ (List.mem_of_getElem? (i := 1337) (by decide +kernel))) (by decide +kernel)
set_option maxRecDepth 100000 in
theorem wd_1338 : (Jvm.Cond.constantLong "HoleWaterModel" (158 : Nat) (60 : Int64)) ∈ mh_T := mh_T_in (List.mem_append_right _ (List.mem_of_getElem? (i := 1338) (by decide +kernel))) (by decide +kernel)
set_option maxRecDepth 100000 in
theorem wd_1339 : (Jvm.Cond.methodLink "HoleWaterModel" (160 : Nat) ({ cls := "HoleWaterModel", name := "hour", desc := "()V" } : Jvm.MethodName)) ∈ mh_T := mh_T_in (List.mem_append_right _ (List.mem_of_getElem? (i := 1339) (by decide +kernel))) (by decide +kernel)
set_option maxRecDepth 100000 in
theorem wd_1341 : (Jvm.Cond.instanceMethod ({ cls := "HoleWaterModel", name := "hour", desc := "()V" } : Jvm.MethodName)) ∈ mh_T := mh_T_in (List.mem_append_right _ (List.mem_of_getElem? (i := 1341) (by decide +kernel))) (by decide +kernel)
set_option maxRecDepth 100000 in
theorem wd_1342 : (Jvm.Cond.code ({ cls := "HoleWaterModel", name := "hour", desc := "()V" } : Jvm.MethodName) prog_14_method_33_code (2 : Nat) (Option.none : Option Jvm.ClassFile.FieldType)) ∈ mh_T := mh_T_in (List.mem_append_right _ (List.mem_of_getElem? (i := 1342) (by decide +kernel))) (by decide +kernel)
set_option maxRecDepth 100000 in
theorem wd_1343 : (Jvm.Cond.methodLink "HoleWaterModel" (142 : Nat) ({ cls := "HoleWaterModel", name := "comesOut", desc := "(I)V" } : Jvm.MethodName)) ∈ mh_T := mh_T_in (List.mem_append_right _ (List.mem_of_getElem? (i := 1343) (by decide +kernel))) (by decide +kernel)
set_option maxRecDepth 100000 in
theorem wd_1345 : (Jvm.Cond.instanceMethod ({ cls := "HoleWaterModel", name := "comesOut", desc := "(I)V" } : Jvm.MethodName)) ∈ mh_T := mh_T_in (List.mem_append_right _ (List.mem_of_getElem? (i := 1345) (by decide +kernel))) (by decide +kernel)
set_option maxRecDepth 100000 in
theorem wd_1346 : (Jvm.Cond.code ({ cls := "HoleWaterModel", name := "comesOut", desc := "(I)V" } : Jvm.MethodName) prog_14_method_26_code (11 : Nat) (Option.none : Option Jvm.ClassFile.FieldType)) ∈ mh_T := mh_T_in (List.mem_append_right _ (List.mem_of_getElem? (i := 1346) (by decide +kernel))) (by decide +kernel)
set_option maxRecDepth 100000 in
theorem wd_1347 : (Jvm.Cond.methodLink "HoleWaterModel" (123 : Nat) ({ cls := "HoleWaterModel", name := "stuffAt", desc := "(II)I" } : Jvm.MethodName)) ∈ mh_T := mh_T_in (List.mem_append_right _ (List.mem_of_getElem? (i := 1347) (by decide +kernel))) (by decide +kernel)
set_option maxRecDepth 100000 in
theorem wd_1348 : (Jvm.Cond.static ({ cls := "HoleWaterModel", name := "stuffAt", desc := "(II)I" } : Jvm.MethodName)) ∈ mh_T := mh_T_in (List.mem_append_right _ (List.mem_of_getElem? (i := 1348) (by decide +kernel))) (by decide +kernel)
set_option maxRecDepth 100000 in
theorem wd_1349 : (Jvm.Cond.code ({ cls := "HoleWaterModel", name := "stuffAt", desc := "(II)I" } : Jvm.MethodName) prog_14_method_25_code (2 : Nat) (Option.some Jvm.ClassFile.FieldType.int)) ∈ mh_T := mh_T_in (List.mem_append_right _ (List.mem_of_getElem? (i := 1349) (by decide +kernel))) (by decide +kernel)
set_option maxRecDepth 100000 in
theorem wd_1350 : (Jvm.Cond.methodLink "HoleWaterModel" (146 : Nat) ({ cls := "HoleWaterModel", name := "rainOf", desc := "(I)I" } : Jvm.MethodName)) ∈ mh_T := mh_T_in (List.mem_append_right _ (List.mem_of_getElem? (i := 1350) (by decide +kernel))) (by decide +kernel)
set_option maxRecDepth 100000 in
theorem wd_1352 : (Jvm.Cond.instanceMethod ({ cls := "HoleWaterModel", name := "rainOf", desc := "(I)I" } : Jvm.MethodName)) ∈ mh_T := mh_T_in (List.mem_append_right _ (List.mem_of_getElem? (i := 1352) (by decide +kernel))) (by decide +kernel)
set_option maxRecDepth 100000 in
theorem wd_1353 : (Jvm.Cond.code ({ cls := "HoleWaterModel", name := "rainOf", desc := "(I)I" } : Jvm.MethodName) prog_14_method_67_code (2 : Nat) (Option.some Jvm.ClassFile.FieldType.int)) ∈ mh_T := mh_T_in (List.mem_append_right _ (List.mem_of_getElem? (i := 1353) (by decide +kernel))) (by decide +kernel)
set_option maxRecDepth 100000 in
theorem wd_1354 : (Jvm.Cond.methodLink "HoleWaterModel" (256 : Nat) ({ cls := "HoleWaterModel", name := "says", desc := "(I)I" } : Jvm.MethodName)) ∈ mh_T := mh_T_in (List.mem_append_right _ (List.mem_of_getElem? (i := 1354) (by decide +kernel))) (by decide +kernel)
set_option maxRecDepth 100000 in
theorem wd_1356 : (Jvm.Cond.instanceMethod ({ cls := "HoleWaterModel", name := "says", desc := "(I)I" } : Jvm.MethodName)) ∈ mh_T := mh_T_in (List.mem_append_right _ (List.mem_of_getElem? (i := 1356) (by decide +kernel))) (by decide +kernel)
set_option maxRecDepth 100000 in
theorem wd_1357 : (Jvm.Cond.code ({ cls := "HoleWaterModel", name := "says", desc := "(I)I" } : Jvm.MethodName) prog_14_method_65_code (10 : Nat) (Option.some Jvm.ClassFile.FieldType.int)) ∈ mh_T := mh_T_in (List.mem_append_right _ (List.mem_of_getElem? (i := 1357) (by decide +kernel))) (by decide +kernel)
set_option maxRecDepth 100000 in
theorem wd_1358 : (Jvm.Cond.methodLink "HoleWaterModel" (253 : Nat) ({ cls := "HoleWaterModel", name := "goes", desc := "(III)I" } : Jvm.MethodName)) ∈ mh_T := mh_T_in (List.mem_append_right _ (List.mem_of_getElem? (i := 1358) (by decide +kernel))) (by decide +kernel)
set_option maxRecDepth 100000 in
theorem wd_1360 : (Jvm.Cond.instanceMethod ({ cls := "HoleWaterModel", name := "goes", desc := "(III)I" } : Jvm.MethodName)) ∈ mh_T := mh_T_in (List.mem_append_right _ (List.mem_of_getElem? (i := 1360) (by decide +kernel))) (by decide +kernel)
set_option maxRecDepth 100000 in
theorem wd_1361 : (Jvm.Cond.code ({ cls := "HoleWaterModel", name := "goes", desc := "(III)I" } : Jvm.MethodName) prog_14_method_64_code (7 : Nat) (Option.some Jvm.ClassFile.FieldType.int)) ∈ mh_T := mh_T_in (List.mem_append_right _ (List.mem_of_getElem? (i := 1361) (by decide +kernel))) (by decide +kernel)
set_option maxRecDepth 100000 in
theorem wd_1362 : (Jvm.Cond.methodLink "HoleWaterModel" (250 : Nat) ({ cls := "HoleWaterModel", name := "two", desc := "(III)I" } : Jvm.MethodName)) ∈ mh_T := mh_T_in (List.mem_append_right _ (List.mem_of_getElem? (i := 1362) (by decide +kernel))) (by decide +kernel)
set_option maxRecDepth 100000 in
theorem wd_1363 : (Jvm.Cond.static ({ cls := "HoleWaterModel", name := "two", desc := "(III)I" } : Jvm.MethodName)) ∈ mh_T := mh_T_in (List.mem_append_right _ (List.mem_of_getElem? (i := 1363) (by decide +kernel))) (by decide +kernel)
set_option maxRecDepth 100000 in
theorem wd_1364 : (Jvm.Cond.code ({ cls := "HoleWaterModel", name := "two", desc := "(III)I" } : Jvm.MethodName) prog_14_method_63_code (3 : Nat) (Option.some Jvm.ClassFile.FieldType.int)) ∈ mh_T := mh_T_in (List.mem_append_right _ (List.mem_of_getElem? (i := 1364) (by decide +kernel))) (by decide +kernel)
set_option maxRecDepth 100000 in
theorem wd_1365 : (Jvm.Cond.methodLink "HoleWaterModel" (259 : Nat) ({ cls := "HoleWaterModel", name := "within", desc := "(III)I" } : Jvm.MethodName)) ∈ mh_T := mh_T_in (List.mem_append_right _ (List.mem_of_getElem? (i := 1365) (by decide +kernel))) (by decide +kernel)
set_option maxRecDepth 100000 in
theorem wd_1366 : (Jvm.Cond.static ({ cls := "HoleWaterModel", name := "within", desc := "(III)I" } : Jvm.MethodName)) ∈ mh_T := mh_T_in (List.mem_append_right _ (List.mem_of_getElem? (i := 1366) (by decide +kernel))) (by decide +kernel)
set_option maxRecDepth 100000 in
theorem wd_1367 : (Jvm.Cond.code ({ cls := "HoleWaterModel", name := "within", desc := "(III)I" } : Jvm.MethodName) prog_14_method_66_code (3 : Nat) (Option.some Jvm.ClassFile.FieldType.int)) ∈ mh_T := mh_T_in (List.mem_append_right _ (List.mem_of_getElem? (i := 1367) (by decide +kernel))) (by decide +kernel)
set_option maxRecDepth 100000 in
theorem wd_1368 : (Jvm.Cond.methodLink "HoleWaterModel" (149 : Nat) ({ cls := "HoleWaterModel", name := "rises", desc := "(I)V" } : Jvm.MethodName)) ∈ mh_T := mh_T_in (List.mem_append_right _ (List.mem_of_getElem? (i := 1368) (by decide +kernel))) (by decide +kernel)
set_option maxRecDepth 100000 in
theorem wd_1370 : (Jvm.Cond.instanceMethod ({ cls := "HoleWaterModel", name := "rises", desc := "(I)V" } : Jvm.MethodName)) ∈ mh_T := mh_T_in (List.mem_append_right _ (List.mem_of_getElem? (i := 1370) (by decide +kernel))) (by decide +kernel)
set_option maxRecDepth 100000 in
theorem wd_1371 : (Jvm.Cond.code ({ cls := "HoleWaterModel", name := "rises", desc := "(I)V" } : Jvm.MethodName) prog_14_method_27_code (6 : Nat) (Option.none : Option Jvm.ClassFile.FieldType)) ∈ mh_T := mh_T_in (List.mem_append_right _ (List.mem_of_getElem? (i := 1371) (by decide +kernel))) (by decide +kernel)
set_option maxRecDepth 100000 in
theorem wd_1372 : (Jvm.Cond.methodLink "HoleWaterModel" (126 : Nat) ({ cls := "HoleWaterModel", name := "isSpring", desc := "(I)Z" } : Jvm.MethodName)) ∈ mh_T := mh_T_in (List.mem_append_right _ (List.mem_of_getElem? (i := 1372) (by decide +kernel))) (by decide +kernel)
set_option maxRecDepth 100000 in
theorem wd_1374 : (Jvm.Cond.instanceMethod ({ cls := "HoleWaterModel", name := "isSpring", desc := "(I)Z" } : Jvm.MethodName)) ∈ mh_T := mh_T_in (List.mem_append_right _ (List.mem_of_getElem? (i := 1374) (by decide +kernel))) (by decide +kernel)
set_option maxRecDepth 100000 in
theorem wd_1375 : (Jvm.Cond.code ({ cls := "HoleWaterModel", name := "isSpring", desc := "(I)Z" } : Jvm.MethodName) prog_14_method_11_code (2 : Nat) (Option.some Jvm.ClassFile.FieldType.boolean)) ∈ mh_T := mh_T_in (List.mem_append_right _ (List.mem_of_getElem? (i := 1375) (by decide +kernel))) (by decide +kernel)
set_option maxRecDepth 100000 in
theorem wd_1376 : (Jvm.Cond.methodLink "HoleWaterModel" (152 : Nat) ({ cls := "HoleWaterModel", name := "flows", desc := "(I)V" } : Jvm.MethodName)) ∈ mh_T := mh_T_in (List.mem_append_right _ (List.mem_of_getElem? (i := 1376) (by decide +kernel))) (by decide +kernel)
set_option maxRecDepth 100000 in
theorem wd_1378 : (Jvm.Cond.instanceMethod ({ cls := "HoleWaterModel", name := "flows", desc := "(I)V" } : Jvm.MethodName)) ∈ mh_T := mh_T_in (List.mem_append_right _ (List.mem_of_getElem? (i := 1378) (by decide +kernel))) (by decide +kernel)
set_option maxRecDepth 100000 in
theorem wd_1379 : (Jvm.Cond.code ({ cls := "HoleWaterModel", name := "flows", desc := "(I)V" } : Jvm.MethodName) prog_14_method_32_code (11 : Nat) (Option.none : Option Jvm.ClassFile.FieldType)) ∈ mh_T := mh_T_in (List.mem_append_right _ (List.mem_of_getElem? (i := 1379) (by decide +kernel))) (by decide +kernel)
set_option maxRecDepth 100000 in
theorem wd_1380 : (Jvm.Cond.methodLink "HoleWaterModel" (135 : Nat) ({ cls := "HoleWaterModel", name := "parts", desc := "(I)I" } : Jvm.MethodName)) ∈ mh_T := mh_T_in (List.mem_append_right _ (List.mem_of_getElem? (i := 1380) (by decide +kernel))) (by decide +kernel)
set_option maxRecDepth 100000 in
theorem wd_1382 : (Jvm.Cond.instanceMethod ({ cls := "HoleWaterModel", name := "parts", desc := "(I)I" } : Jvm.MethodName)) ∈ mh_T := mh_T_in (List.mem_append_right _ (List.mem_of_getElem? (i := 1382) (by decide +kernel))) (by decide +kernel)
set_option maxRecDepth 100000 in
theorem wd_1383 : (Jvm.Cond.code ({ cls := "HoleWaterModel", name := "parts", desc := "(I)I" } : Jvm.MethodName) prog_14_method_30_code (6 : Nat) (Option.some Jvm.ClassFile.FieldType.int)) ∈ mh_T := mh_T_in (List.mem_append_right _ (List.mem_of_getElem? (i := 1383) (by decide +kernel))) (by decide +kernel)
set_option maxRecDepth 100000 in
theorem wd_1384 : (Jvm.Cond.methodLink "HoleWaterModel" (129 : Nat) ({ cls := "HoleWaterModel", name := "isFrom", desc := "(II)Z" } : Jvm.MethodName)) ∈ mh_T := mh_T_in (List.mem_append_right _ (List.mem_of_getElem? (i := 1384) (by decide +kernel))) (by decide +kernel)
