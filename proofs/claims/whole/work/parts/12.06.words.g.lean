set_option maxRecDepth 100000 in
theorem wd_1163 : (Jvm.Cond.code ({ cls := "HoleWater$Looks", name := "howManySaw", desc := "()I" } : Jvm.MethodName) prog_3_method_10_code (3 : Nat) (Option.some Jvm.ClassFile.FieldType.int)) ∈ mh_T := mh_T_in (List.mem_append_right _ (List.mem_of_getElem? (i := 1163) (by decide +kernel))) (by decide +kernel)
set_option maxRecDepth 100000 in
theorem wd_1164 : (Jvm.Cond.methodLink "HoleWaterLaw" (200 : Nat) ({ cls := "HoleWater", name := "told", desc := "(I)I" } : Jvm.MethodName)) ∈ mh_T := mh_T_in (List.mem_append_right _ (List.mem_of_getElem? (i := 1164) (by decide +kernel))) (by decide +kernel)
set_option maxRecDepth 100000 in
theorem wd_1165 : (Jvm.Cond.instanceMethod ({ cls := "HoleWater", name := "told", desc := "(I)I" } : Jvm.MethodName)) ∈ mh_T := mh_T_in (List.mem_append_right _ (List.mem_of_getElem? (i := 1165) (by decide +kernel))) (by decide +kernel)
set_option maxRecDepth 100000 in
theorem wd_1166 : (Jvm.Cond.selects "HoleWater" ({ cls := "HoleWater", name := "told", desc := "(I)I" } : Jvm.MethodName) ({ cls := "HoleWater", name := "told", desc := "(I)I" } : Jvm.MethodName)) ∈ mh_T := mh_T_in (List.mem_append_right _ (List.mem_of_getElem? (i := 1166) (by decide +kernel))) (by decide +kernel)
set_option maxRecDepth 100000 in
theorem wd_1167 : (Jvm.Cond.code ({ cls := "HoleWater", name := "told", desc := "(I)I" } : Jvm.MethodName) prog_1_method_46_code (2 : Nat) (Option.some Jvm.ClassFile.FieldType.int)) ∈ mh_T := mh_T_in (List.mem_append_right _ (List.mem_of_getElem? (i := 1167) (by decide +kernel))) (by decide +kernel)
set_option maxRecDepth 100000 in
theorem wd_1168 : (Jvm.Cond.classLink "HoleWaterLaw" (10 : Nat) "HoleWaterModel") ∈ mh_T := mh_T_in (List.mem_append_right _ (List.mem_of_getElem? (i := 1168) (by decide +kernel))) (by decide +kernel)
set_option maxRecDepth 100000 in
theorem wd_1169 : (Jvm.Cond.instantiable "HoleWaterModel" (30 : Nat)) ∈ mh_T := mh_T_in (List.mem_append_right _ (List.mem_of_getElem? (i := 1169) (by decide +kernel))) (by decide +kernel)
set_option maxRecDepth 100000 in
theorem wd_1170 : (Jvm.Cond.methodLink "HoleWaterLaw" (12 : Nat) ({ cls := "HoleWaterModel", name := "<init>", desc := "()V" } : Jvm.MethodName)) ∈ mh_T := mh_T_in (List.mem_append_right _ (List.mem_of_getElem? (i := 1170) (by decide +kernel))) (by decide +kernel)
set_option maxRecDepth 100000 in
theorem wd_1171 : (Jvm.Cond.instanceMethod ({ cls := "HoleWaterModel", name := "<init>", desc := "()V" } : Jvm.MethodName)) ∈ mh_T := mh_T_in (List.mem_append_right _ (List.mem_of_getElem? (i := 1171) (by decide +kernel))) (by decide +kernel)
set_option maxRecDepth 100000 in
theorem wd_1172 : (Jvm.Cond.code ({ cls := "HoleWaterModel", name := "<init>", desc := "()V" } : Jvm.MethodName) prog_14_method_1_code (1 : Nat) (Option.none : Option Jvm.ClassFile.FieldType)) ∈ mh_T := mh_T_in (List.mem_append_right _ (List.mem_of_getElem? (i := 1172) (by decide +kernel))) (by decide +kernel)
set_option maxRecDepth 100000 in
theorem wd_1173 : (Jvm.Cond.methodLink "HoleWaterModel" (3 : Nat) ({ cls := "java/lang/Object", name := "<init>", desc := "()V" } : Jvm.MethodName)) ∈ mh_T := mh_T_in (List.mem_append_right _ (List.mem_of_getElem? (i := 1173) (by decide +kernel))) (by decide +kernel)
set_option maxRecDepth 100000 in
theorem wd_1174 : (Jvm.Cond.fieldLink "HoleWaterModel" (9 : Nat) "HoleWaterModel" "m" "[I") ∈ mh_T := mh_T_in (List.mem_append_right _ (List.mem_of_getElem? (i := 1174) (by decide +kernel))) (by decide +kernel)
set_option maxRecDepth 100000 in
theorem wd_1175 : (Jvm.Cond.fieldLink "HoleWaterModel" (13 : Nat) "HoleWaterModel" "kept" "[I") ∈ mh_T := mh_T_in (List.mem_append_right _ (List.mem_of_getElem? (i := 1175) (by decide +kernel))) (by decide +kernel)
set_option maxRecDepth 100000 in
theorem wd_1176 : (Jvm.Cond.fieldLink "HoleWaterModel" (16 : Nat) "HoleWaterModel" "aside" "[I") ∈ mh_T := mh_T_in (List.mem_append_right _ (List.mem_of_getElem? (i := 1176) (by decide +kernel))) (by decide +kernel)
set_option maxRecDepth 100000 in
theorem wd_1177 : (Jvm.Cond.fieldLink "HoleWaterModel" (349 : Nat) "HoleWaterModel" "images" "I") ∈ mh_T := mh_T_in (List.mem_append_right _ (List.mem_of_getElem? (i := 1177) (by decide +kernel))) (by decide +kernel)
set_option maxRecDepth 100000 in
theorem wd_1178 : (Jvm.Cond.fieldLink "HoleWaterModel" (19 : Nat) "HoleWaterModel" "errors" "[I") ∈ mh_T := mh_T_in (List.mem_append_right _ (List.mem_of_getElem? (i := 1178) (by decide +kernel))) (by decide +kernel)
set_option maxRecDepth 100000 in
theorem wd_1179 : (Jvm.Cond.fieldLink "HoleWaterModel" (22 : Nat) "HoleWaterModel" "far" "[I") ∈ mh_T := mh_T_in (List.mem_append_right _ (List.mem_of_getElem? (i := 1179) (by decide +kernel))) (by decide +kernel)
set_option maxRecDepth 100000 in
theorem wd_1180 : (Jvm.Cond.fieldLink "HoleWaterModel" (25 : Nat) "HoleWaterModel" "part" "[I") ∈ mh_T := mh_T_in (List.mem_append_right _ (List.mem_of_getElem? (i := 1180) (by decide +kernel))) (by decide +kernel)
set_option maxRecDepth 100000 in
theorem wd_1181 : (Jvm.Cond.fieldLink "HoleWaterModel" (28 : Nat) "HoleWaterModel" "code" "[I") ∈ mh_T := mh_T_in (List.mem_append_right _ (List.mem_of_getElem? (i := 1181) (by decide +kernel))) (by decide +kernel)
set_option maxRecDepth 100000 in
theorem wd_1182 : (Jvm.Cond.fieldLink "HoleWaterModel" (31 : Nat) "HoleWaterModel" "ends" "[I") ∈ mh_T := mh_T_in (List.mem_append_right _ (List.mem_of_getElem? (i := 1182) (by decide +kernel))) (by decide +kernel)
set_option maxRecDepth 100000 in
theorem wd_1183 : (Jvm.Cond.fieldLink "HoleWaterModel" (211 : Nat) "HoleWaterModel" "codes" "I") ∈ mh_T := mh_T_in (List.mem_append_right _ (List.mem_of_getElem? (i := 1183) (by decide +kernel))) (by decide +kernel)
set_option maxRecDepth 100000 in
theorem wd_1184 : (Jvm.Cond.fieldLink "HoleWaterModel" (241 : Nat) "HoleWaterModel" "cases" "I") ∈ mh_T := mh_T_in (List.mem_append_right _ (List.mem_of_getElem? (i := 1184) (by decide +kernel))) (by decide +kernel)
set_option maxRecDepth 100000 in
theorem wd_1185 : (Jvm.Cond.fieldLink "HoleWaterModel" (203 : Nat) "HoleWaterModel" "at" "I") ∈ mh_T := mh_T_in (List.mem_append_right _ (List.mem_of_getElem? (i := 1185) (by decide +kernel))) (by decide +kernel)
set_option maxRecDepth 100000 in
theorem wd_1186 : (Jvm.Cond.fieldLink "HoleWaterModel" (226 : Nat) "HoleWaterModel" "open" "I") ∈ mh_T := mh_T_in (List.mem_append_right _ (List.mem_of_getElem? (i := 1186) (by decide +kernel))) (by decide +kernel)
set_option maxRecDepth 100000 in
theorem wd_1187 : (Jvm.Cond.fieldLink "HoleWaterModel" (220 : Nat) "HoleWaterModel" "useRead" "I") ∈ mh_T := mh_T_in (List.mem_append_right _ (List.mem_of_getElem? (i := 1187) (by decide +kernel))) (by decide +kernel)
set_option maxRecDepth 100000 in
theorem wd_1188 : (Jvm.Cond.fieldLink "HoleWaterModel" (199 : Nat) "HoleWaterModel" "bad" "Z") ∈ mh_T := mh_T_in (List.mem_append_right _ (List.mem_of_getElem? (i := 1188) (by decide +kernel))) (by decide +kernel)
set_option maxRecDepth 100000 in
theorem wd_1189 : (Jvm.Cond.fieldLink "HoleWaterModel" (34 : Nat) "HoleWaterModel" "named" "[I") ∈ mh_T := mh_T_in (List.mem_append_right _ (List.mem_of_getElem? (i := 1189) (by decide +kernel))) (by decide +kernel)
set_option maxRecDepth 100000 in
theorem wd_1190 : (Jvm.Cond.fieldLink "HoleWaterModel" (37 : Nat) "HoleWaterModel" "stack" "[I") ∈ mh_T := mh_T_in (List.mem_append_right _ (List.mem_of_getElem? (i := 1190) (by decide +kernel))) (by decide +kernel)
set_option maxRecDepth 100000 in
theorem wd_1191 : (Jvm.Cond.fieldLink "HoleWaterModel" (40 : Nat) "HoleWaterModel" "someHoles" "[I") ∈ mh_T := mh_T_in (List.mem_append_right _ (List.mem_of_getElem? (i := 1191) (by decide +kernel))) (by decide +kernel)
set_option maxRecDepth 100000 in
theorem wd_1192 : (Jvm.Cond.fieldLink "HoleWaterModel" (43 : Nat) "HoleWaterModel" "someSprings" "[I") ∈ mh_T := mh_T_in (List.mem_append_right _ (List.mem_of_getElem? (i := 1192) (by decide +kernel))) (by decide +kernel)
set_option maxRecDepth 100000 in
theorem wd_1193 : (Jvm.Cond.fieldLink "HoleWaterModel" (46 : Nat) "HoleWaterModel" "holds" "[I") ∈ mh_T := mh_T_in (List.mem_append_right _ (List.mem_of_getElem? (i := 1193) (by decide +kernel))) (by decide +kernel)
set_option maxRecDepth 100000 in
theorem wd_1194 : (Jvm.Cond.fieldLink "HoleWaterModel" (49 : Nat) "HoleWaterModel" "nothing" "[I") ∈ mh_T := mh_T_in (List.mem_append_right _ (List.mem_of_getElem? (i := 1194) (by decide +kernel))) (by decide +kernel)
set_option maxRecDepth 100000 in
theorem wd_1195 : (Jvm.Cond.fieldLink "HoleWaterModel" (52 : Nat) "HoleWaterModel" "ran" "[I") ∈ mh_T := mh_T_in (List.mem_append_right _ (List.mem_of_getElem? (i := 1195) (by decide +kernel))) (by decide +kernel)
set_option maxRecDepth 100000 in
theorem wd_1196 : (Jvm.Cond.fieldLink "HoleWaterModel" (306 : Nat) "HoleWaterModel" "bodies" "I") ∈ mh_T := mh_T_in (List.mem_append_right _ (List.mem_of_getElem? (i := 1196) (by decide +kernel))) (by decide +kernel)
set_option maxRecDepth 100000 in
theorem wd_1197 : (Jvm.Cond.fieldLink "HoleWaterModel" (318 : Nat) "HoleWaterModel" "voiceKind" "I") ∈ mh_T := mh_T_in (List.mem_append_right _ (List.mem_of_getElem? (i := 1197) (by decide +kernel))) (by decide +kernel)
set_option maxRecDepth 100000 in
theorem wd_1198 : (Jvm.Cond.fieldLink "HoleWaterModel" (312 : Nat) "HoleWaterModel" "voiceLong" "I") ∈ mh_T := mh_T_in (List.mem_append_right _ (List.mem_of_getElem? (i := 1198) (by decide +kernel))) (by decide +kernel)
set_option maxRecDepth 100000 in
theorem wd_1199 : (Jvm.Cond.fieldLink "HoleWaterModel" (321 : Nat) "HoleWaterModel" "voiceN" "I") ∈ mh_T := mh_T_in (List.mem_append_right _ (List.mem_of_getElem? (i := 1199) (by decide +kernel))) (by decide +kernel)
set_option maxRecDepth 100000 in
theorem wd_1200 : (Jvm.Cond.fieldLink "HoleWaterModel" (338 : Nat) "HoleWaterModel" "isParted" "Z") ∈ mh_T := mh_T_in (List.mem_append_right _ (List.mem_of_getElem? (i := 1200) (by decide +kernel))) (by decide +kernel)
set_option maxRecDepth 100000 in
theorem wd_1201 : (Jvm.Cond.fieldLink "HoleWaterModel" (55 : Nat) "HoleWaterModel" "bits" "[I") ∈ mh_T := mh_T_in (List.mem_append_right _ (List.mem_of_getElem? (i := 1201) (by decide +kernel))) (by decide +kernel)
set_option maxRecDepth 100000 in
theorem wd_1202 : (Jvm.Cond.fieldLink "HoleWaterModel" (58 : Nat) "HoleWaterModel" "size" "[I") ∈ mh_T := mh_T_in (List.mem_append_right _ (List.mem_of_getElem? (i := 1202) (by decide +kernel))) (by decide +kernel)
set_option maxRecDepth 100000 in
theorem wd_1203 : (Jvm.Cond.fieldLink "HoleWaterModel" (61 : Nat) "HoleWaterModel" "number" "[I") ∈ mh_T := mh_T_in (List.mem_append_right _ (List.mem_of_getElem? (i := 1203) (by decide +kernel))) (by decide +kernel)
set_option maxRecDepth 100000 in
theorem wd_1265 : (Jvm.Cond.methodLink "HoleWaterLaw" (17 : Nat) ({ cls := "HoleWaterModel", name := "joint", desc := "(III)I" } : Jvm.MethodName)) ∈ mh_T := mh_T_in (List.mem_append_right _ (List.mem_of_getElem? (i := 1265) (by decide +kernel))) (by decide +kernel)
set_option maxRecDepth 100000 in
theorem wd_1266 : (Jvm.Cond.instanceMethod ({ cls := "HoleWaterModel", name := "joint", desc := "(III)I" } : Jvm.MethodName)) ∈ mh_T := mh_T_in (List.mem_append_right _ (List.mem_of_getElem? (i := 1266) (by decide +kernel))) (by decide +kernel)
set_option maxRecDepth 100000 in
theorem wd_1267 : (Jvm.Cond.selects "HoleWaterModel" ({ cls := "HoleWaterModel", name := "joint", desc := "(III)I" } : Jvm.MethodName) ({ cls := "HoleWaterModel", name := "joint", desc := "(III)I" } : Jvm.MethodName)) ∈ mh_T := mh_T_in (List.mem_append_right _ (List.mem_of_getElem? (i := 1267) (by decide +kernel))) (by decide +kernel)
set_option maxRecDepth 100000 in
theorem wd_1268 : (Jvm.Cond.code ({ cls := "HoleWaterModel", name := "joint", desc := "(III)I" } : Jvm.MethodName) prog_14_method_13_code (6 : Nat) (Option.some Jvm.ClassFile.FieldType.int)) ∈ mh_T := mh_T_in (List.mem_append_right _ (List.mem_of_getElem? (i := 1268) (by decide +kernel))) (by decide +kernel)
set_option maxRecDepth 100000 in
theorem wd_1269 : (Jvm.Cond.constantLong "HoleWaterModel" (69 : Nat) (3 : Int64)) ∈ mh_T := mh_T_in (List.mem_append_right _ (List.mem_of_getElem? (i := 1269) (by decide +kernel))) (by decide +kernel)
set_option maxRecDepth 100000 in
theorem wd_1270 : (Jvm.Cond.methodLink "HoleWaterModel" (65 : Nat) ({ cls := "HoleWaterModel", name := "in", desc := "(JJJ)Z" } : Jvm.MethodName)) ∈ mh_T := mh_T_in (List.mem_append_right _ (List.mem_of_getElem? (i := 1270) (by decide +kernel))) (by decide +kernel)
set_option maxRecDepth 100000 in
theorem wd_1271 : (Jvm.Cond.static ({ cls := "HoleWaterModel", name := "in", desc := "(JJJ)Z" } : Jvm.MethodName)) ∈ mh_T := mh_T_in (List.mem_append_right _ (List.mem_of_getElem? (i := 1271) (by decide +kernel))) (by decide +kernel)
set_option maxRecDepth 100000 in
theorem wd_1272 : (Jvm.Cond.code ({ cls := "HoleWaterModel", name := "in", desc := "(JJJ)Z" } : Jvm.MethodName) prog_14_method_3_code (6 : Nat) (Option.some Jvm.ClassFile.FieldType.boolean)) ∈ mh_T := mh_T_in (List.mem_append_right _ (List.mem_of_getElem? (i := 1272) (by decide +kernel))) (by decide +kernel)
set_option maxRecDepth 100000 in
theorem wd_1273 : (Jvm.Cond.constantLong "HoleWaterModel" (78 : Nat) (99 : Int64)) ∈ mh_T := mh_T_in (List.mem_append_right _ (List.mem_of_getElem? (i := 1273) (by decide +kernel))) (by decide +kernel)
set_option maxRecDepth 100000 in
theorem wd_1274 : (Jvm.Cond.methodLink "HoleWaterModel" (80 : Nat) ({ cls := "HoleWaterModel", name := "error", desc := "(I)I" } : Jvm.MethodName)) ∈ mh_T := mh_T_in (List.mem_append_right _ (List.mem_of_getElem? (i := 1274) (by decide +kernel))) (by decide +kernel)
set_option maxRecDepth 100000 in
theorem wd_1276 : (Jvm.Cond.instanceMethod ({ cls := "HoleWaterModel", name := "error", desc := "(I)I" } : Jvm.MethodName)) ∈ mh_T := mh_T_in (List.mem_append_right _ (List.mem_of_getElem? (i := 1276) (by decide +kernel))) (by decide +kernel)
set_option maxRecDepth 100000 in
theorem wd_1277 : (Jvm.Cond.code ({ cls := "HoleWaterModel", name := "error", desc := "(I)I" } : Jvm.MethodName) prog_14_method_2_code (2 : Nat) (Option.some Jvm.ClassFile.FieldType.int)) ∈ mh_T := mh_T_in (List.mem_append_right _ (List.mem_of_getElem? (i := 1277) (by decide +kernel))) (by decide +kernel)
set_option maxRecDepth 100000 in
theorem wd_1278 : (Jvm.Cond.constant "HoleWaterModel" (64 : Nat) (-1000000 : Int32)) ∈ mh_T := mh_T_in (List.mem_append_right _ (List.mem_of_getElem? (i := 1278) (by decide +kernel))) (by decide +kernel)
set_option maxRecDepth 100000 in
theorem wd_1279 : (Jvm.Cond.methodLink "HoleWaterModel" (71 : Nat) ({ cls := "HoleWaterModel", name := "joint", desc := "(I)I" } : Jvm.MethodName)) ∈ mh_T := mh_T_in (List.mem_append_right _ (List.mem_of_getElem? (i := 1279) (by decide +kernel))) (by decide +kernel)
set_option maxRecDepth 100000 in
theorem wd_1280 : (Jvm.Cond.static ({ cls := "HoleWaterModel", name := "joint", desc := "(I)I" } : Jvm.MethodName)) ∈ mh_T := mh_T_in (List.mem_append_right _ (List.mem_of_getElem? (i := 1280) (by decide +kernel))) (by decide +kernel)
set_option maxRecDepth 100000 in
theorem wd_1281 : (Jvm.Cond.code ({ cls := "HoleWaterModel", name := "joint", desc := "(I)I" } : Jvm.MethodName) prog_14_method_7_code (1 : Nat) (Option.some Jvm.ClassFile.FieldType.int)) ∈ mh_T := mh_T_in (List.mem_append_right _ (List.mem_of_getElem? (i := 1281) (by decide +kernel))) (by decide +kernel)
set_option maxRecDepth 100000 in
theorem wd_1282 : (Jvm.Cond.methodLink "HoleWaterLaw" (22 : Nat) ({ cls := "HoleWaterModel", name := "jointIs", desc := "(II)I" } : Jvm.MethodName)) ∈ mh_T := mh_T_in (List.mem_append_right _ (List.mem_of_getElem? (i := 1282) (by decide +kernel))) (by decide +kernel)
set_option maxRecDepth 100000 in
theorem wd_1283 : (Jvm.Cond.instanceMethod ({ cls := "HoleWaterModel", name := "jointIs", desc := "(II)I" } : Jvm.MethodName)) ∈ mh_T := mh_T_in (List.mem_append_right _ (List.mem_of_getElem? (i := 1283) (by decide +kernel))) (by decide +kernel)
set_option maxRecDepth 100000 in
theorem wd_1284 : (Jvm.Cond.selects "HoleWaterModel" ({ cls := "HoleWaterModel", name := "jointIs", desc := "(II)I" } : Jvm.MethodName) ({ cls := "HoleWaterModel", name := "jointIs", desc := "(II)I" } : Jvm.MethodName)) ∈ mh_T := mh_T_in (List.mem_append_right _ (List.mem_of_getElem? (i := 1284) (by decide +kernel))) (by decide +kernel)
set_option maxRecDepth 100000 in
theorem wd_1285 : (Jvm.Cond.code ({ cls := "HoleWaterModel", name := "jointIs", desc := "(II)I" } : Jvm.MethodName) prog_14_method_14_code (3 : Nat) (Option.some Jvm.ClassFile.FieldType.int)) ∈ mh_T := mh_T_in (List.mem_append_right _ (List.mem_of_getElem? (i := 1285) (by decide +kernel))) (by decide +kernel)
set_option maxRecDepth 100000 in
theorem wd_1286 : (Jvm.Cond.methodLink "HoleWaterModel" (83 : Nat) ({ cls := "HoleWaterModel", name := "isJoint", desc := "(I)Z" } : Jvm.MethodName)) ∈ mh_T := mh_T_in (List.mem_append_right _ (List.mem_of_getElem? (i := 1286) (by decide +kernel))) (by decide +kernel)
set_option maxRecDepth 100000 in
theorem wd_1288 : (Jvm.Cond.instanceMethod ({ cls := "HoleWaterModel", name := "isJoint", desc := "(I)Z" } : Jvm.MethodName)) ∈ mh_T := mh_T_in (List.mem_append_right _ (List.mem_of_getElem? (i := 1288) (by decide +kernel))) (by decide +kernel)
set_option maxRecDepth 100000 in
theorem wd_1289 : (Jvm.Cond.code ({ cls := "HoleWaterModel", name := "isJoint", desc := "(I)Z" } : Jvm.MethodName) prog_14_method_4_code (2 : Nat) (Option.some Jvm.ClassFile.FieldType.boolean)) ∈ mh_T := mh_T_in (List.mem_append_right _ (List.mem_of_getElem? (i := 1289) (by decide +kernel))) (by decide +kernel)
set_option maxRecDepth 100000 in
theorem wd_1290 : (Jvm.Cond.constantLong "HoleWaterModel" (87 : Nat) (6 : Int64)) ∈ mh_T := mh_T_in (List.mem_append_right _ (List.mem_of_getElem? (i := 1290) (by decide +kernel))) (by decide +kernel)
set_option maxRecDepth 100000 in
theorem wd_1291 : (Jvm.Cond.methodLink "HoleWaterLaw" (27 : Nat) ({ cls := "HoleWaterModel", name := "way", desc := "(IIII)I" } : Jvm.MethodName)) ∈ mh_T := mh_T_in (List.mem_append_right _ (List.mem_of_getElem? (i := 1291) (by decide +kernel))) (by decide +kernel)
set_option maxRecDepth 100000 in
theorem wd_1292 : (Jvm.Cond.instanceMethod ({ cls := "HoleWaterModel", name := "way", desc := "(IIII)I" } : Jvm.MethodName)) ∈ mh_T := mh_T_in (List.mem_append_right _ (List.mem_of_getElem? (i := 1292) (by decide +kernel))) (by decide +kernel)
set_option maxRecDepth 100000 in
theorem wd_1293 : (Jvm.Cond.selects "HoleWaterModel" ({ cls := "HoleWaterModel", name := "way", desc := "(IIII)I" } : Jvm.MethodName) ({ cls := "HoleWaterModel", name := "way", desc := "(IIII)I" } : Jvm.MethodName)) ∈ mh_T := mh_T_in (List.mem_append_right _ (List.mem_of_getElem? (i := 1293) (by decide +kernel))) (by decide +kernel)
set_option maxRecDepth 100000 in
theorem wd_1294 : (Jvm.Cond.code ({ cls := "HoleWaterModel", name := "way", desc := "(IIII)I" } : Jvm.MethodName) prog_14_method_15_code (10 : Nat) (Option.some Jvm.ClassFile.FieldType.int)) ∈ mh_T := mh_T_in (List.mem_append_right _ (List.mem_of_getElem? (i := 1294) (by decide +kernel))) (by decide +kernel)
set_option maxRecDepth 100000 in
theorem wd_1295 : (Jvm.Cond.constantLong "HoleWaterModel" (89 : Nat) (5 : Int64)) ∈ mh_T := mh_T_in (List.mem_append_right _ (List.mem_of_getElem? (i := 1295) (by decide +kernel))) (by decide +kernel)
set_option maxRecDepth 100000 in
theorem wd_1296 : (Jvm.Cond.constantLong "HoleWaterModel" (91 : Nat) (20 : Int64)) ∈ mh_T := mh_T_in (List.mem_append_right _ (List.mem_of_getElem? (i := 1296) (by decide +kernel))) (by decide +kernel)
set_option maxRecDepth 100000 in
theorem wd_1297 : (Jvm.Cond.methodLink "HoleWaterModel" (93 : Nat) ({ cls := "HoleWaterModel", name := "isEnd", desc := "(I)Z" } : Jvm.MethodName)) ∈ mh_T := mh_T_in (List.mem_append_right _ (List.mem_of_getElem? (i := 1297) (by decide +kernel))) (by decide +kernel)
set_option maxRecDepth 100000 in
theorem wd_1299 : (Jvm.Cond.instanceMethod ({ cls := "HoleWaterModel", name := "isEnd", desc := "(I)Z" } : Jvm.MethodName)) ∈ mh_T := mh_T_in (List.mem_append_right _ (List.mem_of_getElem? (i := 1299) (by decide +kernel))) (by decide +kernel)
set_option maxRecDepth 100000 in
theorem wd_1300 : (Jvm.Cond.code ({ cls := "HoleWaterModel", name := "isEnd", desc := "(I)Z" } : Jvm.MethodName) prog_14_method_12_code (2 : Nat) (Option.some Jvm.ClassFile.FieldType.boolean)) ∈ mh_T := mh_T_in (List.mem_append_right _ (List.mem_of_getElem? (i := 1300) (by decide +kernel))) (by decide +kernel)
set_option maxRecDepth 100000 in
theorem wd_1301 : (Jvm.Cond.methodLink "HoleWaterModel" (75 : Nat) ({ cls := "HoleWaterModel", name := "sort", desc := "(I)I" } : Jvm.MethodName)) ∈ mh_T := mh_T_in (List.mem_append_right _ (List.mem_of_getElem? (i := 1301) (by decide +kernel))) (by decide +kernel)
set_option maxRecDepth 100000 in
theorem wd_1303 : (Jvm.Cond.instanceMethod ({ cls := "HoleWaterModel", name := "sort", desc := "(I)I" } : Jvm.MethodName)) ∈ mh_T := mh_T_in (List.mem_append_right _ (List.mem_of_getElem? (i := 1303) (by decide +kernel))) (by decide +kernel)
set_option maxRecDepth 100000 in
theorem wd_1304 : (Jvm.Cond.code ({ cls := "HoleWaterModel", name := "sort", desc := "(I)I" } : Jvm.MethodName) prog_14_method_9_code (2 : Nat) (Option.some Jvm.ClassFile.FieldType.int)) ∈ mh_T := mh_T_in (List.mem_append_right _ (List.mem_of_getElem? (i := 1304) (by decide +kernel))) (by decide +kernel)
set_option maxRecDepth 100000 in
theorem wd_1305 : (Jvm.Cond.methodLink "HoleWaterModel" (96 : Nat) ({ cls := "HoleWaterModel", name := "isHole", desc := "(I)Z" } : Jvm.MethodName)) ∈ mh_T := mh_T_in (List.mem_append_right _ (List.mem_of_getElem? (i := 1305) (by decide +kernel))) (by decide +kernel)
set_option maxRecDepth 100000 in
theorem wd_1307 : (Jvm.Cond.instanceMethod ({ cls := "HoleWaterModel", name := "isHole", desc := "(I)Z" } : Jvm.MethodName)) ∈ mh_T := mh_T_in (List.mem_append_right _ (List.mem_of_getElem? (i := 1307) (by decide +kernel))) (by decide +kernel)
set_option maxRecDepth 100000 in
theorem wd_1308 : (Jvm.Cond.code ({ cls := "HoleWaterModel", name := "isHole", desc := "(I)Z" } : Jvm.MethodName) prog_14_method_10_code (2 : Nat) (Option.some Jvm.ClassFile.FieldType.boolean)) ∈ mh_T := mh_T_in (List.mem_append_right _ (List.mem_of_getElem? (i := 1308) (by decide +kernel))) (by decide +kernel)
set_option maxRecDepth 100000 in
theorem wd_1309 : (Jvm.Cond.methodLink "HoleWaterModel" (99 : Nat) ({ cls := "HoleWaterModel", name := "way", desc := "(I)I" } : Jvm.MethodName)) ∈ mh_T := mh_T_in (List.mem_append_right _ (List.mem_of_getElem? (i := 1309) (by decide +kernel))) (by decide +kernel)
set_option maxRecDepth 100000 in
theorem wd_1310 : (Jvm.Cond.static ({ cls := "HoleWaterModel", name := "way", desc := "(I)I" } : Jvm.MethodName)) ∈ mh_T := mh_T_in (List.mem_append_right _ (List.mem_of_getElem? (i := 1310) (by decide +kernel))) (by decide +kernel)
set_option maxRecDepth 100000 in
theorem wd_1311 : (Jvm.Cond.code ({ cls := "HoleWaterModel", name := "way", desc := "(I)I" } : Jvm.MethodName) prog_14_method_8_code (1 : Nat) (Option.some Jvm.ClassFile.FieldType.int)) ∈ mh_T := mh_T_in (List.mem_append_right _ (List.mem_of_getElem? (i := 1311) (by decide +kernel))) (by decide +kernel)
set_option maxRecDepth 100000 in
theorem wd_1312 : (Jvm.Cond.methodLink "HoleWaterLaw" (31 : Nat) ({ cls := "HoleWaterModel", name := "as", desc := "(II)I" } : Jvm.MethodName)) ∈ mh_T := mh_T_in (List.mem_append_right _ (List.mem_of_getElem? (i := 1312) (by decide +kernel))) (by decide +kernel)
set_option maxRecDepth 100000 in
theorem wd_1313 : (Jvm.Cond.instanceMethod ({ cls := "HoleWaterModel", name := "as", desc := "(II)I" } : Jvm.MethodName)) ∈ mh_T := mh_T_in (List.mem_append_right _ (List.mem_of_getElem? (i := 1313) (by decide +kernel))) (by decide +kernel)
set_option maxRecDepth 100000 in
theorem wd_1314 : (Jvm.Cond.selects "HoleWaterModel" ({ cls := "HoleWaterModel", name := "as", desc := "(II)I" } : Jvm.MethodName) ({ cls := "HoleWaterModel", name := "as", desc := "(II)I" } : Jvm.MethodName)) ∈ mh_T := mh_T_in (List.mem_append_right _ (List.mem_of_getElem? (i := 1314) (by decide +kernel))) (by decide +kernel)
set_option maxRecDepth 100000 in
theorem wd_1315 : (Jvm.Cond.code ({ cls := "HoleWaterModel", name := "as", desc := "(II)I" } : Jvm.MethodName) prog_14_method_19_code (3 : Nat) (Option.some Jvm.ClassFile.FieldType.int)) ∈ mh_T := mh_T_in (List.mem_append_right _ (List.mem_of_getElem? (i := 1315) (by decide +kernel))) (by decide +kernel)
set_option maxRecDepth 100000 in
theorem wd_1316 : (Jvm.Cond.methodLink "HoleWaterModel" (109 : Nat) ({ cls := "HoleWaterModel", name := "isWay", desc := "(I)Z" } : Jvm.MethodName)) ∈ mh_T := mh_T_in (List.mem_append_right _ (List.mem_of_getElem? (i := 1316) (by decide +kernel))) (by decide +kernel)
set_option maxRecDepth 100000 in
theorem wd_1318 : (Jvm.Cond.instanceMethod ({ cls := "HoleWaterModel", name := "isWay", desc := "(I)Z" } : Jvm.MethodName)) ∈ mh_T := mh_T_in (List.mem_append_right _ (List.mem_of_getElem? (i := 1318) (by decide +kernel))) (by decide +kernel)
set_option maxRecDepth 100000 in
theorem wd_1319 : (Jvm.Cond.code ({ cls := "HoleWaterModel", name := "isWay", desc := "(I)Z" } : Jvm.MethodName) prog_14_method_5_code (2 : Nat) (Option.some Jvm.ClassFile.FieldType.boolean)) ∈ mh_T := mh_T_in (List.mem_append_right _ (List.mem_of_getElem? (i := 1319) (by decide +kernel))) (by decide +kernel)
set_option maxRecDepth 100000 in
theorem wd_1320 : (Jvm.Cond.methodLink "HoleWaterModel" (105 : Nat) ({ cls := "HoleWaterModel", name := "isUnder", desc := "(II)Z" } : Jvm.MethodName)) ∈ mh_T := mh_T_in (List.mem_append_right _ (List.mem_of_getElem? (i := 1320) (by decide +kernel))) (by decide +kernel)
set_option maxRecDepth 100000 in
theorem wd_1321 : (Jvm.Cond.static ({ cls := "HoleWaterModel", name := "isUnder", desc := "(II)Z" } : Jvm.MethodName)) ∈ mh_T := mh_T_in (List.mem_append_right _ (List.mem_of_getElem? (i := 1321) (by decide +kernel))) (by decide +kernel)
set_option maxRecDepth 100000 in
theorem wd_1322 : (Jvm.Cond.code ({ cls := "HoleWaterModel", name := "isUnder", desc := "(II)Z" } : Jvm.MethodName) prog_14_method_17_code (3 : Nat) (Option.some Jvm.ClassFile.FieldType.boolean)) ∈ mh_T := mh_T_in (List.mem_append_right _ (List.mem_of_getElem? (i := 1322) (by decide +kernel))) (by decide +kernel)
set_option maxRecDepth 100000 in
theorem wd_1323 : (Jvm.Cond.methodLink "HoleWaterModel" (102 : Nat) ({ cls := "HoleWaterModel", name := "above", desc := "(I)I" } : Jvm.MethodName)) ∈ mh_T := mh_T_in (List.mem_append_right _ (List.mem_of_getElem? (i := 1323) (by decide +kernel))) (by decide +kernel)
set_option maxRecDepth 100000 in
theorem wd_1324 : (Jvm.Cond.static ({ cls := "HoleWaterModel", name := "above", desc := "(I)I" } : Jvm.MethodName)) ∈ mh_T := mh_T_in (List.mem_append_right _ (List.mem_of_getElem? (i := 1324) (by decide +kernel))) (by decide +kernel)
set_option maxRecDepth 100000 in
theorem wd_1325 : (Jvm.Cond.code ({ cls := "HoleWaterModel", name := "above", desc := "(I)I" } : Jvm.MethodName) prog_14_method_16_code (1 : Nat) (Option.some Jvm.ClassFile.FieldType.int)) ∈ mh_T := mh_T_in (List.mem_append_right _ (List.mem_of_getElem? (i := 1325) (by decide +kernel))) (by decide +kernel)
set_option maxRecDepth 100000 in
theorem wd_1326 : (Jvm.Cond.methodLink "HoleWaterModel" (112 : Nat) ({ cls := "HoleWaterModel", name := "takes", desc := "(I)I" } : Jvm.MethodName)) ∈ mh_T := mh_T_in (List.mem_append_right _ (List.mem_of_getElem? (i := 1326) (by decide +kernel))) (by decide +kernel)
set_option maxRecDepth 100000 in
theorem wd_1328 : (Jvm.Cond.instanceMethod ({ cls := "HoleWaterModel", name := "takes", desc := "(I)I" } : Jvm.MethodName)) ∈ mh_T := mh_T_in (List.mem_append_right _ (List.mem_of_getElem? (i := 1328) (by decide +kernel))) (by decide +kernel)
set_option maxRecDepth 100000 in
theorem wd_1329 : (Jvm.Cond.code ({ cls := "HoleWaterModel", name := "takes", desc := "(I)I" } : Jvm.MethodName) prog_14_method_18_code (4 : Nat) (Option.some Jvm.ClassFile.FieldType.int)) ∈ mh_T := mh_T_in (List.mem_append_right _ (List.mem_of_getElem? (i := 1329) (by decide +kernel))) (by decide +kernel)
set_option maxRecDepth 100000 in
theorem wd_1330 : (Jvm.Cond.methodLink "HoleWaterLaw" (35 : Nat) ({ cls := "HoleWaterModel", name := "wayIs", desc := "(II)I" } : Jvm.MethodName)) ∈ mh_T := mh_T_in (List.mem_append_right _ (List.mem_of_getElem? (i := 1330) (by decide +kernel))) (by decide +kernel)
set_option maxRecDepth 100000 in
theorem wd_1331 : (Jvm.Cond.instanceMethod ({ cls := "HoleWaterModel", name := "wayIs", desc := "(II)I" } : Jvm.MethodName)) ∈ mh_T := mh_T_in (List.mem_append_right _ (List.mem_of_getElem? (i := 1331) (by decide +kernel))) (by decide +kernel)
set_option maxRecDepth 100000 in
theorem wd_1332 : (Jvm.Cond.selects "HoleWaterModel" ({ cls := "HoleWaterModel", name := "wayIs", desc := "(II)I" } : Jvm.MethodName) ({ cls := "HoleWaterModel", name := "wayIs", desc := "(II)I" } : Jvm.MethodName)) ∈ mh_T := mh_T_in (List.mem_append_right _ (List.mem_of_getElem? (i := 1332) (by decide +kernel))) (by decide +kernel)
set_option maxRecDepth 100000 in
theorem wd_1333 : (Jvm.Cond.code ({ cls := "HoleWaterModel", name := "wayIs", desc := "(II)I" } : Jvm.MethodName) prog_14_method_21_code (3 : Nat) (Option.some Jvm.ClassFile.FieldType.int)) ∈ mh_T := mh_T_in (List.mem_append_right _ (List.mem_of_getElem? (i := 1333) (by decide +kernel))) (by decide +kernel)
set_option maxRecDepth 100000 in
theorem wd_1334 : (Jvm.Cond.methodLink "HoleWaterModel" (115 : Nat) ({ cls := "HoleWaterModel", name := "inWay", desc := "(II)I" } : Jvm.MethodName)) ∈ mh_T := mh_T_in (List.mem_append_right _ (List.mem_of_getElem? (i := 1334) (by decide +kernel))) (by decide +kernel)
set_option maxRecDepth 100000 in
theorem wd_1336 : (Jvm.Cond.instanceMethod ({ cls := "HoleWaterModel", name := "inWay", desc := "(II)I" } : Jvm.MethodName)) ∈ mh_T := mh_T_in (List.mem_append_right _ (List.mem_of_getElem? (i := 1336) (by decide +kernel))) (by decide +kernel)
set_option maxRecDepth 100000 in
theorem wd_1337 : (Jvm.Cond.code ({ cls := "HoleWaterModel", name := "inWay", desc := "(II)I" } : Jvm.MethodName) prog_14_method_20_code (5 : Nat) (Option.some Jvm.ClassFile.FieldType.int)) ∈ mh_T := mh_T_in (List.mem_append_right _ (List.mem_of_getElem? (i := 1337) (by decide +kernel))) (by decide +kernel)
set_option maxRecDepth 100000 in
theorem wd_1338 : (Jvm.Cond.methodLink "HoleWaterLaw" (40 : Nat) ({ cls := "HoleWaterModel", name := "hangs", desc := "(IZ)I" } : Jvm.MethodName)) ∈ mh_T := mh_T_in (List.mem_append_right _ (List.mem_of_getElem? (i := 1338) (by decide +kernel))) (by decide +kernel)
set_option maxRecDepth 100000 in
theorem wd_1339 : (Jvm.Cond.instanceMethod ({ cls := "HoleWaterModel", name := "hangs", desc := "(IZ)I" } : Jvm.MethodName)) ∈ mh_T := mh_T_in (List.mem_append_right _ (List.mem_of_getElem? (i := 1339) (by decide +kernel))) (by decide +kernel)
set_option maxRecDepth 100000 in
theorem wd_1340 : (Jvm.Cond.selects "HoleWaterModel" ({ cls := "HoleWaterModel", name := "hangs", desc := "(IZ)I" } : Jvm.MethodName) ({ cls := "HoleWaterModel", name := "hangs", desc := "(IZ)I" } : Jvm.MethodName)) ∈ mh_T := mh_T_in (List.mem_append_right _ (List.mem_of_getElem? (i := 1340) (by decide +kernel))) (by decide +kernel)
set_option maxRecDepth 100000 in
theorem wd_1341 : (Jvm.Cond.code ({ cls := "HoleWaterModel", name := "hangs", desc := "(IZ)I" } : Jvm.MethodName) prog_14_method_23_code (5 : Nat) (Option.some Jvm.ClassFile.FieldType.int)) ∈ mh_T := mh_T_in (List.mem_append_right _ (List.mem_of_getElem? (i := 1341) (by decide +kernel))) (by decide +kernel)
set_option maxRecDepth 100000 in
theorem wd_1342 : (Jvm.Cond.methodLink "HoleWaterModel" (119 : Nat) ({ cls := "HoleWaterModel", name := "findFar", desc := "(IZ)V" } : Jvm.MethodName)) ∈ mh_T := mh_T_in (List.mem_append_right _ (List.mem_of_getElem? (i := 1342) (by decide +kernel))) (by decide +kernel)
set_option maxRecDepth 100000 in
theorem wd_1344 : (Jvm.Cond.instanceMethod ({ cls := "HoleWaterModel", name := "findFar", desc := "(IZ)V" } : Jvm.MethodName)) ∈ mh_T := mh_T_in (List.mem_append_right _ (List.mem_of_getElem? (i := 1344) (by decide +kernel))) (by decide +kernel)
set_option maxRecDepth 100000 in
theorem wd_1345 : (Jvm.Cond.code ({ cls := "HoleWaterModel", name := "findFar", desc := "(IZ)V" } : Jvm.MethodName) prog_14_method_22_code (9 : Nat) (Option.none : Option Jvm.ClassFile.FieldType)) ∈ mh_T := mh_T_in (List.mem_append_right _ (List.mem_of_getElem? (i := 1345) (by decide +kernel))) (by decide +kernel)
set_option maxRecDepth 100000 in
theorem wd_1346 : (Jvm.Cond.methodLink "HoleWaterLaw" (44 : Nat) ({ cls := "HoleWaterModel", name := "quick", desc := "(II)I" } : Jvm.MethodName)) ∈ mh_T := mh_T_in (List.mem_append_right _ (List.mem_of_getElem? (i := 1346) (by decide +kernel))) (by decide +kernel)
set_option maxRecDepth 100000 in
theorem wd_1347 : (Jvm.Cond.instanceMethod ({ cls := "HoleWaterModel", name := "quick", desc := "(II)I" } : Jvm.MethodName)) ∈ mh_T := mh_T_in (List.mem_append_right _ (List.mem_of_getElem? (i := 1347) (by decide +kernel))) (by decide +kernel)
set_option maxRecDepth 100000 in
theorem wd_1348 : (Jvm.Cond.selects "HoleWaterModel" ({ cls := "HoleWaterModel", name := "quick", desc := "(II)I" } : Jvm.MethodName) ({ cls := "HoleWaterModel", name := "quick", desc := "(II)I" } : Jvm.MethodName)) ∈ mh_T := mh_T_in (List.mem_append_right _ (List.mem_of_getElem? (i := 1348) (by decide +kernel))) (by decide +kernel)
set_option maxRecDepth 100000 in
theorem wd_1349 : (Jvm.Cond.code ({ cls := "HoleWaterModel", name := "quick", desc := "(II)I" } : Jvm.MethodName) prog_14_method_24_code (3 : Nat) (Option.some Jvm.ClassFile.FieldType.int)) ∈ mh_T := mh_T_in (List.mem_append_right _ (List.mem_of_getElem? (i := 1349) (by decide +kernel))) (by decide +kernel)
set_option maxRecDepth 100000 in
theorem wd_1350 : (Jvm.Cond.methodLink "HoleWaterLaw" (49 : Nat) ({ cls := "HoleWaterModel", name := "flood", desc := "(Z)I" } : Jvm.MethodName)) ∈ mh_T := mh_T_in (List.mem_append_right _ (List.mem_of_getElem? (i := 1350) (by decide +kernel))) (by decide +kernel)
set_option maxRecDepth 100000 in
theorem wd_1351 : (Jvm.Cond.instanceMethod ({ cls := "HoleWaterModel", name := "flood", desc := "(Z)I" } : Jvm.MethodName)) ∈ mh_T := mh_T_in (List.mem_append_right _ (List.mem_of_getElem? (i := 1351) (by decide +kernel))) (by decide +kernel)
set_option maxRecDepth 100000 in
theorem wd_1352 : (Jvm.Cond.selects "HoleWaterModel" ({ cls := "HoleWaterModel", name := "flood", desc := "(Z)I" } : Jvm.MethodName) ({ cls := "HoleWaterModel", name := "flood", desc := "(Z)I" } : Jvm.MethodName)) ∈ mh_T := mh_T_in (List.mem_append_right _ (List.mem_of_getElem? (i := 1352) (by decide +kernel))) (by decide +kernel)
set_option maxRecDepth 100000 in
theorem wd_1353 : (Jvm.Cond.code ({ cls := "HoleWaterModel", name := "flood", desc := "(Z)I" } : Jvm.MethodName) prog_14_method_34_code (3 : Nat) (Option.some Jvm.ClassFile.FieldType.int)) ∈ mh_T := mh_T_in (List.mem_append_right _ (List.mem_of_getElem? (i := 1353) (by decide +kernel))) (by decide +kernel)
set_option maxRecDepth 100000 in
theorem wd_1354 : (Jvm.Cond.methodLink "HoleWaterLaw" (53 : Nat) ({ cls := "HoleWaterModel", name := "fade", desc := "(II)I" } : Jvm.MethodName)) ∈ mh_T := mh_T_in (List.mem_append_right _ (List.mem_of_getElem? (i := 1354) (by decide +kernel))) (by decide +kernel)
set_option maxRecDepth 100000 in
theorem wd_1355 : (Jvm.Cond.instanceMethod ({ cls := "HoleWaterModel", name := "fade", desc := "(II)I" } : Jvm.MethodName)) ∈ mh_T := mh_T_in (List.mem_append_right _ (List.mem_of_getElem? (i := 1355) (by decide +kernel))) (by decide +kernel)
set_option maxRecDepth 100000 in
theorem wd_1356 : (Jvm.Cond.selects "HoleWaterModel" ({ cls := "HoleWaterModel", name := "fade", desc := "(II)I" } : Jvm.MethodName) ({ cls := "HoleWaterModel", name := "fade", desc := "(II)I" } : Jvm.MethodName)) ∈ mh_T := mh_T_in (List.mem_append_right _ (List.mem_of_getElem? (i := 1356) (by decide +kernel))) (by decide +kernel)
set_option maxRecDepth 100000 in
theorem wd_1357 : (Jvm.Cond.code ({ cls := "HoleWaterModel", name := "fade", desc := "(II)I" } : Jvm.MethodName) prog_14_method_35_code (4 : Nat) (Option.some Jvm.ClassFile.FieldType.int)) ∈ mh_T := mh_T_in (List.mem_append_right _ (List.mem_of_getElem? (i := 1357) (by decide +kernel))) (by decide +kernel)
set_option maxRecDepth 100000 in
theorem wd_1358 : (Jvm.Cond.methodLink "HoleWaterModel" (155 : Nat) ({ cls := "HoleWaterModel", name := "isColour", desc := "(I)Z" } : Jvm.MethodName)) ∈ mh_T := mh_T_in (List.mem_append_right _ (List.mem_of_getElem? (i := 1358) (by decide +kernel))) (by decide +kernel)
set_option maxRecDepth 100000 in
theorem wd_1359 : (Jvm.Cond.static ({ cls := "HoleWaterModel", name := "isColour", desc := "(I)Z" } : Jvm.MethodName)) ∈ mh_T := mh_T_in (List.mem_append_right _ (List.mem_of_getElem? (i := 1359) (by decide +kernel))) (by decide +kernel)
set_option maxRecDepth 100000 in
theorem wd_1360 : (Jvm.Cond.code ({ cls := "HoleWaterModel", name := "isColour", desc := "(I)Z" } : Jvm.MethodName) prog_14_method_6_code (1 : Nat) (Option.some Jvm.ClassFile.FieldType.boolean)) ∈ mh_T := mh_T_in (List.mem_append_right _ (List.mem_of_getElem? (i := 1360) (by decide +kernel))) (by decide +kernel)
set_option maxRecDepth 100000 in
theorem wd_1361 : (Jvm.Cond.methodLink "HoleWaterLaw" (58 : Nat) ({ cls := "HoleWaterModel", name := "hours", desc := "(I)I" } : Jvm.MethodName)) ∈ mh_T := mh_T_in (List.mem_append_right _ (List.mem_of_getElem? (i := 1361) (by decide +kernel))) (by decide +kernel)
set_option maxRecDepth 100000 in
theorem wd_1362 : (Jvm.Cond.instanceMethod ({ cls := "HoleWaterModel", name := "hours", desc := "(I)I" } : Jvm.MethodName)) ∈ mh_T := mh_T_in (List.mem_append_right _ (List.mem_of_getElem? (i := 1362) (by decide +kernel))) (by decide +kernel)
set_option maxRecDepth 100000 in
theorem wd_1363 : (Jvm.Cond.selects "HoleWaterModel" ({ cls := "HoleWaterModel", name := "hours", desc := "(I)I" } : Jvm.MethodName) ({ cls := "HoleWaterModel", name := "hours", desc := "(I)I" } : Jvm.MethodName)) ∈ mh_T := mh_T_in (List.mem_append_right _ (List.mem_of_getElem? (i := 1363) (by decide +kernel))) (by decide +kernel)
set_option maxRecDepth 100000 in
theorem wd_1364 : (Jvm.Cond.code ({ cls := "HoleWaterModel", name := "hours", desc := "(I)I" } : Jvm.MethodName) prog_14_method_36_code (3 : Nat) (Option.some Jvm.ClassFile.FieldType.int)) ∈ mh_T := mh_T_in (List.mem_append_right _ (List.mem_of_getElem? (i := 1364) (by decide +kernel))) (by decide +kernel)
set_option maxRecDepth 100000 in
theorem wd_1365 : (Jvm.Cond.constantLong "HoleWaterModel" (158 : Nat) (60 : Int64)) ∈ mh_T := mh_T_in (List.mem_append_right _ (List.mem_of_getElem? (i := 1365) (by decide +kernel))) (by decide +kernel)
set_option maxRecDepth 100000 in
theorem wd_1366 : (Jvm.Cond.methodLink "HoleWaterModel" (160 : Nat) ({ cls := "HoleWaterModel", name := "hour", desc := "()V" } : Jvm.MethodName)) ∈ mh_T := mh_T_in (List.mem_append_right _ (List.mem_of_getElem? (i := 1366) (by decide +kernel))) (by decide +kernel)
set_option maxRecDepth 100000 in
theorem wd_1368 : (Jvm.Cond.instanceMethod ({ cls := "HoleWaterModel", name := "hour", desc := "()V" } : Jvm.MethodName)) ∈ mh_T := mh_T_in (List.mem_append_right _ (List.mem_of_getElem? (i := 1368) (by decide +kernel))) (by decide +kernel)
set_option maxRecDepth 100000 in
theorem wd_1369 : (Jvm.Cond.code ({ cls := "HoleWaterModel", name := "hour", desc := "()V" } : Jvm.MethodName) prog_14_method_33_code (2 : Nat) (Option.none : Option Jvm.ClassFile.FieldType)) ∈ mh_T := mh_T_in (List.mem_append_right _ (List.mem_of_getElem? (i := 1369) (by decide +kernel))) (by decide +kernel)
set_option maxRecDepth 100000 in
theorem wd_1370 : (Jvm.Cond.methodLink "HoleWaterModel" (142 : Nat) ({ cls := "HoleWaterModel", name := "comesOut", desc := "(I)V" } : Jvm.MethodName)) ∈ mh_T := mh_T_in (List.mem_append_right _ (List.mem_of_getElem? (i := 1370) (by decide +kernel))) (by decide +kernel)
set_option maxRecDepth 100000 in
theorem wd_1372 : (Jvm.Cond.instanceMethod ({ cls := "HoleWaterModel", name := "comesOut", desc := "(I)V" } : Jvm.MethodName)) ∈ mh_T := mh_T_in (List.mem_append_right _ (List.mem_of_getElem? (i := 1372) (by decide +kernel))) (by decide +kernel)
set_option maxRecDepth 100000 in
theorem wd_1373 : (Jvm.Cond.code ({ cls := "HoleWaterModel", name := "comesOut", desc := "(I)V" } : Jvm.MethodName) prog_14_method_26_code (11 : Nat) (Option.none : Option Jvm.ClassFile.FieldType)) ∈ mh_T := mh_T_in (List.mem_append_right _ (List.mem_of_getElem? (i := 1373) (by decide +kernel))) (by decide +kernel)
set_option maxRecDepth 100000 in
theorem wd_1374 : (Jvm.Cond.methodLink "HoleWaterModel" (123 : Nat) ({ cls := "HoleWaterModel", name := "stuffAt", desc := "(II)I" } : Jvm.MethodName)) ∈ mh_T := mh_T_in (List.mem_append_right _ (List.mem_of_getElem? (i := 1374) (by decide +kernel))) (by decide +kernel)
set_option maxRecDepth 100000 in
theorem wd_1375 : (Jvm.Cond.static ({ cls := "HoleWaterModel", name := "stuffAt", desc := "(II)I" } : Jvm.MethodName)) ∈ mh_T := mh_T_in (List.mem_append_right _ (List.mem_of_getElem? (i := 1375) (by decide +kernel))) (by decide +kernel)
set_option maxRecDepth 100000 in
theorem wd_1376 : (Jvm.Cond.code ({ cls := "HoleWaterModel", name := "stuffAt", desc := "(II)I" } : Jvm.MethodName) prog_14_method_25_code (2 : Nat) (Option.some Jvm.ClassFile.FieldType.int)) ∈ mh_T := mh_T_in (List.mem_append_right _ (List.mem_of_getElem? (i := 1376) (by decide +kernel))) (by decide +kernel)
set_option maxRecDepth 100000 in
theorem wd_1377 : (Jvm.Cond.methodLink "HoleWaterModel" (146 : Nat) ({ cls := "HoleWaterModel", name := "rainOf", desc := "(I)I" } : Jvm.MethodName)) ∈ mh_T := mh_T_in (List.mem_append_right _ (List.mem_of_getElem? (i := 1377) (by decide +kernel))) (by decide +kernel)
set_option maxRecDepth 100000 in
theorem wd_1379 : (Jvm.Cond.instanceMethod ({ cls := "HoleWaterModel", name := "rainOf", desc := "(I)I" } : Jvm.MethodName)) ∈ mh_T := mh_T_in (List.mem_append_right _ (List.mem_of_getElem? (i := 1379) (by decide +kernel))) (by decide +kernel)
set_option maxRecDepth 100000 in
theorem wd_1380 : (Jvm.Cond.code ({ cls := "HoleWaterModel", name := "rainOf", desc := "(I)I" } : Jvm.MethodName) prog_14_method_67_code (2 : Nat) (Option.some Jvm.ClassFile.FieldType.int)) ∈ mh_T := mh_T_in (List.mem_append_right _ (List.mem_of_getElem? (i := 1380) (by decide +kernel))) (by decide +kernel)
set_option maxRecDepth 100000 in
theorem wd_1381 : (Jvm.Cond.methodLink "HoleWaterModel" (256 : Nat) ({ cls := "HoleWaterModel", name := "says", desc := "(I)I" } : Jvm.MethodName)) ∈ mh_T := mh_T_in (List.mem_append_right _ (List.mem_of_getElem? (i := 1381) (by decide +kernel))) (by decide +kernel)
set_option maxRecDepth 100000 in
theorem wd_1383 : (Jvm.Cond.instanceMethod ({ cls := "HoleWaterModel", name := "says", desc := "(I)I" } : Jvm.MethodName)) ∈ mh_T := mh_T_in (List.mem_append_right _ (List.mem_of_getElem? (i := 1383) (by decide +kernel))) (by decide +kernel)
set_option maxRecDepth 100000 in
theorem wd_1384 : (Jvm.Cond.code ({ cls := "HoleWaterModel", name := "says", desc := "(I)I" } : Jvm.MethodName) prog_14_method_65_code (10 : Nat) (Option.some Jvm.ClassFile.FieldType.int)) ∈ mh_T := mh_T_in (List.mem_append_right _ (List.mem_of_getElem? (i := 1384) (by decide +kernel))) (by decide +kernel)
set_option maxRecDepth 100000 in
theorem wd_1385 : (Jvm.Cond.methodLink "HoleWaterModel" (253 : Nat) ({ cls := "HoleWaterModel", name := "goes", desc := "(III)I" } : Jvm.MethodName)) ∈ mh_T := mh_T_in (List.mem_append_right _ (List.mem_of_getElem? (i := 1385) (by decide +kernel))) (by decide +kernel)
set_option maxRecDepth 100000 in
theorem wd_1387 : (Jvm.Cond.instanceMethod ({ cls := "HoleWaterModel", name := "goes", desc := "(III)I" } : Jvm.MethodName)) ∈ mh_T := mh_T_in (List.mem_append_right _ (List.mem_of_getElem? (i := 1387) (by decide +kernel))) (by decide +kernel)
