set_option maxRecDepth 100000 in
theorem wd_247 : (Jvm.Cond.code ({ cls := "HoleWater$Reader", name := "<init>", desc := "()V" } : Jvm.MethodName) prog_7_method_1_code (1 : Nat) (Option.none : Option Jvm.ClassFile.FieldType)) ∈ mh_T := mh_T_in (List.mem_append_right _ (List.mem_of_getElem? (i := 247) (by decide +kernel))) (by decide +kernel)
set_option maxRecDepth 100000 in
theorem wd_248 : (Jvm.Cond.methodLink "HoleWater$Reader" (3 : Nat) ({ cls := "java/lang/Object", name := "<init>", desc := "()V" } : Jvm.MethodName)) ∈ mh_T := mh_T_in (List.mem_append_right _ (List.mem_of_getElem? (i := 248) (by decide +kernel))) (by decide +kernel)
set_option maxRecDepth 100000 in
theorem wd_249 : (Jvm.Cond.classLink "HoleWater$Reader" (15 : Nat) "HoleWater$Row") ∈ mh_T := mh_T_in (List.mem_append_right _ (List.mem_of_getElem? (i := 249) (by decide +kernel))) (by decide +kernel)
set_option maxRecDepth 100000 in
theorem wd_250 : (Jvm.Cond.methodLink "HoleWater$Reader" (17 : Nat) ({ cls := "HoleWater$Row", name := "<init>", desc := "(I)V" } : Jvm.MethodName)) ∈ mh_T := mh_T_in (List.mem_append_right _ (List.mem_of_getElem? (i := 250) (by decide +kernel))) (by decide +kernel)
set_option maxRecDepth 100000 in
theorem wd_252 : (Jvm.Cond.fieldLink "HoleWater$Reader" (9 : Nat) "HoleWater$Reader" "values" "[I") ∈ mh_T := mh_T_in (List.mem_append_right _ (List.mem_of_getElem? (i := 252) (by decide +kernel))) (by decide +kernel)
set_option maxRecDepth 100000 in
theorem wd_253 : (Jvm.Cond.fieldLink "HoleWater$World" (116 : Nat) "HoleWater$Reader" "values" "[I") ∈ mh_T := mh_T_in (List.mem_append_right _ (List.mem_of_getElem? (i := 253) (by decide +kernel))) (by decide +kernel)
set_option maxRecDepth 100000 in
theorem wd_254 : (Jvm.Cond.fieldLink "HoleWater$Reader" (20 : Nat) "HoleWater$Reader" "steps" "LHoleWater$Row;") ∈ mh_T := mh_T_in (List.mem_append_right _ (List.mem_of_getElem? (i := 254) (by decide +kernel))) (by decide +kernel)
set_option maxRecDepth 100000 in
theorem wd_255 : (Jvm.Cond.fieldLink "HoleWater" (253 : Nat) "HoleWater$Reader" "steps" "LHoleWater$Row;") ∈ mh_T := mh_T_in (List.mem_append_right _ (List.mem_of_getElem? (i := 255) (by decide +kernel))) (by decide +kernel)
set_option maxRecDepth 100000 in
theorem wd_256 : (Jvm.Cond.fieldLink "HoleWater$Reader" (24 : Nat) "HoleWater$Reader" "stack" "[I") ∈ mh_T := mh_T_in (List.mem_append_right _ (List.mem_of_getElem? (i := 256) (by decide +kernel))) (by decide +kernel)
set_option maxRecDepth 100000 in
theorem wd_257 : (Jvm.Cond.fieldLink "HoleWater$Reader" (27 : Nat) "HoleWater$Reader" "height" "I") ∈ mh_T := mh_T_in (List.mem_append_right _ (List.mem_of_getElem? (i := 257) (by decide +kernel))) (by decide +kernel)
set_option maxRecDepth 100000 in
theorem wd_258 : (Jvm.Cond.fieldLink "HoleWater$Reader" (31 : Nat) "HoleWater$Reader" "bytes" "[I") ∈ mh_T := mh_T_in (List.mem_append_right _ (List.mem_of_getElem? (i := 258) (by decide +kernel))) (by decide +kernel)
set_option maxRecDepth 100000 in
theorem wd_259 : (Jvm.Cond.fieldLink "HoleWater$Reader" (34 : Nat) "HoleWater$Reader" "count" "I") ∈ mh_T := mh_T_in (List.mem_append_right _ (List.mem_of_getElem? (i := 259) (by decide +kernel))) (by decide +kernel)
set_option maxRecDepth 100000 in
theorem wd_260 : (Jvm.Cond.fieldLink "HoleWater$Reader" (39 : Nat) "HoleWater$Reader" "names" "Ljava/lang/String;") ∈ mh_T := mh_T_in (List.mem_append_right _ (List.mem_of_getElem? (i := 260) (by decide +kernel))) (by decide +kernel)
set_option maxRecDepth 100000 in
theorem wd_261 : (Jvm.Cond.fieldLink "HoleWater$Reader" (43 : Nat) "HoleWater$Reader" "at" "I") ∈ mh_T := mh_T_in (List.mem_append_right _ (List.mem_of_getElem? (i := 261) (by decide +kernel))) (by decide +kernel)
set_option maxRecDepth 100000 in
theorem wd_262 : (Jvm.Cond.fieldLink "HoleWater$Reader" (46 : Nat) "HoleWater$Reader" "faulty" "Z") ∈ mh_T := mh_T_in (List.mem_append_right _ (List.mem_of_getElem? (i := 262) (by decide +kernel))) (by decide +kernel)
set_option maxRecDepth 100000 in
theorem wd_283 : (Jvm.Cond.classLink "HoleWater" (33 : Nat) "HoleWater$Row") ∈ mh_T := mh_T_in (List.mem_append_right _ (List.mem_of_getElem? (i := 283) (by decide +kernel))) (by decide +kernel)
set_option maxRecDepth 100000 in
theorem wd_284 : (Jvm.Cond.methodLink "HoleWater" (35 : Nat) ({ cls := "HoleWater$Row", name := "<init>", desc := "(I)V" } : Jvm.MethodName)) ∈ mh_T := mh_T_in (List.mem_append_right _ (List.mem_of_getElem? (i := 284) (by decide +kernel))) (by decide +kernel)
set_option maxRecDepth 100000 in
theorem wd_285 : (Jvm.Cond.fieldLink "HoleWater" (12 : Nat) "HoleWater" "world" "LHoleWater$World;") ∈ mh_T := mh_T_in (List.mem_append_right _ (List.mem_of_getElem? (i := 285) (by decide +kernel))) (by decide +kernel)
set_option maxRecDepth 100000 in
theorem wd_286 : (Jvm.Cond.fieldLink "HoleWater" (16 : Nat) "HoleWater" "kept" "LHoleWater$World;") ∈ mh_T := mh_T_in (List.mem_append_right _ (List.mem_of_getElem? (i := 286) (by decide +kernel))) (by decide +kernel)
set_option maxRecDepth 100000 in
theorem wd_287 : (Jvm.Cond.fieldLink "HoleWater" (22 : Nat) "HoleWater" "trial" "LHoleWater$Water;") ∈ mh_T := mh_T_in (List.mem_append_right _ (List.mem_of_getElem? (i := 287) (by decide +kernel))) (by decide +kernel)
set_option maxRecDepth 100000 in
theorem wd_288 : (Jvm.Cond.fieldLink "HoleWater" (29 : Nat) "HoleWater" "reader" "LHoleWater$Reader;") ∈ mh_T := mh_T_in (List.mem_append_right _ (List.mem_of_getElem? (i := 288) (by decide +kernel))) (by decide +kernel)
set_option maxRecDepth 100000 in
theorem wd_289 : (Jvm.Cond.fieldLink "HoleWater" (38 : Nat) "HoleWater" "trace" "LHoleWater$Row;") ∈ mh_T := mh_T_in (List.mem_append_right _ (List.mem_of_getElem? (i := 289) (by decide +kernel))) (by decide +kernel)
set_option maxRecDepth 100000 in
theorem wd_290 : (Jvm.Cond.fieldLink "HoleWater" (42 : Nat) "HoleWater" "errors" "[I") ∈ mh_T := mh_T_in (List.mem_append_right _ (List.mem_of_getElem? (i := 290) (by decide +kernel))) (by decide +kernel)
set_option maxRecDepth 100000 in
theorem wd_291 : (Jvm.Cond.fieldLink "HoleWater" (46 : Nat) "HoleWater" "sheetBits" "[I") ∈ mh_T := mh_T_in (List.mem_append_right _ (List.mem_of_getElem? (i := 291) (by decide +kernel))) (by decide +kernel)
set_option maxRecDepth 100000 in
theorem wd_292 : (Jvm.Cond.fieldLink "HoleWater" (49 : Nat) "HoleWater" "sheetSizes" "[I") ∈ mh_T := mh_T_in (List.mem_append_right _ (List.mem_of_getElem? (i := 292) (by decide +kernel))) (by decide +kernel)
set_option maxRecDepth 100000 in
theorem wd_293 : (Jvm.Cond.fieldLink "HoleWater" (52 : Nat) "HoleWater" "sheetNumbers" "[I") ∈ mh_T := mh_T_in (List.mem_append_right _ (List.mem_of_getElem? (i := 293) (by decide +kernel))) (by decide +kernel)
set_option maxRecDepth 100000 in
theorem wd_294 : (Jvm.Cond.fieldLink "HoleWater" (55 : Nat) "HoleWater" "soonest" "[I") ∈ mh_T := mh_T_in (List.mem_append_right _ (List.mem_of_getElem? (i := 294) (by decide +kernel))) (by decide +kernel)
set_option maxRecDepth 100000 in
theorem wd_295 : (Jvm.Cond.fieldLink "HoleWater" (58 : Nat) "HoleWater" "images" "I") ∈ mh_T := mh_T_in (List.mem_append_right _ (List.mem_of_getElem? (i := 295) (by decide +kernel))) (by decide +kernel)
set_option maxRecDepth 100000 in
theorem wd_319 : (Jvm.Cond.methodLink "HoleWaterLaw" (13 : Nat) ({ cls := "HoleWater", name := "joint", desc := "(III)I" } : Jvm.MethodName)) ∈ mh_T := mh_T_in (List.mem_append_right _ (List.mem_of_getElem? (i := 319) (by decide +kernel))) (by decide +kernel)
set_option maxRecDepth 100000 in
theorem wd_320 : (Jvm.Cond.instanceMethod ({ cls := "HoleWater", name := "joint", desc := "(III)I" } : Jvm.MethodName)) ∈ mh_T := mh_T_in (List.mem_append_right _ (List.mem_of_getElem? (i := 320) (by decide +kernel))) (by decide +kernel)
set_option maxRecDepth 100000 in
theorem wd_321 : (Jvm.Cond.selects "HoleWater" ({ cls := "HoleWater", name := "joint", desc := "(III)I" } : Jvm.MethodName) ({ cls := "HoleWater", name := "joint", desc := "(III)I" } : Jvm.MethodName)) ∈ mh_T := mh_T_in (List.mem_append_right _ (List.mem_of_getElem? (i := 321) (by decide +kernel))) (by decide +kernel)
set_option maxRecDepth 100000 in
theorem wd_322 : (Jvm.Cond.code ({ cls := "HoleWater", name := "joint", desc := "(III)I" } : Jvm.MethodName) prog_1_method_2_code (4 : Nat) (Option.some Jvm.ClassFile.FieldType.int)) ∈ mh_T := mh_T_in (List.mem_append_right _ (List.mem_of_getElem? (i := 322) (by decide +kernel))) (by decide +kernel)
set_option maxRecDepth 100000 in
theorem wd_323 : (Jvm.Cond.methodLink "HoleWater" (62 : Nat) ({ cls := "HoleWater", name := "within", desc := "(III)Z" } : Jvm.MethodName)) ∈ mh_T := mh_T_in (List.mem_append_right _ (List.mem_of_getElem? (i := 323) (by decide +kernel))) (by decide +kernel)
set_option maxRecDepth 100000 in
theorem wd_324 : (Jvm.Cond.static ({ cls := "HoleWater", name := "within", desc := "(III)Z" } : Jvm.MethodName)) ∈ mh_T := mh_T_in (List.mem_append_right _ (List.mem_of_getElem? (i := 324) (by decide +kernel))) (by decide +kernel)
set_option maxRecDepth 100000 in
theorem wd_325 : (Jvm.Cond.code ({ cls := "HoleWater", name := "within", desc := "(III)Z" } : Jvm.MethodName) prog_1_method_48_code (3 : Nat) (Option.some Jvm.ClassFile.FieldType.boolean)) ∈ mh_T := mh_T_in (List.mem_append_right _ (List.mem_of_getElem? (i := 325) (by decide +kernel))) (by decide +kernel)
set_option maxRecDepth 100000 in
theorem wd_326 : (Jvm.Cond.methodLink "HoleWater" (66 : Nat) ({ cls := "HoleWater", name := "error", desc := "(I)I" } : Jvm.MethodName)) ∈ mh_T := mh_T_in (List.mem_append_right _ (List.mem_of_getElem? (i := 326) (by decide +kernel))) (by decide +kernel)
set_option maxRecDepth 100000 in
theorem wd_328 : (Jvm.Cond.instanceMethod ({ cls := "HoleWater", name := "error", desc := "(I)I" } : Jvm.MethodName)) ∈ mh_T := mh_T_in (List.mem_append_right _ (List.mem_of_getElem? (i := 328) (by decide +kernel))) (by decide +kernel)
set_option maxRecDepth 100000 in
theorem wd_329 : (Jvm.Cond.code ({ cls := "HoleWater", name := "error", desc := "(I)I" } : Jvm.MethodName) prog_1_method_47_code (2 : Nat) (Option.some Jvm.ClassFile.FieldType.int)) ∈ mh_T := mh_T_in (List.mem_append_right _ (List.mem_of_getElem? (i := 329) (by decide +kernel))) (by decide +kernel)
set_option maxRecDepth 100000 in
theorem wd_330 : (Jvm.Cond.constant "HoleWater" (376 : Nat) (-1000000 : Int32)) ∈ mh_T := mh_T_in (List.mem_append_right _ (List.mem_of_getElem? (i := 330) (by decide +kernel))) (by decide +kernel)
set_option maxRecDepth 100000 in
theorem wd_331 : (Jvm.Cond.methodLink "HoleWater" (73 : Nat) ({ cls := "HoleWater$World", name := "addJoint", desc := "(III)I" } : Jvm.MethodName)) ∈ mh_T := mh_T_in (List.mem_append_right _ (List.mem_of_getElem? (i := 331) (by decide +kernel))) (by decide +kernel)
set_option maxRecDepth 100000 in
theorem wd_332 : (Jvm.Cond.instanceMethod ({ cls := "HoleWater$World", name := "addJoint", desc := "(III)I" } : Jvm.MethodName)) ∈ mh_T := mh_T_in (List.mem_append_right _ (List.mem_of_getElem? (i := 332) (by decide +kernel))) (by decide +kernel)
set_option maxRecDepth 100000 in
theorem wd_333 : (Jvm.Cond.selects "HoleWater$World" ({ cls := "HoleWater$World", name := "addJoint", desc := "(III)I" } : Jvm.MethodName) ({ cls := "HoleWater$World", name := "addJoint", desc := "(III)I" } : Jvm.MethodName)) ∈ mh_T := mh_T_in (List.mem_append_right _ (List.mem_of_getElem? (i := 333) (by decide +kernel))) (by decide +kernel)
set_option maxRecDepth 100000 in
theorem wd_334 : (Jvm.Cond.code ({ cls := "HoleWater$World", name := "addJoint", desc := "(III)I" } : Jvm.MethodName) prog_12_method_8_code (4 : Nat) (Option.some Jvm.ClassFile.FieldType.int)) ∈ mh_T := mh_T_in (List.mem_append_right _ (List.mem_of_getElem? (i := 334) (by decide +kernel))) (by decide +kernel)
set_option maxRecDepth 100000 in
theorem wd_335 : (Jvm.Cond.methodLink "HoleWaterLaw" (18 : Nat) ({ cls := "HoleWater", name := "jointIs", desc := "(II)I" } : Jvm.MethodName)) ∈ mh_T := mh_T_in (List.mem_append_right _ (List.mem_of_getElem? (i := 335) (by decide +kernel))) (by decide +kernel)
set_option maxRecDepth 100000 in
theorem wd_336 : (Jvm.Cond.instanceMethod ({ cls := "HoleWater", name := "jointIs", desc := "(II)I" } : Jvm.MethodName)) ∈ mh_T := mh_T_in (List.mem_append_right _ (List.mem_of_getElem? (i := 336) (by decide +kernel))) (by decide +kernel)
set_option maxRecDepth 100000 in
theorem wd_337 : (Jvm.Cond.selects "HoleWater" ({ cls := "HoleWater", name := "jointIs", desc := "(II)I" } : Jvm.MethodName) ({ cls := "HoleWater", name := "jointIs", desc := "(II)I" } : Jvm.MethodName)) ∈ mh_T := mh_T_in (List.mem_append_right _ (List.mem_of_getElem? (i := 337) (by decide +kernel))) (by decide +kernel)
set_option maxRecDepth 100000 in
theorem wd_338 : (Jvm.Cond.code ({ cls := "HoleWater", name := "jointIs", desc := "(II)I" } : Jvm.MethodName) prog_1_method_3_code (3 : Nat) (Option.some Jvm.ClassFile.FieldType.int)) ∈ mh_T := mh_T_in (List.mem_append_right _ (List.mem_of_getElem? (i := 338) (by decide +kernel))) (by decide +kernel)
set_option maxRecDepth 100000 in
theorem wd_339 : (Jvm.Cond.methodLink "HoleWater" (77 : Nat) ({ cls := "HoleWater$World", name := "isJoint", desc := "(I)Z" } : Jvm.MethodName)) ∈ mh_T := mh_T_in (List.mem_append_right _ (List.mem_of_getElem? (i := 339) (by decide +kernel))) (by decide +kernel)
set_option maxRecDepth 100000 in
theorem wd_340 : (Jvm.Cond.instanceMethod ({ cls := "HoleWater$World", name := "isJoint", desc := "(I)Z" } : Jvm.MethodName)) ∈ mh_T := mh_T_in (List.mem_append_right _ (List.mem_of_getElem? (i := 340) (by decide +kernel))) (by decide +kernel)
set_option maxRecDepth 100000 in
theorem wd_341 : (Jvm.Cond.selects "HoleWater$World" ({ cls := "HoleWater$World", name := "isJoint", desc := "(I)Z" } : Jvm.MethodName) ({ cls := "HoleWater$World", name := "isJoint", desc := "(I)Z" } : Jvm.MethodName)) ∈ mh_T := mh_T_in (List.mem_append_right _ (List.mem_of_getElem? (i := 341) (by decide +kernel))) (by decide +kernel)
set_option maxRecDepth 100000 in
theorem wd_342 : (Jvm.Cond.code ({ cls := "HoleWater$World", name := "isJoint", desc := "(I)Z" } : Jvm.MethodName) prog_12_method_3_code (2 : Nat) (Option.some Jvm.ClassFile.FieldType.boolean)) ∈ mh_T := mh_T_in (List.mem_append_right _ (List.mem_of_getElem? (i := 342) (by decide +kernel))) (by decide +kernel)
set_option maxRecDepth 100000 in
theorem wd_343 : (Jvm.Cond.methodLink "HoleWater" (105 : Nat) ({ cls := "HoleWater", name := "bit", desc := "(II)I" } : Jvm.MethodName)) ∈ mh_T := mh_T_in (List.mem_append_right _ (List.mem_of_getElem? (i := 343) (by decide +kernel))) (by decide +kernel)
set_option maxRecDepth 100000 in
theorem wd_344 : (Jvm.Cond.static ({ cls := "HoleWater", name := "bit", desc := "(II)I" } : Jvm.MethodName)) ∈ mh_T := mh_T_in (List.mem_append_right _ (List.mem_of_getElem? (i := 344) (by decide +kernel))) (by decide +kernel)
set_option maxRecDepth 100000 in
theorem wd_345 : (Jvm.Cond.code ({ cls := "HoleWater", name := "bit", desc := "(II)I" } : Jvm.MethodName) prog_1_method_51_code (2 : Nat) (Option.some Jvm.ClassFile.FieldType.int)) ∈ mh_T := mh_T_in (List.mem_append_right _ (List.mem_of_getElem? (i := 345) (by decide +kernel))) (by decide +kernel)
set_option maxRecDepth 100000 in
theorem wd_346 : (Jvm.Cond.methodLink "HoleWaterLaw" (23 : Nat) ({ cls := "HoleWater", name := "way", desc := "(IIII)I" } : Jvm.MethodName)) ∈ mh_T := mh_T_in (List.mem_append_right _ (List.mem_of_getElem? (i := 346) (by decide +kernel))) (by decide +kernel)
set_option maxRecDepth 100000 in
theorem wd_347 : (Jvm.Cond.instanceMethod ({ cls := "HoleWater", name := "way", desc := "(IIII)I" } : Jvm.MethodName)) ∈ mh_T := mh_T_in (List.mem_append_right _ (List.mem_of_getElem? (i := 347) (by decide +kernel))) (by decide +kernel)
set_option maxRecDepth 100000 in
theorem wd_348 : (Jvm.Cond.selects "HoleWater" ({ cls := "HoleWater", name := "way", desc := "(IIII)I" } : Jvm.MethodName) ({ cls := "HoleWater", name := "way", desc := "(IIII)I" } : Jvm.MethodName)) ∈ mh_T := mh_T_in (List.mem_append_right _ (List.mem_of_getElem? (i := 348) (by decide +kernel))) (by decide +kernel)
set_option maxRecDepth 100000 in
theorem wd_349 : (Jvm.Cond.code ({ cls := "HoleWater", name := "way", desc := "(IIII)I" } : Jvm.MethodName) prog_1_method_4_code (7 : Nat) (Option.some Jvm.ClassFile.FieldType.int)) ∈ mh_T := mh_T_in (List.mem_append_right _ (List.mem_of_getElem? (i := 349) (by decide +kernel))) (by decide +kernel)
set_option maxRecDepth 100000 in
theorem wd_350 : (Jvm.Cond.methodLink "HoleWater" (109 : Nat) ({ cls := "HoleWater$World", name := "isOutlet", desc := "(I)Z" } : Jvm.MethodName)) ∈ mh_T := mh_T_in (List.mem_append_right _ (List.mem_of_getElem? (i := 350) (by decide +kernel))) (by decide +kernel)
set_option maxRecDepth 100000 in
theorem wd_351 : (Jvm.Cond.instanceMethod ({ cls := "HoleWater$World", name := "isOutlet", desc := "(I)Z" } : Jvm.MethodName)) ∈ mh_T := mh_T_in (List.mem_append_right _ (List.mem_of_getElem? (i := 351) (by decide +kernel))) (by decide +kernel)
set_option maxRecDepth 100000 in
theorem wd_352 : (Jvm.Cond.selects "HoleWater$World" ({ cls := "HoleWater$World", name := "isOutlet", desc := "(I)Z" } : Jvm.MethodName) ({ cls := "HoleWater$World", name := "isOutlet", desc := "(I)Z" } : Jvm.MethodName)) ∈ mh_T := mh_T_in (List.mem_append_right _ (List.mem_of_getElem? (i := 352) (by decide +kernel))) (by decide +kernel)
set_option maxRecDepth 100000 in
theorem wd_353 : (Jvm.Cond.code ({ cls := "HoleWater$World", name := "isOutlet", desc := "(I)Z" } : Jvm.MethodName) prog_12_method_6_code (2 : Nat) (Option.some Jvm.ClassFile.FieldType.boolean)) ∈ mh_T := mh_T_in (List.mem_append_right _ (List.mem_of_getElem? (i := 353) (by decide +kernel))) (by decide +kernel)
set_option maxRecDepth 100000 in
theorem wd_354 : (Jvm.Cond.methodLink "HoleWater$World" (92 : Nat) ({ cls := "HoleWater$World", name := "isOf", desc := "(II)Z" } : Jvm.MethodName)) ∈ mh_T := mh_T_in (List.mem_append_right _ (List.mem_of_getElem? (i := 354) (by decide +kernel))) (by decide +kernel)
set_option maxRecDepth 100000 in
theorem wd_355 : (Jvm.Cond.instanceMethod ({ cls := "HoleWater$World", name := "isOf", desc := "(II)Z" } : Jvm.MethodName)) ∈ mh_T := mh_T_in (List.mem_append_right _ (List.mem_of_getElem? (i := 355) (by decide +kernel))) (by decide +kernel)
set_option maxRecDepth 100000 in
theorem wd_356 : (Jvm.Cond.selects "HoleWater$World" ({ cls := "HoleWater$World", name := "isOf", desc := "(II)Z" } : Jvm.MethodName) ({ cls := "HoleWater$World", name := "isOf", desc := "(II)Z" } : Jvm.MethodName)) ∈ mh_T := mh_T_in (List.mem_append_right _ (List.mem_of_getElem? (i := 356) (by decide +kernel))) (by decide +kernel)
set_option maxRecDepth 100000 in
theorem wd_357 : (Jvm.Cond.code ({ cls := "HoleWater$World", name := "isOf", desc := "(II)Z" } : Jvm.MethodName) prog_12_method_5_code (3 : Nat) (Option.some Jvm.ClassFile.FieldType.boolean)) ∈ mh_T := mh_T_in (List.mem_append_right _ (List.mem_of_getElem? (i := 357) (by decide +kernel))) (by decide +kernel)
set_option maxRecDepth 100000 in
theorem wd_358 : (Jvm.Cond.methodLink "HoleWater$World" (88 : Nat) ({ cls := "HoleWater$World", name := "isJoint", desc := "(I)Z" } : Jvm.MethodName)) ∈ mh_T := mh_T_in (List.mem_append_right _ (List.mem_of_getElem? (i := 358) (by decide +kernel))) (by decide +kernel)
set_option maxRecDepth 100000 in
theorem wd_359 : (Jvm.Cond.methodLink "HoleWater" (112 : Nat) ({ cls := "HoleWater$World", name := "isOf", desc := "(II)Z" } : Jvm.MethodName)) ∈ mh_T := mh_T_in (List.mem_append_right _ (List.mem_of_getElem? (i := 359) (by decide +kernel))) (by decide +kernel)
set_option maxRecDepth 100000 in
theorem wd_360 : (Jvm.Cond.methodLink "HoleWater" (119 : Nat) ({ cls := "HoleWater", name := "makeWay", desc := "(IIIII)LHoleWater$Way;" } : Jvm.MethodName)) ∈ mh_T := mh_T_in (List.mem_append_right _ (List.mem_of_getElem? (i := 360) (by decide +kernel))) (by decide +kernel)
set_option maxRecDepth 100000 in
theorem wd_361 : (Jvm.Cond.static ({ cls := "HoleWater", name := "makeWay", desc := "(IIIII)LHoleWater$Way;" } : Jvm.MethodName)) ∈ mh_T := mh_T_in (List.mem_append_right _ (List.mem_of_getElem? (i := 361) (by decide +kernel))) (by decide +kernel)
set_option maxRecDepth 100000 in
theorem wd_362 : (Jvm.Cond.code ({ cls := "HoleWater", name := "makeWay", desc := "(IIIII)LHoleWater$Way;" } : Jvm.MethodName) prog_1_method_55_code (5 : Nat) (Option.some (Jvm.ClassFile.FieldType.object "HoleWater$Way"))) ∈ mh_T := mh_T_in (List.mem_append_right _ (List.mem_of_getElem? (i := 362) (by decide +kernel))) (by decide +kernel)
set_option maxRecDepth 100000 in
theorem wd_363 : (Jvm.Cond.classLink "HoleWater" (385 : Nat) "HoleWater$Open") ∈ mh_T := mh_T_in (List.mem_append_right _ (List.mem_of_getElem? (i := 363) (by decide +kernel))) (by decide +kernel)
set_option maxRecDepth 100000 in
theorem wd_364 : (Jvm.Cond.instantiable "HoleWater$Open" (4 : Nat)) ∈ mh_T := mh_T_in (List.mem_append_right _ (List.mem_of_getElem? (i := 364) (by decide +kernel))) (by decide +kernel)
set_option maxRecDepth 100000 in
theorem wd_365 : (Jvm.Cond.methodLink "HoleWater" (387 : Nat) ({ cls := "HoleWater$Open", name := "<init>", desc := "(IIII)V" } : Jvm.MethodName)) ∈ mh_T := mh_T_in (List.mem_append_right _ (List.mem_of_getElem? (i := 365) (by decide +kernel))) (by decide +kernel)
set_option maxRecDepth 100000 in
theorem wd_366 : (Jvm.Cond.instanceMethod ({ cls := "HoleWater$Open", name := "<init>", desc := "(IIII)V" } : Jvm.MethodName)) ∈ mh_T := mh_T_in (List.mem_append_right _ (List.mem_of_getElem? (i := 366) (by decide +kernel))) (by decide +kernel)
set_option maxRecDepth 100000 in
theorem wd_367 : (Jvm.Cond.code ({ cls := "HoleWater$Open", name := "<init>", desc := "(IIII)V" } : Jvm.MethodName) prog_4_method_1_code (5 : Nat) (Option.none : Option Jvm.ClassFile.FieldType)) ∈ mh_T := mh_T_in (List.mem_append_right _ (List.mem_of_getElem? (i := 367) (by decide +kernel))) (by decide +kernel)
set_option maxRecDepth 100000 in
theorem wd_368 : (Jvm.Cond.methodLink "HoleWater$Open" (1 : Nat) ({ cls := "HoleWater$Way", name := "<init>", desc := "(IIII)V" } : Jvm.MethodName)) ∈ mh_T := mh_T_in (List.mem_append_right _ (List.mem_of_getElem? (i := 368) (by decide +kernel))) (by decide +kernel)
set_option maxRecDepth 100000 in
theorem wd_373 : (Jvm.Cond.superclass "HoleWater$Open" "HoleWater$Way") ∈ mh_T := mh_T_in (List.mem_append_right _ (List.mem_of_getElem? (i := 373) (by decide +kernel))) (by decide +kernel)
set_option maxRecDepth 100000 in
theorem wd_374 : (Jvm.Cond.classLink "HoleWater" (389 : Nat) "HoleWater$Sieve") ∈ mh_T := mh_T_in (List.mem_append_right _ (List.mem_of_getElem? (i := 374) (by decide +kernel))) (by decide +kernel)
set_option maxRecDepth 100000 in
theorem wd_375 : (Jvm.Cond.instantiable "HoleWater$Sieve" (4 : Nat)) ∈ mh_T := mh_T_in (List.mem_append_right _ (List.mem_of_getElem? (i := 375) (by decide +kernel))) (by decide +kernel)
set_option maxRecDepth 100000 in
theorem wd_376 : (Jvm.Cond.methodLink "HoleWater" (391 : Nat) ({ cls := "HoleWater$Sieve", name := "<init>", desc := "(IIII)V" } : Jvm.MethodName)) ∈ mh_T := mh_T_in (List.mem_append_right _ (List.mem_of_getElem? (i := 376) (by decide +kernel))) (by decide +kernel)
set_option maxRecDepth 100000 in
theorem wd_377 : (Jvm.Cond.instanceMethod ({ cls := "HoleWater$Sieve", name := "<init>", desc := "(IIII)V" } : Jvm.MethodName)) ∈ mh_T := mh_T_in (List.mem_append_right _ (List.mem_of_getElem? (i := 377) (by decide +kernel))) (by decide +kernel)
set_option maxRecDepth 100000 in
theorem wd_378 : (Jvm.Cond.code ({ cls := "HoleWater$Sieve", name := "<init>", desc := "(IIII)V" } : Jvm.MethodName) prog_9_method_1_code (5 : Nat) (Option.none : Option Jvm.ClassFile.FieldType)) ∈ mh_T := mh_T_in (List.mem_append_right _ (List.mem_of_getElem? (i := 378) (by decide +kernel))) (by decide +kernel)
set_option maxRecDepth 100000 in
theorem wd_379 : (Jvm.Cond.methodLink "HoleWater$Sieve" (1 : Nat) ({ cls := "HoleWater$Way", name := "<init>", desc := "(IIII)V" } : Jvm.MethodName)) ∈ mh_T := mh_T_in (List.mem_append_right _ (List.mem_of_getElem? (i := 379) (by decide +kernel))) (by decide +kernel)
set_option maxRecDepth 100000 in
theorem wd_384 : (Jvm.Cond.superclass "HoleWater$Sieve" "HoleWater$Way") ∈ mh_T := mh_T_in (List.mem_append_right _ (List.mem_of_getElem? (i := 384) (by decide +kernel))) (by decide +kernel)
set_option maxRecDepth 100000 in
theorem wd_385 : (Jvm.Cond.classLink "HoleWater" (164 : Nat) "HoleWater$Overflow") ∈ mh_T := mh_T_in (List.mem_append_right _ (List.mem_of_getElem? (i := 385) (by decide +kernel))) (by decide +kernel)
set_option maxRecDepth 100000 in
theorem wd_386 : (Jvm.Cond.instantiable "HoleWater$Overflow" (4 : Nat)) ∈ mh_T := mh_T_in (List.mem_append_right _ (List.mem_of_getElem? (i := 386) (by decide +kernel))) (by decide +kernel)
set_option maxRecDepth 100000 in
theorem wd_387 : (Jvm.Cond.methodLink "HoleWater" (392 : Nat) ({ cls := "HoleWater$Overflow", name := "<init>", desc := "(IIII)V" } : Jvm.MethodName)) ∈ mh_T := mh_T_in (List.mem_append_right _ (List.mem_of_getElem? (i := 387) (by decide +kernel))) (by decide +kernel)
set_option maxRecDepth 100000 in
theorem wd_388 : (Jvm.Cond.instanceMethod ({ cls := "HoleWater$Overflow", name := "<init>", desc := "(IIII)V" } : Jvm.MethodName)) ∈ mh_T := mh_T_in (List.mem_append_right _ (List.mem_of_getElem? (i := 388) (by decide +kernel))) (by decide +kernel)
set_option maxRecDepth 100000 in
theorem wd_389 : (Jvm.Cond.code ({ cls := "HoleWater$Overflow", name := "<init>", desc := "(IIII)V" } : Jvm.MethodName) prog_5_method_1_code (5 : Nat) (Option.none : Option Jvm.ClassFile.FieldType)) ∈ mh_T := mh_T_in (List.mem_append_right _ (List.mem_of_getElem? (i := 389) (by decide +kernel))) (by decide +kernel)
set_option maxRecDepth 100000 in
theorem wd_390 : (Jvm.Cond.methodLink "HoleWater$Overflow" (1 : Nat) ({ cls := "HoleWater$Open", name := "<init>", desc := "(IIII)V" } : Jvm.MethodName)) ∈ mh_T := mh_T_in (List.mem_append_right _ (List.mem_of_getElem? (i := 390) (by decide +kernel))) (by decide +kernel)
set_option maxRecDepth 100000 in
theorem wd_395 : (Jvm.Cond.superclass "HoleWater$Overflow" "HoleWater$Open") ∈ mh_T := mh_T_in (List.mem_append_right _ (List.mem_of_getElem? (i := 395) (by decide +kernel))) (by decide +kernel)
set_option maxRecDepth 100000 in
theorem wd_396 : (Jvm.Cond.classLink "HoleWater" (393 : Nat) "HoleWater$Pool") ∈ mh_T := mh_T_in (List.mem_append_right _ (List.mem_of_getElem? (i := 396) (by decide +kernel))) (by decide +kernel)
set_option maxRecDepth 100000 in
theorem wd_397 : (Jvm.Cond.instantiable "HoleWater$Pool" (4 : Nat)) ∈ mh_T := mh_T_in (List.mem_append_right _ (List.mem_of_getElem? (i := 397) (by decide +kernel))) (by decide +kernel)
set_option maxRecDepth 100000 in
theorem wd_398 : (Jvm.Cond.methodLink "HoleWater" (395 : Nat) ({ cls := "HoleWater$Pool", name := "<init>", desc := "(IIII)V" } : Jvm.MethodName)) ∈ mh_T := mh_T_in (List.mem_append_right _ (List.mem_of_getElem? (i := 398) (by decide +kernel))) (by decide +kernel)
set_option maxRecDepth 100000 in
theorem wd_399 : (Jvm.Cond.instanceMethod ({ cls := "HoleWater$Pool", name := "<init>", desc := "(IIII)V" } : Jvm.MethodName)) ∈ mh_T := mh_T_in (List.mem_append_right _ (List.mem_of_getElem? (i := 399) (by decide +kernel))) (by decide +kernel)
set_option maxRecDepth 100000 in
theorem wd_400 : (Jvm.Cond.code ({ cls := "HoleWater$Pool", name := "<init>", desc := "(IIII)V" } : Jvm.MethodName) prog_6_method_1_code (5 : Nat) (Option.none : Option Jvm.ClassFile.FieldType)) ∈ mh_T := mh_T_in (List.mem_append_right _ (List.mem_of_getElem? (i := 400) (by decide +kernel))) (by decide +kernel)
set_option maxRecDepth 100000 in
theorem wd_401 : (Jvm.Cond.methodLink "HoleWater$Pool" (1 : Nat) ({ cls := "HoleWater$Way", name := "<init>", desc := "(IIII)V" } : Jvm.MethodName)) ∈ mh_T := mh_T_in (List.mem_append_right _ (List.mem_of_getElem? (i := 401) (by decide +kernel))) (by decide +kernel)
set_option maxRecDepth 100000 in
theorem wd_406 : (Jvm.Cond.superclass "HoleWater$Pool" "HoleWater$Way") ∈ mh_T := mh_T_in (List.mem_append_right _ (List.mem_of_getElem? (i := 406) (by decide +kernel))) (by decide +kernel)
set_option maxRecDepth 100000 in
theorem wd_407 : (Jvm.Cond.classLink "HoleWater" (162 : Nat) "HoleWater$Blind") ∈ mh_T := mh_T_in (List.mem_append_right _ (List.mem_of_getElem? (i := 407) (by decide +kernel))) (by decide +kernel)
set_option maxRecDepth 100000 in
theorem wd_408 : (Jvm.Cond.instantiable "HoleWater$Blind" (4 : Nat)) ∈ mh_T := mh_T_in (List.mem_append_right _ (List.mem_of_getElem? (i := 408) (by decide +kernel))) (by decide +kernel)
set_option maxRecDepth 100000 in
theorem wd_409 : (Jvm.Cond.methodLink "HoleWater" (396 : Nat) ({ cls := "HoleWater$Blind", name := "<init>", desc := "(IIII)V" } : Jvm.MethodName)) ∈ mh_T := mh_T_in (List.mem_append_right _ (List.mem_of_getElem? (i := 409) (by decide +kernel))) (by decide +kernel)
set_option maxRecDepth 100000 in
theorem wd_410 : (Jvm.Cond.instanceMethod ({ cls := "HoleWater$Blind", name := "<init>", desc := "(IIII)V" } : Jvm.MethodName)) ∈ mh_T := mh_T_in (List.mem_append_right _ (List.mem_of_getElem? (i := 410) (by decide +kernel))) (by decide +kernel)
set_option maxRecDepth 100000 in
theorem wd_411 : (Jvm.Cond.code ({ cls := "HoleWater$Blind", name := "<init>", desc := "(IIII)V" } : Jvm.MethodName) prog_2_method_1_code (5 : Nat) (Option.none : Option Jvm.ClassFile.FieldType)) ∈ mh_T := mh_T_in (List.mem_append_right _ (List.mem_of_getElem? (i := 411) (by decide +kernel))) (by decide +kernel)
set_option maxRecDepth 100000 in
theorem wd_412 : (Jvm.Cond.methodLink "HoleWater$Blind" (1 : Nat) ({ cls := "HoleWater$Sieve", name := "<init>", desc := "(IIII)V" } : Jvm.MethodName)) ∈ mh_T := mh_T_in (List.mem_append_right _ (List.mem_of_getElem? (i := 412) (by decide +kernel))) (by decide +kernel)
set_option maxRecDepth 100000 in
theorem wd_417 : (Jvm.Cond.superclass "HoleWater$Blind" "HoleWater$Sieve") ∈ mh_T := mh_T_in (List.mem_append_right _ (List.mem_of_getElem? (i := 417) (by decide +kernel))) (by decide +kernel)
set_option maxRecDepth 100000 in
theorem wd_418 : (Jvm.Cond.classLink "HoleWater" (139 : Nat) "HoleWater$Way") ∈ mh_T := mh_T_in (List.mem_append_right _ (List.mem_of_getElem? (i := 418) (by decide +kernel))) (by decide +kernel)
set_option maxRecDepth 100000 in
theorem wd_419 : (Jvm.Cond.methodLink "HoleWater" (397 : Nat) ({ cls := "HoleWater$Way", name := "<init>", desc := "(IIII)V" } : Jvm.MethodName)) ∈ mh_T := mh_T_in (List.mem_append_right _ (List.mem_of_getElem? (i := 419) (by decide +kernel))) (by decide +kernel)
set_option maxRecDepth 100000 in
theorem wd_420 : (Jvm.Cond.methodLink "HoleWater" (123 : Nat) ({ cls := "HoleWater$World", name := "addWay", desc := "(LHoleWater$Way;)I" } : Jvm.MethodName)) ∈ mh_T := mh_T_in (List.mem_append_right _ (List.mem_of_getElem? (i := 420) (by decide +kernel))) (by decide +kernel)
set_option maxRecDepth 100000 in
theorem wd_421 : (Jvm.Cond.instanceMethod ({ cls := "HoleWater$World", name := "addWay", desc := "(LHoleWater$Way;)I" } : Jvm.MethodName)) ∈ mh_T := mh_T_in (List.mem_append_right _ (List.mem_of_getElem? (i := 421) (by decide +kernel))) (by decide +kernel)
set_option maxRecDepth 100000 in
theorem wd_422 : (Jvm.Cond.selects "HoleWater$World" ({ cls := "HoleWater$World", name := "addWay", desc := "(LHoleWater$Way;)I" } : Jvm.MethodName) ({ cls := "HoleWater$World", name := "addWay", desc := "(LHoleWater$Way;)I" } : Jvm.MethodName)) ∈ mh_T := mh_T_in (List.mem_append_right _ (List.mem_of_getElem? (i := 422) (by decide +kernel))) (by decide +kernel)
set_option maxRecDepth 100000 in
theorem wd_423 : (Jvm.Cond.code ({ cls := "HoleWater$World", name := "addWay", desc := "(LHoleWater$Way;)I" } : Jvm.MethodName) prog_12_method_9_code (2 : Nat) (Option.some Jvm.ClassFile.FieldType.int)) ∈ mh_T := mh_T_in (List.mem_append_right _ (List.mem_of_getElem? (i := 423) (by decide +kernel))) (by decide +kernel)
set_option maxRecDepth 100000 in
theorem wd_424 : (Jvm.Cond.methodLink "HoleWaterLaw" (28 : Nat) ({ cls := "HoleWater", name := "as", desc := "(II)I" } : Jvm.MethodName)) ∈ mh_T := mh_T_in (List.mem_append_right _ (List.mem_of_getElem? (i := 424) (by decide +kernel))) (by decide +kernel)
set_option maxRecDepth 100000 in
theorem wd_425 : (Jvm.Cond.instanceMethod ({ cls := "HoleWater", name := "as", desc := "(II)I" } : Jvm.MethodName)) ∈ mh_T := mh_T_in (List.mem_append_right _ (List.mem_of_getElem? (i := 425) (by decide +kernel))) (by decide +kernel)
set_option maxRecDepth 100000 in
theorem wd_426 : (Jvm.Cond.selects "HoleWater" ({ cls := "HoleWater", name := "as", desc := "(II)I" } : Jvm.MethodName) ({ cls := "HoleWater", name := "as", desc := "(II)I" } : Jvm.MethodName)) ∈ mh_T := mh_T_in (List.mem_append_right _ (List.mem_of_getElem? (i := 426) (by decide +kernel))) (by decide +kernel)
set_option maxRecDepth 100000 in
theorem wd_427 : (Jvm.Cond.code ({ cls := "HoleWater", name := "as", desc := "(II)I" } : Jvm.MethodName) prog_1_method_5_code (4 : Nat) (Option.some Jvm.ClassFile.FieldType.int)) ∈ mh_T := mh_T_in (List.mem_append_right _ (List.mem_of_getElem? (i := 427) (by decide +kernel))) (by decide +kernel)
set_option maxRecDepth 100000 in
theorem wd_428 : (Jvm.Cond.methodLink "HoleWater" (127 : Nat) ({ cls := "HoleWater$World", name := "isWay", desc := "(I)Z" } : Jvm.MethodName)) ∈ mh_T := mh_T_in (List.mem_append_right _ (List.mem_of_getElem? (i := 428) (by decide +kernel))) (by decide +kernel)
set_option maxRecDepth 100000 in
theorem wd_429 : (Jvm.Cond.instanceMethod ({ cls := "HoleWater$World", name := "isWay", desc := "(I)Z" } : Jvm.MethodName)) ∈ mh_T := mh_T_in (List.mem_append_right _ (List.mem_of_getElem? (i := 429) (by decide +kernel))) (by decide +kernel)
set_option maxRecDepth 100000 in
theorem wd_430 : (Jvm.Cond.selects "HoleWater$World" ({ cls := "HoleWater$World", name := "isWay", desc := "(I)Z" } : Jvm.MethodName) ({ cls := "HoleWater$World", name := "isWay", desc := "(I)Z" } : Jvm.MethodName)) ∈ mh_T := mh_T_in (List.mem_append_right _ (List.mem_of_getElem? (i := 430) (by decide +kernel))) (by decide +kernel)
set_option maxRecDepth 100000 in
theorem wd_431 : (Jvm.Cond.code ({ cls := "HoleWater$World", name := "isWay", desc := "(I)Z" } : Jvm.MethodName) prog_12_method_4_code (2 : Nat) (Option.some Jvm.ClassFile.FieldType.boolean)) ∈ mh_T := mh_T_in (List.mem_append_right _ (List.mem_of_getElem? (i := 431) (by decide +kernel))) (by decide +kernel)
set_option maxRecDepth 100000 in
theorem wd_432 : (Jvm.Cond.methodLink "HoleWater" (134 : Nat) ({ cls := "HoleWater", name := "isUnder", desc := "(LHoleWater$Way;I)Z" } : Jvm.MethodName)) ∈ mh_T := mh_T_in (List.mem_append_right _ (List.mem_of_getElem? (i := 432) (by decide +kernel))) (by decide +kernel)
set_option maxRecDepth 100000 in
theorem wd_433 : (Jvm.Cond.static ({ cls := "HoleWater", name := "isUnder", desc := "(LHoleWater$Way;I)Z" } : Jvm.MethodName)) ∈ mh_T := mh_T_in (List.mem_append_right _ (List.mem_of_getElem? (i := 433) (by decide +kernel))) (by decide +kernel)
set_option maxRecDepth 100000 in
theorem wd_434 : (Jvm.Cond.code ({ cls := "HoleWater", name := "isUnder", desc := "(LHoleWater$Way;I)Z" } : Jvm.MethodName) prog_1_method_56_code (2 : Nat) (Option.some Jvm.ClassFile.FieldType.boolean)) ∈ mh_T := mh_T_in (List.mem_append_right _ (List.mem_of_getElem? (i := 434) (by decide +kernel))) (by decide +kernel)
set_option maxRecDepth 100000 in
theorem wd_435 : (Jvm.Cond.methodLink "HoleWater" (138 : Nat) ({ cls := "HoleWater$Way", name := "takes", desc := "()I" } : Jvm.MethodName)) ∈ mh_T := mh_T_in (List.mem_append_right _ (List.mem_of_getElem? (i := 435) (by decide +kernel))) (by decide +kernel)
set_option maxRecDepth 100000 in
theorem wd_436 : (Jvm.Cond.instanceMethod ({ cls := "HoleWater$Way", name := "takes", desc := "()I" } : Jvm.MethodName)) ∈ mh_T := mh_T_in (List.mem_append_right _ (List.mem_of_getElem? (i := 436) (by decide +kernel))) (by decide +kernel)
set_option maxRecDepth 100000 in
theorem wd_437 : (Jvm.Cond.selects "HoleWater$Way" ({ cls := "HoleWater$Way", name := "takes", desc := "()I" } : Jvm.MethodName) ({ cls := "HoleWater$Way", name := "takes", desc := "()I" } : Jvm.MethodName)) ∈ mh_T := mh_T_in (List.mem_append_right _ (List.mem_of_getElem? (i := 437) (by decide +kernel))) (by decide +kernel)
set_option maxRecDepth 100000 in
theorem wd_438 : (Jvm.Cond.sameMethod "HoleWater$Way" "HoleWater$Way" "takes" "()I") ∈ mh_T := mh_T_in (List.mem_append_right _ (List.mem_of_getElem? (i := 438) (by decide +kernel))) (by decide +kernel)
set_option maxRecDepth 100000 in
theorem wd_439 : (Jvm.Cond.selects "HoleWater$Blind" ({ cls := "HoleWater$Way", name := "takes", desc := "()I" } : Jvm.MethodName) ({ cls := "HoleWater$Sieve", name := "takes", desc := "()I" } : Jvm.MethodName)) ∈ mh_T := mh_T_in (List.mem_append_right _ (List.mem_of_getElem? (i := 439) (by decide +kernel))) (by decide +kernel)
set_option maxRecDepth 100000 in
theorem wd_440 : (Jvm.Cond.instanceMethod ({ cls := "HoleWater$Sieve", name := "takes", desc := "()I" } : Jvm.MethodName)) ∈ mh_T := mh_T_in (List.mem_append_right _ (List.mem_of_getElem? (i := 440) (by decide +kernel))) (by decide +kernel)
set_option maxRecDepth 100000 in
theorem wd_441 : (Jvm.Cond.code ({ cls := "HoleWater$Sieve", name := "takes", desc := "()I" } : Jvm.MethodName) prog_9_method_3_code (1 : Nat) (Option.some Jvm.ClassFile.FieldType.int)) ∈ mh_T := mh_T_in (List.mem_append_right _ (List.mem_of_getElem? (i := 441) (by decide +kernel))) (by decide +kernel)
set_option maxRecDepth 100000 in
theorem wd_442 : (Jvm.Cond.methodLink "HoleWater$Sieve" (7 : Nat) ({ cls := "HoleWater$Way", name := "takes", desc := "()I" } : Jvm.MethodName)) ∈ mh_T := mh_T_in (List.mem_append_right _ (List.mem_of_getElem? (i := 442) (by decide +kernel))) (by decide +kernel)
set_option maxRecDepth 100000 in
theorem wd_443 : (Jvm.Cond.selects "HoleWater$Open" ({ cls := "HoleWater$Way", name := "takes", desc := "()I" } : Jvm.MethodName) ({ cls := "HoleWater$Open", name := "takes", desc := "()I" } : Jvm.MethodName)) ∈ mh_T := mh_T_in (List.mem_append_right _ (List.mem_of_getElem? (i := 443) (by decide +kernel))) (by decide +kernel)
set_option maxRecDepth 100000 in
theorem wd_444 : (Jvm.Cond.instanceMethod ({ cls := "HoleWater$Open", name := "takes", desc := "()I" } : Jvm.MethodName)) ∈ mh_T := mh_T_in (List.mem_append_right _ (List.mem_of_getElem? (i := 444) (by decide +kernel))) (by decide +kernel)
set_option maxRecDepth 100000 in
theorem wd_445 : (Jvm.Cond.code ({ cls := "HoleWater$Open", name := "takes", desc := "()I" } : Jvm.MethodName) prog_4_method_3_code (1 : Nat) (Option.some Jvm.ClassFile.FieldType.int)) ∈ mh_T := mh_T_in (List.mem_append_right _ (List.mem_of_getElem? (i := 445) (by decide +kernel))) (by decide +kernel)
set_option maxRecDepth 100000 in
theorem wd_446 : (Jvm.Cond.methodLink "HoleWater$Open" (7 : Nat) ({ cls := "HoleWater$Way", name := "takes", desc := "()I" } : Jvm.MethodName)) ∈ mh_T := mh_T_in (List.mem_append_right _ (List.mem_of_getElem? (i := 446) (by decide +kernel))) (by decide +kernel)
set_option maxRecDepth 100000 in
theorem wd_447 : (Jvm.Cond.selects "HoleWater$Overflow" ({ cls := "HoleWater$Way", name := "takes", desc := "()I" } : Jvm.MethodName) ({ cls := "HoleWater$Open", name := "takes", desc := "()I" } : Jvm.MethodName)) ∈ mh_T := mh_T_in (List.mem_append_right _ (List.mem_of_getElem? (i := 447) (by decide +kernel))) (by decide +kernel)
set_option maxRecDepth 100000 in
theorem wd_448 : (Jvm.Cond.selects "HoleWater$Pool" ({ cls := "HoleWater$Way", name := "takes", desc := "()I" } : Jvm.MethodName) ({ cls := "HoleWater$Way", name := "takes", desc := "()I" } : Jvm.MethodName)) ∈ mh_T := mh_T_in (List.mem_append_right _ (List.mem_of_getElem? (i := 448) (by decide +kernel))) (by decide +kernel)
set_option maxRecDepth 100000 in
theorem wd_449 : (Jvm.Cond.selects "HoleWater$Sieve" ({ cls := "HoleWater$Way", name := "takes", desc := "()I" } : Jvm.MethodName) ({ cls := "HoleWater$Sieve", name := "takes", desc := "()I" } : Jvm.MethodName)) ∈ mh_T := mh_T_in (List.mem_append_right _ (List.mem_of_getElem? (i := 449) (by decide +kernel))) (by decide +kernel)
set_option maxRecDepth 100000 in
theorem wd_450 : (Jvm.Cond.code ({ cls := "HoleWater$Way", name := "takes", desc := "()I" } : Jvm.MethodName) prog_11_method_3_code (1 : Nat) (Option.some Jvm.ClassFile.FieldType.int)) ∈ mh_T := mh_T_in (List.mem_append_right _ (List.mem_of_getElem? (i := 450) (by decide +kernel))) (by decide +kernel)
set_option maxRecDepth 100000 in
theorem wd_451 : (Jvm.Cond.methodLink "HoleWaterLaw" (32 : Nat) ({ cls := "HoleWater", name := "wayIs", desc := "(II)I" } : Jvm.MethodName)) ∈ mh_T := mh_T_in (List.mem_append_right _ (List.mem_of_getElem? (i := 451) (by decide +kernel))) (by decide +kernel)
set_option maxRecDepth 100000 in
theorem wd_452 : (Jvm.Cond.instanceMethod ({ cls := "HoleWater", name := "wayIs", desc := "(II)I" } : Jvm.MethodName)) ∈ mh_T := mh_T_in (List.mem_append_right _ (List.mem_of_getElem? (i := 452) (by decide +kernel))) (by decide +kernel)
set_option maxRecDepth 100000 in
theorem wd_453 : (Jvm.Cond.selects "HoleWater" ({ cls := "HoleWater", name := "wayIs", desc := "(II)I" } : Jvm.MethodName) ({ cls := "HoleWater", name := "wayIs", desc := "(II)I" } : Jvm.MethodName)) ∈ mh_T := mh_T_in (List.mem_append_right _ (List.mem_of_getElem? (i := 453) (by decide +kernel))) (by decide +kernel)
set_option maxRecDepth 100000 in
theorem wd_454 : (Jvm.Cond.code ({ cls := "HoleWater", name := "wayIs", desc := "(II)I" } : Jvm.MethodName) prog_1_method_6_code (4 : Nat) (Option.some Jvm.ClassFile.FieldType.int)) ∈ mh_T := mh_T_in (List.mem_append_right _ (List.mem_of_getElem? (i := 454) (by decide +kernel))) (by decide +kernel)
set_option maxRecDepth 100000 in
theorem wd_455 : (Jvm.Cond.methodLink "HoleWater" (144 : Nat) ({ cls := "HoleWater$Way", name := "kind", desc := "()I" } : Jvm.MethodName)) ∈ mh_T := mh_T_in (List.mem_append_right _ (List.mem_of_getElem? (i := 455) (by decide +kernel))) (by decide +kernel)
set_option maxRecDepth 100000 in
theorem wd_456 : (Jvm.Cond.instanceMethod ({ cls := "HoleWater$Way", name := "kind", desc := "()I" } : Jvm.MethodName)) ∈ mh_T := mh_T_in (List.mem_append_right _ (List.mem_of_getElem? (i := 456) (by decide +kernel))) (by decide +kernel)
set_option maxRecDepth 100000 in
theorem wd_457 : (Jvm.Cond.selects "HoleWater$Way" ({ cls := "HoleWater$Way", name := "kind", desc := "()I" } : Jvm.MethodName) ({ cls := "HoleWater$Way", name := "kind", desc := "()I" } : Jvm.MethodName)) ∈ mh_T := mh_T_in (List.mem_append_right _ (List.mem_of_getElem? (i := 457) (by decide +kernel))) (by decide +kernel)
set_option maxRecDepth 100000 in
theorem wd_458 : (Jvm.Cond.sameMethod "HoleWater$Way" "HoleWater$Way" "kind" "()I") ∈ mh_T := mh_T_in (List.mem_append_right _ (List.mem_of_getElem? (i := 458) (by decide +kernel))) (by decide +kernel)
set_option maxRecDepth 100000 in
theorem wd_459 : (Jvm.Cond.selects "HoleWater$Blind" ({ cls := "HoleWater$Way", name := "kind", desc := "()I" } : Jvm.MethodName) ({ cls := "HoleWater$Blind", name := "kind", desc := "()I" } : Jvm.MethodName)) ∈ mh_T := mh_T_in (List.mem_append_right _ (List.mem_of_getElem? (i := 459) (by decide +kernel))) (by decide +kernel)
set_option maxRecDepth 100000 in
theorem wd_460 : (Jvm.Cond.instanceMethod ({ cls := "HoleWater$Blind", name := "kind", desc := "()I" } : Jvm.MethodName)) ∈ mh_T := mh_T_in (List.mem_append_right _ (List.mem_of_getElem? (i := 460) (by decide +kernel))) (by decide +kernel)
set_option maxRecDepth 100000 in
theorem wd_461 : (Jvm.Cond.code ({ cls := "HoleWater$Blind", name := "kind", desc := "()I" } : Jvm.MethodName) prog_2_method_2_code (1 : Nat) (Option.some Jvm.ClassFile.FieldType.int)) ∈ mh_T := mh_T_in (List.mem_append_right _ (List.mem_of_getElem? (i := 461) (by decide +kernel))) (by decide +kernel)
