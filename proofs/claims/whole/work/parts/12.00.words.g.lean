set_option maxRecDepth 100000 in
theorem wd_1 : (Jvm.Cond.initialized "HoleWater") ∈ mh_T := mh_T_in (List.mem_append_right _ (List.mem_of_getElem? (i := 1) (by decide +kernel))) (by decide +kernel)
set_option maxRecDepth 100000 in
theorem wd_2 : (Jvm.Cond.initialized "HoleWater$World") ∈ mh_T := mh_T_in (List.mem_append_right _ (List.mem_of_getElem? (i := 2) (by decide +kernel))) (by decide +kernel)
set_option maxRecDepth 100000 in
theorem wd_3 : (Jvm.Cond.initialized "HoleWater$Water") ∈ mh_T := mh_T_in (List.mem_append_right _ (List.mem_of_getElem? (i := 3) (by decide +kernel))) (by decide +kernel)
set_option maxRecDepth 100000 in
theorem wd_4 : (Jvm.Cond.initialized "HoleWater$Looks") ∈ mh_T := mh_T_in (List.mem_append_right _ (List.mem_of_getElem? (i := 4) (by decide +kernel))) (by decide +kernel)
set_option maxRecDepth 100000 in
theorem wd_5 : (Jvm.Cond.initialized "HoleWater$Row") ∈ mh_T := mh_T_in (List.mem_append_right _ (List.mem_of_getElem? (i := 5) (by decide +kernel))) (by decide +kernel)
set_option maxRecDepth 100000 in
theorem wd_7 : (Jvm.Cond.initialized "HoleWater$Way") ∈ mh_T := mh_T_in (List.mem_append_right _ (List.mem_of_getElem? (i := 7) (by decide +kernel))) (by decide +kernel)
set_option maxRecDepth 100000 in
theorem wd_8 : (Jvm.Cond.initialized "HoleWater$Reader") ∈ mh_T := mh_T_in (List.mem_append_right _ (List.mem_of_getElem? (i := 8) (by decide +kernel))) (by decide +kernel)
set_option maxRecDepth 100000 in
theorem wd_9 : (Jvm.Cond.initialized "HoleWaterModel") ∈ mh_T := mh_T_in (List.mem_append_right _ (List.mem_of_getElem? (i := 9) (by decide +kernel))) (by decide +kernel)
set_option maxRecDepth 100000 in
theorem wd_10 : (Jvm.Cond.initialized "HoleWater$Open") ∈ mh_T := mh_T_in (List.mem_append_right _ (List.mem_of_getElem? (i := 10) (by decide +kernel))) (by decide +kernel)
set_option maxRecDepth 100000 in
theorem wd_11 : (Jvm.Cond.initialized "HoleWater$Sieve") ∈ mh_T := mh_T_in (List.mem_append_right _ (List.mem_of_getElem? (i := 11) (by decide +kernel))) (by decide +kernel)
set_option maxRecDepth 100000 in
theorem wd_12 : (Jvm.Cond.initialized "HoleWater$Overflow") ∈ mh_T := mh_T_in (List.mem_append_right _ (List.mem_of_getElem? (i := 12) (by decide +kernel))) (by decide +kernel)
set_option maxRecDepth 100000 in
theorem wd_13 : (Jvm.Cond.initialized "HoleWater$Pool") ∈ mh_T := mh_T_in (List.mem_append_right _ (List.mem_of_getElem? (i := 13) (by decide +kernel))) (by decide +kernel)
set_option maxRecDepth 100000 in
theorem wd_14 : (Jvm.Cond.initialized "HoleWater$Blind") ∈ mh_T := mh_T_in (List.mem_append_right _ (List.mem_of_getElem? (i := 14) (by decide +kernel))) (by decide +kernel)
set_option maxRecDepth 100000 in
theorem wd_15 : (Jvm.Cond.initialized "java/util/Arrays") ∈ mh_T := mh_T_in (List.mem_append_right _ (List.mem_of_getElem? (i := 15) (by decide +kernel))) (by decide +kernel)
set_option maxRecDepth 100000 in
theorem wd_16 : (Jvm.Cond.initialized "java/lang/System") ∈ mh_T := mh_T_in (List.mem_append_right _ (List.mem_of_getElem? (i := 16) (by decide +kernel))) (by decide +kernel)
set_option maxRecDepth 100000 in
theorem wd_17 : (Jvm.Cond.initialized "java/lang/String") ∈ mh_T := mh_T_in (List.mem_append_right _ (List.mem_of_getElem? (i := 17) (by decide +kernel))) (by decide +kernel)
set_option maxRecDepth 100000 in
theorem wd_18 : (Jvm.Cond.initialized "java/lang/StringLatin1") ∈ mh_T := mh_T_in (List.mem_append_right _ (List.mem_of_getElem? (i := 18) (by decide +kernel))) (by decide +kernel)
set_option maxRecDepth 100000 in
theorem wd_22 : (Jvm.Cond.initialized "java/lang/Integer") ∈ mh_T := mh_T_in (List.mem_append_right _ (List.mem_of_getElem? (i := 22) (by decide +kernel))) (by decide +kernel)
set_option maxRecDepth 100000 in
theorem wd_23 : (Jvm.Cond.classLink "HoleWaterLaw" (7 : Nat) "HoleWater") ∈ mh_T := mh_T_in (List.mem_append_right _ (List.mem_of_getElem? (i := 23) (by decide +kernel))) (by decide +kernel)
set_option maxRecDepth 100000 in
theorem wd_24 : (Jvm.Cond.instantiable "HoleWater" (11 : Nat)) ∈ mh_T := mh_T_in (List.mem_append_right _ (List.mem_of_getElem? (i := 24) (by decide +kernel))) (by decide +kernel)
set_option maxRecDepth 100000 in
theorem wd_25 : (Jvm.Cond.methodLink "HoleWaterLaw" (9 : Nat) ({ cls := "HoleWater", name := "<init>", desc := "()V" } : Jvm.MethodName)) ∈ mh_T := mh_T_in (List.mem_append_right _ (List.mem_of_getElem? (i := 25) (by decide +kernel))) (by decide +kernel)
set_option maxRecDepth 100000 in
theorem wd_26 : (Jvm.Cond.instanceMethod ({ cls := "HoleWater", name := "<init>", desc := "()V" } : Jvm.MethodName)) ∈ mh_T := mh_T_in (List.mem_append_right _ (List.mem_of_getElem? (i := 26) (by decide +kernel))) (by decide +kernel)
set_option maxRecDepth 100000 in
theorem wd_27 : (Jvm.Cond.code ({ cls := "HoleWater", name := "<init>", desc := "()V" } : Jvm.MethodName) prog_1_method_1_code (1 : Nat) (Option.none : Option Jvm.ClassFile.FieldType)) ∈ mh_T := mh_T_in (List.mem_append_right _ (List.mem_of_getElem? (i := 27) (by decide +kernel))) (by decide +kernel)
set_option maxRecDepth 100000 in
theorem wd_28 : (Jvm.Cond.methodLink "HoleWater" (3 : Nat) ({ cls := "java/lang/Object", name := "<init>", desc := "()V" } : Jvm.MethodName)) ∈ mh_T := mh_T_in (List.mem_append_right _ (List.mem_of_getElem? (i := 28) (by decide +kernel))) (by decide +kernel)
set_option maxRecDepth 100000 in
theorem wd_29 : (Jvm.Cond.instanceMethod ({ cls := "java/lang/Object", name := "<init>", desc := "()V" } : Jvm.MethodName)) ∈ mh_T := mh_T_in (List.mem_append_right _ (List.mem_of_getElem? (i := 29) (by decide +kernel))) (by decide +kernel)
set_option maxRecDepth 100000 in
theorem wd_31 : (Jvm.Cond.classLink "HoleWater" (9 : Nat) "HoleWater$World") ∈ mh_T := mh_T_in (List.mem_append_right _ (List.mem_of_getElem? (i := 31) (by decide +kernel))) (by decide +kernel)
set_option maxRecDepth 100000 in
theorem wd_32 : (Jvm.Cond.instantiable "HoleWater$World" (13 : Nat)) ∈ mh_T := mh_T_in (List.mem_append_right _ (List.mem_of_getElem? (i := 32) (by decide +kernel))) (by decide +kernel)
set_option maxRecDepth 100000 in
theorem wd_33 : (Jvm.Cond.methodLink "HoleWater" (11 : Nat) ({ cls := "HoleWater$World", name := "<init>", desc := "()V" } : Jvm.MethodName)) ∈ mh_T := mh_T_in (List.mem_append_right _ (List.mem_of_getElem? (i := 33) (by decide +kernel))) (by decide +kernel)
set_option maxRecDepth 100000 in
theorem wd_34 : (Jvm.Cond.instanceMethod ({ cls := "HoleWater$World", name := "<init>", desc := "()V" } : Jvm.MethodName)) ∈ mh_T := mh_T_in (List.mem_append_right _ (List.mem_of_getElem? (i := 34) (by decide +kernel))) (by decide +kernel)
set_option maxRecDepth 100000 in
theorem wd_35 : (Jvm.Cond.code ({ cls := "HoleWater$World", name := "<init>", desc := "()V" } : Jvm.MethodName) prog_12_method_1_code (3 : Nat) (Option.none : Option Jvm.ClassFile.FieldType)) ∈ mh_T := mh_T_in (List.mem_append_right _ (List.mem_of_getElem? (i := 35) (by decide +kernel))) (by decide +kernel)
set_option maxRecDepth 100000 in
theorem wd_36 : (Jvm.Cond.methodLink "HoleWater$World" (3 : Nat) ({ cls := "java/lang/Object", name := "<init>", desc := "()V" } : Jvm.MethodName)) ∈ mh_T := mh_T_in (List.mem_append_right _ (List.mem_of_getElem? (i := 36) (by decide +kernel))) (by decide +kernel)
set_option maxRecDepth 100000 in
theorem wd_37 : (Jvm.Cond.classLink "HoleWater$World" (31 : Nat) "HoleWater$Way") ∈ mh_T := mh_T_in (List.mem_append_right _ (List.mem_of_getElem? (i := 37) (by decide +kernel))) (by decide +kernel)
set_option maxRecDepth 100000 in
theorem wd_39 : (Jvm.Cond.classLink "HoleWater$World" (37 : Nat) "HoleWater$Water") ∈ mh_T := mh_T_in (List.mem_append_right _ (List.mem_of_getElem? (i := 39) (by decide +kernel))) (by decide +kernel)
set_option maxRecDepth 100000 in
theorem wd_40 : (Jvm.Cond.instantiable "HoleWater$Water" (12 : Nat)) ∈ mh_T := mh_T_in (List.mem_append_right _ (List.mem_of_getElem? (i := 40) (by decide +kernel))) (by decide +kernel)
set_option maxRecDepth 100000 in
theorem wd_42 : (Jvm.Cond.instanceMethod ({ cls := "HoleWater$Water", name := "<init>", desc := "()V" } : Jvm.MethodName)) ∈ mh_T := mh_T_in (List.mem_append_right _ (List.mem_of_getElem? (i := 42) (by decide +kernel))) (by decide +kernel)
set_option maxRecDepth 100000 in
theorem wd_43 : (Jvm.Cond.code ({ cls := "HoleWater$Water", name := "<init>", desc := "()V" } : Jvm.MethodName) prog_10_method_1_code (1 : Nat) (Option.none : Option Jvm.ClassFile.FieldType)) ∈ mh_T := mh_T_in (List.mem_append_right _ (List.mem_of_getElem? (i := 43) (by decide +kernel))) (by decide +kernel)
set_option maxRecDepth 100000 in
theorem wd_44 : (Jvm.Cond.methodLink "HoleWater$Water" (3 : Nat) ({ cls := "java/lang/Object", name := "<init>", desc := "()V" } : Jvm.MethodName)) ∈ mh_T := mh_T_in (List.mem_append_right _ (List.mem_of_getElem? (i := 44) (by decide +kernel))) (by decide +kernel)
set_option maxRecDepth 100000 in
theorem wd_45 : (Jvm.Cond.fieldLink "HoleWater$Water" (9 : Nat) "HoleWater$Water" "now" "I") ∈ mh_T := mh_T_in (List.mem_append_right _ (List.mem_of_getElem? (i := 45) (by decide +kernel))) (by decide +kernel)
set_option maxRecDepth 100000 in
theorem wd_46 : (Jvm.Cond.fieldLink "HoleWater$Looks" (43 : Nat) "HoleWater$Water" "now" "I") ∈ mh_T := mh_T_in (List.mem_append_right _ (List.mem_of_getElem? (i := 46) (by decide +kernel))) (by decide +kernel)
set_option maxRecDepth 100000 in
theorem wd_47 : (Jvm.Cond.fieldLink "HoleWater$World" (102 : Nat) "HoleWater$Water" "now" "I") ∈ mh_T := mh_T_in (List.mem_append_right _ (List.mem_of_getElem? (i := 47) (by decide +kernel))) (by decide +kernel)
set_option maxRecDepth 100000 in
theorem wd_48 : (Jvm.Cond.fieldLink "HoleWater" (189 : Nat) "HoleWater$Water" "now" "I") ∈ mh_T := mh_T_in (List.mem_append_right _ (List.mem_of_getElem? (i := 48) (by decide +kernel))) (by decide +kernel)
set_option maxRecDepth 100000 in
theorem wd_49 : (Jvm.Cond.fieldLink "HoleWater$Water" (15 : Nat) "HoleWater$Water" "inFlood" "Z") ∈ mh_T := mh_T_in (List.mem_append_right _ (List.mem_of_getElem? (i := 49) (by decide +kernel))) (by decide +kernel)
set_option maxRecDepth 100000 in
theorem wd_50 : (Jvm.Cond.fieldLink "HoleWater$Looks" (48 : Nat) "HoleWater$Water" "inFlood" "Z") ∈ mh_T := mh_T_in (List.mem_append_right _ (List.mem_of_getElem? (i := 50) (by decide +kernel))) (by decide +kernel)
set_option maxRecDepth 100000 in
theorem wd_51 : (Jvm.Cond.fieldLink "HoleWater" (179 : Nat) "HoleWater$Water" "inFlood" "Z") ∈ mh_T := mh_T_in (List.mem_append_right _ (List.mem_of_getElem? (i := 51) (by decide +kernel))) (by decide +kernel)
set_option maxRecDepth 100000 in
theorem wd_52 : (Jvm.Cond.fieldLink "HoleWater$World" (121 : Nat) "HoleWater$Water" "inFlood" "Z") ∈ mh_T := mh_T_in (List.mem_append_right _ (List.mem_of_getElem? (i := 52) (by decide +kernel))) (by decide +kernel)
set_option maxRecDepth 100000 in
theorem wd_53 : (Jvm.Cond.fieldLink "HoleWater$Water" (19 : Nat) "HoleWater$Water" "lostWater" "I") ∈ mh_T := mh_T_in (List.mem_append_right _ (List.mem_of_getElem? (i := 53) (by decide +kernel))) (by decide +kernel)
set_option maxRecDepth 100000 in
theorem wd_54 : (Jvm.Cond.fieldLink "HoleWater" (373 : Nat) "HoleWater$Water" "lostWater" "I") ∈ mh_T := mh_T_in (List.mem_append_right _ (List.mem_of_getElem? (i := 54) (by decide +kernel))) (by decide +kernel)
set_option maxRecDepth 100000 in
theorem wd_55 : (Jvm.Cond.fieldLink "HoleWater$Water" (22 : Nat) "HoleWater$Water" "fades" "[I") ∈ mh_T := mh_T_in (List.mem_append_right _ (List.mem_of_getElem? (i := 55) (by decide +kernel))) (by decide +kernel)
set_option maxRecDepth 100000 in
theorem wd_56 : (Jvm.Cond.fieldLink "HoleWater" (186 : Nat) "HoleWater$Water" "fades" "[I") ∈ mh_T := mh_T_in (List.mem_append_right _ (List.mem_of_getElem? (i := 56) (by decide +kernel))) (by decide +kernel)
set_option maxRecDepth 100000 in
theorem wd_57 : (Jvm.Cond.fieldLink "HoleWater$Water" (26 : Nat) "HoleWater$Water" "sums" "[I") ∈ mh_T := mh_T_in (List.mem_append_right _ (List.mem_of_getElem? (i := 57) (by decide +kernel))) (by decide +kernel)
set_option maxRecDepth 100000 in
theorem wd_58 : (Jvm.Cond.fieldLink "HoleWater$World" (99 : Nat) "HoleWater$Water" "sums" "[I") ∈ mh_T := mh_T_in (List.mem_append_right _ (List.mem_of_getElem? (i := 58) (by decide +kernel))) (by decide +kernel)
set_option maxRecDepth 100000 in
theorem wd_59 : (Jvm.Cond.fieldLink "HoleWater" (217 : Nat) "HoleWater$Water" "sums" "[I") ∈ mh_T := mh_T_in (List.mem_append_right _ (List.mem_of_getElem? (i := 59) (by decide +kernel))) (by decide +kernel)
set_option maxRecDepth 100000 in
theorem wd_60 : (Jvm.Cond.fieldLink "HoleWater$Water" (29 : Nat) "HoleWater$Water" "at" "[I") ∈ mh_T := mh_T_in (List.mem_append_right _ (List.mem_of_getElem? (i := 60) (by decide +kernel))) (by decide +kernel)
set_option maxRecDepth 100000 in
theorem wd_61 : (Jvm.Cond.fieldLink "HoleWater" (93 : Nat) "HoleWater$Water" "at" "[I") ∈ mh_T := mh_T_in (List.mem_append_right _ (List.mem_of_getElem? (i := 61) (by decide +kernel))) (by decide +kernel)
set_option maxRecDepth 100000 in
theorem wd_62 : (Jvm.Cond.fieldLink "HoleWater$World" (96 : Nat) "HoleWater$Water" "at" "[I") ∈ mh_T := mh_T_in (List.mem_append_right _ (List.mem_of_getElem? (i := 62) (by decide +kernel))) (by decide +kernel)
set_option maxRecDepth 100000 in
theorem wd_63 : (Jvm.Cond.fieldLink "HoleWater$Water" (32 : Nat) "HoleWater$Water" "inside" "[I") ∈ mh_T := mh_T_in (List.mem_append_right _ (List.mem_of_getElem? (i := 63) (by decide +kernel))) (by decide +kernel)
set_option maxRecDepth 100000 in
theorem wd_64 : (Jvm.Cond.fieldLink "HoleWater$Water" (35 : Nat) "HoleWater$Water" "pooled" "[I") ∈ mh_T := mh_T_in (List.mem_append_right _ (List.mem_of_getElem? (i := 64) (by decide +kernel))) (by decide +kernel)
set_option maxRecDepth 100000 in
theorem wd_65 : (Jvm.Cond.fieldLink "HoleWater$Water" (38 : Nat) "HoleWater$Water" "lastOut" "[I") ∈ mh_T := mh_T_in (List.mem_append_right _ (List.mem_of_getElem? (i := 65) (by decide +kernel))) (by decide +kernel)
set_option maxRecDepth 100000 in
theorem wd_66 : (Jvm.Cond.fieldLink "HoleWater" (96 : Nat) "HoleWater$Water" "lastOut" "[I") ∈ mh_T := mh_T_in (List.mem_append_right _ (List.mem_of_getElem? (i := 66) (by decide +kernel))) (by decide +kernel)
set_option maxRecDepth 100000 in
theorem wd_67 : (Jvm.Cond.fieldLink "HoleWater$World" (133 : Nat) "HoleWater$Water" "lastOut" "[I") ∈ mh_T := mh_T_in (List.mem_append_right _ (List.mem_of_getElem? (i := 67) (by decide +kernel))) (by decide +kernel)
set_option maxRecDepth 100000 in
theorem wd_68 : (Jvm.Cond.fieldLink "HoleWater$Water" (41 : Nat) "HoleWater$Water" "everOut" "[I") ∈ mh_T := mh_T_in (List.mem_append_right _ (List.mem_of_getElem? (i := 68) (by decide +kernel))) (by decide +kernel)
set_option maxRecDepth 100000 in
theorem wd_69 : (Jvm.Cond.fieldLink "HoleWater" (99 : Nat) "HoleWater$Water" "everOut" "[I") ∈ mh_T := mh_T_in (List.mem_append_right _ (List.mem_of_getElem? (i := 69) (by decide +kernel))) (by decide +kernel)
set_option maxRecDepth 100000 in
theorem wd_70 : (Jvm.Cond.fieldLink "HoleWater$Water" (44 : Nat) "HoleWater$Water" "outs" "[I") ∈ mh_T := mh_T_in (List.mem_append_right _ (List.mem_of_getElem? (i := 70) (by decide +kernel))) (by decide +kernel)
set_option maxRecDepth 100000 in
theorem wd_71 : (Jvm.Cond.fieldLink "HoleWater$Water" (47 : Nat) "HoleWater$Water" "gets" "[I") ∈ mh_T := mh_T_in (List.mem_append_right _ (List.mem_of_getElem? (i := 71) (by decide +kernel))) (by decide +kernel)
set_option maxRecDepth 100000 in
theorem wd_98 : (Jvm.Cond.classLink "HoleWater$World" (44 : Nat) "HoleWater$Looks") ∈ mh_T := mh_T_in (List.mem_append_right _ (List.mem_of_getElem? (i := 98) (by decide +kernel))) (by decide +kernel)
set_option maxRecDepth 100000 in
theorem wd_99 : (Jvm.Cond.instantiable "HoleWater$Looks" (8 : Nat)) ∈ mh_T := mh_T_in (List.mem_append_right _ (List.mem_of_getElem? (i := 99) (by decide +kernel))) (by decide +kernel)
set_option maxRecDepth 100000 in
theorem wd_101 : (Jvm.Cond.instanceMethod ({ cls := "HoleWater$Looks", name := "<init>", desc := "()V" } : Jvm.MethodName)) ∈ mh_T := mh_T_in (List.mem_append_right _ (List.mem_of_getElem? (i := 101) (by decide +kernel))) (by decide +kernel)
set_option maxRecDepth 100000 in
theorem wd_102 : (Jvm.Cond.code ({ cls := "HoleWater$Looks", name := "<init>", desc := "()V" } : Jvm.MethodName) prog_3_method_1_code (1 : Nat) (Option.none : Option Jvm.ClassFile.FieldType)) ∈ mh_T := mh_T_in (List.mem_append_right _ (List.mem_of_getElem? (i := 102) (by decide +kernel))) (by decide +kernel)
set_option maxRecDepth 100000 in
theorem wd_103 : (Jvm.Cond.methodLink "HoleWater$Looks" (3 : Nat) ({ cls := "java/lang/Object", name := "<init>", desc := "()V" } : Jvm.MethodName)) ∈ mh_T := mh_T_in (List.mem_append_right _ (List.mem_of_getElem? (i := 103) (by decide +kernel))) (by decide +kernel)
set_option maxRecDepth 100000 in
theorem wd_104 : (Jvm.Cond.fieldLink "HoleWater$Looks" (9 : Nat) "HoleWater$Looks" "putCount" "I") ∈ mh_T := mh_T_in (List.mem_append_right _ (List.mem_of_getElem? (i := 104) (by decide +kernel))) (by decide +kernel)
set_option maxRecDepth 100000 in
theorem wd_105 : (Jvm.Cond.fieldLink "HoleWater" (200 : Nat) "HoleWater$Looks" "putCount" "I") ∈ mh_T := mh_T_in (List.mem_append_right _ (List.mem_of_getElem? (i := 105) (by decide +kernel))) (by decide +kernel)
set_option maxRecDepth 100000 in
theorem wd_106 : (Jvm.Cond.fieldLink "HoleWater$Looks" (15 : Nat) "HoleWater$Looks" "lookCount" "I") ∈ mh_T := mh_T_in (List.mem_append_right _ (List.mem_of_getElem? (i := 106) (by decide +kernel))) (by decide +kernel)
set_option maxRecDepth 100000 in
theorem wd_107 : (Jvm.Cond.fieldLink "HoleWater" (275 : Nat) "HoleWater$Looks" "lookCount" "I") ∈ mh_T := mh_T_in (List.mem_append_right _ (List.mem_of_getElem? (i := 107) (by decide +kernel))) (by decide +kernel)
set_option maxRecDepth 100000 in
theorem wd_108 : (Jvm.Cond.fieldLink "HoleWater$Looks" (18 : Nat) "HoleWater$Looks" "puts" "[I") ∈ mh_T := mh_T_in (List.mem_append_right _ (List.mem_of_getElem? (i := 108) (by decide +kernel))) (by decide +kernel)
set_option maxRecDepth 100000 in
theorem wd_109 : (Jvm.Cond.fieldLink "HoleWater" (208 : Nat) "HoleWater$Looks" "puts" "[I") ∈ mh_T := mh_T_in (List.mem_append_right _ (List.mem_of_getElem? (i := 109) (by decide +kernel))) (by decide +kernel)
set_option maxRecDepth 100000 in
theorem wd_110 : (Jvm.Cond.fieldLink "HoleWater$Looks" (22 : Nat) "HoleWater$Looks" "looks" "[I") ∈ mh_T := mh_T_in (List.mem_append_right _ (List.mem_of_getElem? (i := 110) (by decide +kernel))) (by decide +kernel)
set_option maxRecDepth 100000 in
theorem wd_111 : (Jvm.Cond.fieldLink "HoleWater" (278 : Nat) "HoleWater$Looks" "looks" "[I") ∈ mh_T := mh_T_in (List.mem_append_right _ (List.mem_of_getElem? (i := 111) (by decide +kernel))) (by decide +kernel)
set_option maxRecDepth 100000 in
theorem wd_112 : (Jvm.Cond.fieldLink "HoleWater$Looks" (25 : Nat) "HoleWater$Looks" "plan" "[I") ∈ mh_T := mh_T_in (List.mem_append_right _ (List.mem_of_getElem? (i := 112) (by decide +kernel))) (by decide +kernel)
set_option maxRecDepth 100000 in
theorem wd_113 : (Jvm.Cond.fieldLink "HoleWater" (326 : Nat) "HoleWater$Looks" "plan" "[I") ∈ mh_T := mh_T_in (List.mem_append_right _ (List.mem_of_getElem? (i := 113) (by decide +kernel))) (by decide +kernel)
set_option maxRecDepth 100000 in
theorem wd_114 : (Jvm.Cond.fieldLink "HoleWater$Looks" (28 : Nat) "HoleWater$Looks" "unsaid" "[I") ∈ mh_T := mh_T_in (List.mem_append_right _ (List.mem_of_getElem? (i := 114) (by decide +kernel))) (by decide +kernel)
set_option maxRecDepth 100000 in
theorem wd_115 : (Jvm.Cond.fieldLink "HoleWater$Looks" (31 : Nat) "HoleWater$Looks" "lets" "[I") ∈ mh_T := mh_T_in (List.mem_append_right _ (List.mem_of_getElem? (i := 115) (by decide +kernel))) (by decide +kernel)
set_option maxRecDepth 100000 in
theorem wd_116 : (Jvm.Cond.fieldLink "HoleWater$Looks" (34 : Nat) "HoleWater$Looks" "covers" "[I") ∈ mh_T := mh_T_in (List.mem_append_right _ (List.mem_of_getElem? (i := 116) (by decide +kernel))) (by decide +kernel)
set_option maxRecDepth 100000 in
theorem wd_134 : (Jvm.Cond.classLink "HoleWater$World" (51 : Nat) "HoleWater$Row") ∈ mh_T := mh_T_in (List.mem_append_right _ (List.mem_of_getElem? (i := 134) (by decide +kernel))) (by decide +kernel)
set_option maxRecDepth 100000 in
theorem wd_135 : (Jvm.Cond.instantiable "HoleWater$Row" (2 : Nat)) ∈ mh_T := mh_T_in (List.mem_append_right _ (List.mem_of_getElem? (i := 135) (by decide +kernel))) (by decide +kernel)
set_option maxRecDepth 100000 in
theorem wd_136 : (Jvm.Cond.methodLink "HoleWater$World" (53 : Nat) ({ cls := "HoleWater$Row", name := "<init>", desc := "(I)V" } : Jvm.MethodName)) ∈ mh_T := mh_T_in (List.mem_append_right _ (List.mem_of_getElem? (i := 136) (by decide +kernel))) (by decide +kernel)
set_option maxRecDepth 100000 in
theorem wd_137 : (Jvm.Cond.instanceMethod ({ cls := "HoleWater$Row", name := "<init>", desc := "(I)V" } : Jvm.MethodName)) ∈ mh_T := mh_T_in (List.mem_append_right _ (List.mem_of_getElem? (i := 137) (by decide +kernel))) (by decide +kernel)
set_option maxRecDepth 100000 in
theorem wd_138 : (Jvm.Cond.code ({ cls := "HoleWater$Row", name := "<init>", desc := "(I)V" } : Jvm.MethodName) prog_8_method_1_code (2 : Nat) (Option.none : Option Jvm.ClassFile.FieldType)) ∈ mh_T := mh_T_in (List.mem_append_right _ (List.mem_of_getElem? (i := 138) (by decide +kernel))) (by decide +kernel)
set_option maxRecDepth 100000 in
theorem wd_139 : (Jvm.Cond.methodLink "HoleWater$Row" (1 : Nat) ({ cls := "java/lang/Object", name := "<init>", desc := "()V" } : Jvm.MethodName)) ∈ mh_T := mh_T_in (List.mem_append_right _ (List.mem_of_getElem? (i := 139) (by decide +kernel))) (by decide +kernel)
set_option maxRecDepth 100000 in
theorem wd_140 : (Jvm.Cond.methodLink "HoleWater$Row" (13 : Nat) ({ cls := "java/lang/Math", name := "max", desc := "(II)I" } : Jvm.MethodName)) ∈ mh_T := mh_T_in (List.mem_append_right _ (List.mem_of_getElem? (i := 140) (by decide +kernel))) (by decide +kernel)
set_option maxRecDepth 100000 in
theorem wd_143 : (Jvm.Cond.fieldLink "HoleWater$Row" (19 : Nat) "HoleWater$Row" "items" "[I") ∈ mh_T := mh_T_in (List.mem_append_right _ (List.mem_of_getElem? (i := 143) (by decide +kernel))) (by decide +kernel)
set_option maxRecDepth 100000 in
theorem wd_144 : (Jvm.Cond.fieldLink "HoleWater$Reader" (67 : Nat) "HoleWater$Row" "items" "[I") ∈ mh_T := mh_T_in (List.mem_append_right _ (List.mem_of_getElem? (i := 144) (by decide +kernel))) (by decide +kernel)
set_option maxRecDepth 100000 in
theorem wd_145 : (Jvm.Cond.fieldLink "HoleWater$Row" (7 : Nat) "HoleWater$Row" "count" "I") ∈ mh_T := mh_T_in (List.mem_append_right _ (List.mem_of_getElem? (i := 145) (by decide +kernel))) (by decide +kernel)
set_option maxRecDepth 100000 in
theorem wd_146 : (Jvm.Cond.fieldLink "HoleWater$Reader" (70 : Nat) "HoleWater$Row" "count" "I") ∈ mh_T := mh_T_in (List.mem_append_right _ (List.mem_of_getElem? (i := 146) (by decide +kernel))) (by decide +kernel)
set_option maxRecDepth 100000 in
theorem wd_147 : (Jvm.Cond.fieldLink "HoleWater$World" (113 : Nat) "HoleWater$Row" "count" "I") ∈ mh_T := mh_T_in (List.mem_append_right _ (List.mem_of_getElem? (i := 147) (by decide +kernel))) (by decide +kernel)
set_option maxRecDepth 100000 in
theorem wd_148 : (Jvm.Cond.fieldLink "HoleWater" (233 : Nat) "HoleWater$Row" "count" "I") ∈ mh_T := mh_T_in (List.mem_append_right _ (List.mem_of_getElem? (i := 148) (by decide +kernel))) (by decide +kernel)
set_option maxRecDepth 100000 in
theorem wd_154 : (Jvm.Cond.instantiable "HoleWater$Way" (4 : Nat)) ∈ mh_T := mh_T_in (List.mem_append_right _ (List.mem_of_getElem? (i := 154) (by decide +kernel))) (by decide +kernel)
set_option maxRecDepth 100000 in
theorem wd_155 : (Jvm.Cond.methodLink "HoleWater$World" (69 : Nat) ({ cls := "HoleWater$Way", name := "<init>", desc := "(IIII)V" } : Jvm.MethodName)) ∈ mh_T := mh_T_in (List.mem_append_right _ (List.mem_of_getElem? (i := 155) (by decide +kernel))) (by decide +kernel)
set_option maxRecDepth 100000 in
theorem wd_156 : (Jvm.Cond.instanceMethod ({ cls := "HoleWater$Way", name := "<init>", desc := "(IIII)V" } : Jvm.MethodName)) ∈ mh_T := mh_T_in (List.mem_append_right _ (List.mem_of_getElem? (i := 156) (by decide +kernel))) (by decide +kernel)
set_option maxRecDepth 100000 in
theorem wd_157 : (Jvm.Cond.code ({ cls := "HoleWater$Way", name := "<init>", desc := "(IIII)V" } : Jvm.MethodName) prog_11_method_1_code (5 : Nat) (Option.none : Option Jvm.ClassFile.FieldType)) ∈ mh_T := mh_T_in (List.mem_append_right _ (List.mem_of_getElem? (i := 157) (by decide +kernel))) (by decide +kernel)
set_option maxRecDepth 100000 in
theorem wd_158 : (Jvm.Cond.methodLink "HoleWater$Way" (1 : Nat) ({ cls := "java/lang/Object", name := "<init>", desc := "()V" } : Jvm.MethodName)) ∈ mh_T := mh_T_in (List.mem_append_right _ (List.mem_of_getElem? (i := 158) (by decide +kernel))) (by decide +kernel)
set_option maxRecDepth 100000 in
theorem wd_159 : (Jvm.Cond.fieldLink "HoleWater$Way" (7 : Nat) "HoleWater$Way" "from" "I") ∈ mh_T := mh_T_in (List.mem_append_right _ (List.mem_of_getElem? (i := 159) (by decide +kernel))) (by decide +kernel)
set_option maxRecDepth 100000 in
theorem wd_160 : (Jvm.Cond.fieldLink "HoleWater" (147 : Nat) "HoleWater$Way" "from" "I") ∈ mh_T := mh_T_in (List.mem_append_right _ (List.mem_of_getElem? (i := 160) (by decide +kernel))) (by decide +kernel)
set_option maxRecDepth 100000 in
theorem wd_161 : (Jvm.Cond.fieldLink "HoleWater$Water" (128 : Nat) "HoleWater$Way" "from" "I") ∈ mh_T := mh_T_in (List.mem_append_right _ (List.mem_of_getElem? (i := 161) (by decide +kernel))) (by decide +kernel)
set_option maxRecDepth 100000 in
theorem wd_162 : (Jvm.Cond.fieldLink "HoleWater$Way" (13 : Nat) "HoleWater$Way" "to" "I") ∈ mh_T := mh_T_in (List.mem_append_right _ (List.mem_of_getElem? (i := 162) (by decide +kernel))) (by decide +kernel)
set_option maxRecDepth 100000 in
theorem wd_163 : (Jvm.Cond.fieldLink "HoleWater" (150 : Nat) "HoleWater$Way" "to" "I") ∈ mh_T := mh_T_in (List.mem_append_right _ (List.mem_of_getElem? (i := 163) (by decide +kernel))) (by decide +kernel)
set_option maxRecDepth 100000 in
theorem wd_164 : (Jvm.Cond.fieldLink "HoleWater$Water" (116 : Nat) "HoleWater$Way" "to" "I") ∈ mh_T := mh_T_in (List.mem_append_right _ (List.mem_of_getElem? (i := 164) (by decide +kernel))) (by decide +kernel)
set_option maxRecDepth 100000 in
theorem wd_165 : (Jvm.Cond.fieldLink "HoleWater$Way" (16 : Nat) "HoleWater$Way" "length" "I") ∈ mh_T := mh_T_in (List.mem_append_right _ (List.mem_of_getElem? (i := 165) (by decide +kernel))) (by decide +kernel)
set_option maxRecDepth 100000 in
theorem wd_166 : (Jvm.Cond.fieldLink "HoleWater" (153 : Nat) "HoleWater$Way" "length" "I") ∈ mh_T := mh_T_in (List.mem_append_right _ (List.mem_of_getElem? (i := 166) (by decide +kernel))) (by decide +kernel)
set_option maxRecDepth 100000 in
theorem wd_167 : (Jvm.Cond.fieldLink "HoleWater$Way" (19 : Nat) "HoleWater$Way" "n" "I") ∈ mh_T := mh_T_in (List.mem_append_right _ (List.mem_of_getElem? (i := 167) (by decide +kernel))) (by decide +kernel)
set_option maxRecDepth 100000 in
theorem wd_168 : (Jvm.Cond.fieldLink "HoleWater$Pool" (7 : Nat) "HoleWater$Pool" "n" "I") ∈ mh_T := mh_T_in (List.mem_append_right _ (List.mem_of_getElem? (i := 168) (by decide +kernel))) (by decide +kernel)
set_option maxRecDepth 100000 in
theorem wd_169 : (Jvm.Cond.sameField "HoleWater$Pool" "HoleWater$Way" "n" "I") ∈ mh_T := mh_T_in (List.mem_append_right _ (List.mem_of_getElem? (i := 169) (by decide +kernel))) (by decide +kernel)
set_option maxRecDepth 100000 in
theorem wd_170 : (Jvm.Cond.fieldLink "HoleWater$Overflow" (13 : Nat) "HoleWater$Overflow" "n" "I") ∈ mh_T := mh_T_in (List.mem_append_right _ (List.mem_of_getElem? (i := 170) (by decide +kernel))) (by decide +kernel)
set_option maxRecDepth 100000 in
theorem wd_171 : (Jvm.Cond.sameField "HoleWater$Overflow" "HoleWater$Way" "n" "I") ∈ mh_T := mh_T_in (List.mem_append_right _ (List.mem_of_getElem? (i := 171) (by decide +kernel))) (by decide +kernel)
set_option maxRecDepth 100000 in
theorem wd_172 : (Jvm.Cond.fieldLink "HoleWater$Sieve" (11 : Nat) "HoleWater$Sieve" "n" "I") ∈ mh_T := mh_T_in (List.mem_append_right _ (List.mem_of_getElem? (i := 172) (by decide +kernel))) (by decide +kernel)
set_option maxRecDepth 100000 in
theorem wd_173 : (Jvm.Cond.sameField "HoleWater$Sieve" "HoleWater$Way" "n" "I") ∈ mh_T := mh_T_in (List.mem_append_right _ (List.mem_of_getElem? (i := 173) (by decide +kernel))) (by decide +kernel)
set_option maxRecDepth 100000 in
theorem wd_174 : (Jvm.Cond.fieldLink "HoleWater" (156 : Nat) "HoleWater$Way" "n" "I") ∈ mh_T := mh_T_in (List.mem_append_right _ (List.mem_of_getElem? (i := 174) (by decide +kernel))) (by decide +kernel)
set_option maxRecDepth 100000 in
theorem wd_175 : (Jvm.Cond.fieldLink "HoleWater$Water" (144 : Nat) "HoleWater$Way" "n" "I") ∈ mh_T := mh_T_in (List.mem_append_right _ (List.mem_of_getElem? (i := 175) (by decide +kernel))) (by decide +kernel)
set_option maxRecDepth 100000 in
theorem wd_185 : (Jvm.Cond.fieldLink "HoleWater$World" (9 : Nat) "HoleWater$World" "joints" "I") ∈ mh_T := mh_T_in (List.mem_append_right _ (List.mem_of_getElem? (i := 185) (by decide +kernel))) (by decide +kernel)
set_option maxRecDepth 100000 in
theorem wd_186 : (Jvm.Cond.fieldLink "HoleWater" (70 : Nat) "HoleWater$World" "joints" "I") ∈ mh_T := mh_T_in (List.mem_append_right _ (List.mem_of_getElem? (i := 186) (by decide +kernel))) (by decide +kernel)
set_option maxRecDepth 100000 in
theorem wd_187 : (Jvm.Cond.fieldLink "HoleWater$Water" (73 : Nat) "HoleWater$World" "joints" "I") ∈ mh_T := mh_T_in (List.mem_append_right _ (List.mem_of_getElem? (i := 187) (by decide +kernel))) (by decide +kernel)
set_option maxRecDepth 100000 in
theorem wd_188 : (Jvm.Cond.fieldLink "HoleWater$World" (15 : Nat) "HoleWater$World" "wayCount" "I") ∈ mh_T := mh_T_in (List.mem_append_right _ (List.mem_of_getElem? (i := 188) (by decide +kernel))) (by decide +kernel)
set_option maxRecDepth 100000 in
theorem wd_189 : (Jvm.Cond.fieldLink "HoleWater" (116 : Nat) "HoleWater$World" "wayCount" "I") ∈ mh_T := mh_T_in (List.mem_append_right _ (List.mem_of_getElem? (i := 189) (by decide +kernel))) (by decide +kernel)
set_option maxRecDepth 100000 in
theorem wd_190 : (Jvm.Cond.fieldLink "HoleWater$Water" (60 : Nat) "HoleWater$World" "wayCount" "I") ∈ mh_T := mh_T_in (List.mem_append_right _ (List.mem_of_getElem? (i := 190) (by decide +kernel))) (by decide +kernel)
set_option maxRecDepth 100000 in
theorem wd_191 : (Jvm.Cond.fieldLink "HoleWater$World" (18 : Nat) "HoleWater$World" "towns" "I") ∈ mh_T := mh_T_in (List.mem_append_right _ (List.mem_of_getElem? (i := 191) (by decide +kernel))) (by decide +kernel)
set_option maxRecDepth 100000 in
theorem wd_192 : (Jvm.Cond.fieldLink "HoleWater" (102 : Nat) "HoleWater$World" "towns" "I") ∈ mh_T := mh_T_in (List.mem_append_right _ (List.mem_of_getElem? (i := 192) (by decide +kernel))) (by decide +kernel)
set_option maxRecDepth 100000 in
theorem wd_193 : (Jvm.Cond.fieldLink "HoleWater$World" (21 : Nat) "HoleWater$World" "sorts" "[I") ∈ mh_T := mh_T_in (List.mem_append_right _ (List.mem_of_getElem? (i := 193) (by decide +kernel))) (by decide +kernel)
set_option maxRecDepth 100000 in
theorem wd_194 : (Jvm.Cond.fieldLink "HoleWater" (81 : Nat) "HoleWater$World" "sorts" "[I") ∈ mh_T := mh_T_in (List.mem_append_right _ (List.mem_of_getElem? (i := 194) (by decide +kernel))) (by decide +kernel)
set_option maxRecDepth 100000 in
theorem wd_195 : (Jvm.Cond.fieldLink "HoleWater$World" (25 : Nat) "HoleWater$World" "easts" "[I") ∈ mh_T := mh_T_in (List.mem_append_right _ (List.mem_of_getElem? (i := 195) (by decide +kernel))) (by decide +kernel)
set_option maxRecDepth 100000 in
theorem wd_196 : (Jvm.Cond.fieldLink "HoleWater" (84 : Nat) "HoleWater$World" "easts" "[I") ∈ mh_T := mh_T_in (List.mem_append_right _ (List.mem_of_getElem? (i := 196) (by decide +kernel))) (by decide +kernel)
set_option maxRecDepth 100000 in
theorem wd_197 : (Jvm.Cond.fieldLink "HoleWater$World" (28 : Nat) "HoleWater$World" "heights" "[I") ∈ mh_T := mh_T_in (List.mem_append_right _ (List.mem_of_getElem? (i := 197) (by decide +kernel))) (by decide +kernel)
set_option maxRecDepth 100000 in
theorem wd_198 : (Jvm.Cond.fieldLink "HoleWater" (87 : Nat) "HoleWater$World" "heights" "[I") ∈ mh_T := mh_T_in (List.mem_append_right _ (List.mem_of_getElem? (i := 198) (by decide +kernel))) (by decide +kernel)
set_option maxRecDepth 100000 in
theorem wd_199 : (Jvm.Cond.fieldLink "HoleWater$World" (33 : Nat) "HoleWater$World" "ways" "[LHoleWater$Way;") ∈ mh_T := mh_T_in (List.mem_append_right _ (List.mem_of_getElem? (i := 199) (by decide +kernel))) (by decide +kernel)
set_option maxRecDepth 100000 in
theorem wd_200 : (Jvm.Cond.fieldLink "HoleWater" (130 : Nat) "HoleWater$World" "ways" "[LHoleWater$Way;") ∈ mh_T := mh_T_in (List.mem_append_right _ (List.mem_of_getElem? (i := 200) (by decide +kernel))) (by decide +kernel)
set_option maxRecDepth 100000 in
theorem wd_201 : (Jvm.Cond.fieldLink "HoleWater$Water" (65 : Nat) "HoleWater$World" "ways" "[LHoleWater$Way;") ∈ mh_T := mh_T_in (List.mem_append_right _ (List.mem_of_getElem? (i := 201) (by decide +kernel))) (by decide +kernel)
set_option maxRecDepth 100000 in
theorem wd_202 : (Jvm.Cond.fieldLink "HoleWater$World" (40 : Nat) "HoleWater$World" "water" "LHoleWater$Water;") ∈ mh_T := mh_T_in (List.mem_append_right _ (List.mem_of_getElem? (i := 202) (by decide +kernel))) (by decide +kernel)
set_option maxRecDepth 100000 in
theorem wd_203 : (Jvm.Cond.fieldLink "HoleWater" (90 : Nat) "HoleWater$World" "water" "LHoleWater$Water;") ∈ mh_T := mh_T_in (List.mem_append_right _ (List.mem_of_getElem? (i := 203) (by decide +kernel))) (by decide +kernel)
set_option maxRecDepth 100000 in
theorem wd_204 : (Jvm.Cond.fieldLink "HoleWater$World" (47 : Nat) "HoleWater$World" "looks" "LHoleWater$Looks;") ∈ mh_T := mh_T_in (List.mem_append_right _ (List.mem_of_getElem? (i := 204) (by decide +kernel))) (by decide +kernel)
set_option maxRecDepth 100000 in
theorem wd_205 : (Jvm.Cond.fieldLink "HoleWater" (196 : Nat) "HoleWater$World" "looks" "LHoleWater$Looks;") ∈ mh_T := mh_T_in (List.mem_append_right _ (List.mem_of_getElem? (i := 205) (by decide +kernel))) (by decide +kernel)
set_option maxRecDepth 100000 in
theorem wd_206 : (Jvm.Cond.fieldLink "HoleWater$World" (56 : Nat) "HoleWater$World" "tape" "LHoleWater$Row;") ∈ mh_T := mh_T_in (List.mem_append_right _ (List.mem_of_getElem? (i := 206) (by decide +kernel))) (by decide +kernel)
set_option maxRecDepth 100000 in
theorem wd_207 : (Jvm.Cond.fieldLink "HoleWater" (230 : Nat) "HoleWater$World" "tape" "LHoleWater$Row;") ∈ mh_T := mh_T_in (List.mem_append_right _ (List.mem_of_getElem? (i := 207) (by decide +kernel))) (by decide +kernel)
set_option maxRecDepth 100000 in
theorem wd_208 : (Jvm.Cond.fieldLink "HoleWater$World" (60 : Nat) "HoleWater$World" "rainText" "LHoleWater$Row;") ∈ mh_T := mh_T_in (List.mem_append_right _ (List.mem_of_getElem? (i := 208) (by decide +kernel))) (by decide +kernel)
set_option maxRecDepth 100000 in
theorem wd_209 : (Jvm.Cond.fieldLink "HoleWater" (247 : Nat) "HoleWater$World" "rainText" "LHoleWater$Row;") ∈ mh_T := mh_T_in (List.mem_append_right _ (List.mem_of_getElem? (i := 209) (by decide +kernel))) (by decide +kernel)
set_option maxRecDepth 100000 in
theorem wd_210 : (Jvm.Cond.fieldLink "HoleWater$World" (63 : Nat) "HoleWater$World" "seenText" "LHoleWater$Row;") ∈ mh_T := mh_T_in (List.mem_append_right _ (List.mem_of_getElem? (i := 210) (by decide +kernel))) (by decide +kernel)
set_option maxRecDepth 100000 in
theorem wd_211 : (Jvm.Cond.fieldLink "HoleWater" (250 : Nat) "HoleWater$World" "seenText" "LHoleWater$Row;") ∈ mh_T := mh_T_in (List.mem_append_right _ (List.mem_of_getElem? (i := 211) (by decide +kernel))) (by decide +kernel)
set_option maxRecDepth 100000 in
theorem wd_212 : (Jvm.Cond.fieldLink "HoleWater$World" (66 : Nat) "HoleWater$World" "waits" "LHoleWater$Row;") ∈ mh_T := mh_T_in (List.mem_append_right _ (List.mem_of_getElem? (i := 212) (by decide +kernel))) (by decide +kernel)
set_option maxRecDepth 100000 in
theorem wd_213 : (Jvm.Cond.fieldLink "HoleWater" (364 : Nat) "HoleWater$World" "waits" "LHoleWater$Row;") ∈ mh_T := mh_T_in (List.mem_append_right _ (List.mem_of_getElem? (i := 213) (by decide +kernel))) (by decide +kernel)
set_option maxRecDepth 100000 in
theorem wd_241 : (Jvm.Cond.classLink "HoleWater" (19 : Nat) "HoleWater$Water") ∈ mh_T := mh_T_in (List.mem_append_right _ (List.mem_of_getElem? (i := 241) (by decide +kernel))) (by decide +kernel)
set_option maxRecDepth 100000 in
theorem wd_243 : (Jvm.Cond.classLink "HoleWater" (26 : Nat) "HoleWater$Reader") ∈ mh_T := mh_T_in (List.mem_append_right _ (List.mem_of_getElem? (i := 243) (by decide +kernel))) (by decide +kernel)
set_option maxRecDepth 100000 in
theorem wd_244 : (Jvm.Cond.instantiable "HoleWater$Reader" (9 : Nat)) ∈ mh_T := mh_T_in (List.mem_append_right _ (List.mem_of_getElem? (i := 244) (by decide +kernel))) (by decide +kernel)
set_option maxRecDepth 100000 in
theorem wd_246 : (Jvm.Cond.instanceMethod ({ cls := "HoleWater$Reader", name := "<init>", desc := "()V" } : Jvm.MethodName)) ∈ mh_T := mh_T_in (List.mem_append_right _ (List.mem_of_getElem? (i := 246) (by decide +kernel))) (by decide +kernel)
