set_option maxRecDepth 100000 in
theorem wd_1007 : (Jvm.Cond.code ({ cls := "HoleWater$Looks", name := "isFullBottle", desc := "(II)Z" } : Jvm.MethodName) prog_3_method_17_code (3 : Nat) (Option.some Jvm.ClassFile.FieldType.boolean)) ∈ mh_T := mh_T_in (List.mem_append_right _ (List.mem_of_getElem? (i := 1007) (by decide +kernel))) (by decide +kernel)
set_option maxRecDepth 100000 in
theorem wd_1008 : (Jvm.Cond.methodLink "HoleWater$Looks" (83 : Nat) ({ cls := "HoleWater$Looks", name := "wasSeenAhead", desc := "(II)Z" } : Jvm.MethodName)) ∈ mh_T := mh_T_in (List.mem_append_right _ (List.mem_of_getElem? (i := 1008) (by decide +kernel))) (by decide +kernel)
set_option maxRecDepth 100000 in
theorem wd_1010 : (Jvm.Cond.instanceMethod ({ cls := "HoleWater$Looks", name := "wasSeenAhead", desc := "(II)Z" } : Jvm.MethodName)) ∈ mh_T := mh_T_in (List.mem_append_right _ (List.mem_of_getElem? (i := 1010) (by decide +kernel))) (by decide +kernel)
set_option maxRecDepth 100000 in
theorem wd_1011 : (Jvm.Cond.code ({ cls := "HoleWater$Looks", name := "wasSeenAhead", desc := "(II)Z" } : Jvm.MethodName) prog_3_method_18_code (4 : Nat) (Option.some Jvm.ClassFile.FieldType.boolean)) ∈ mh_T := mh_T_in (List.mem_append_right _ (List.mem_of_getElem? (i := 1011) (by decide +kernel))) (by decide +kernel)
set_option maxRecDepth 100000 in
theorem wd_1012 : (Jvm.Cond.methodLink "HoleWaterLaw" (159 : Nat) ({ cls := "HoleWater", name := "voice", desc := "(III)I" } : Jvm.MethodName)) ∈ mh_T := mh_T_in (List.mem_append_right _ (List.mem_of_getElem? (i := 1012) (by decide +kernel))) (by decide +kernel)
set_option maxRecDepth 100000 in
theorem wd_1013 : (Jvm.Cond.instanceMethod ({ cls := "HoleWater", name := "voice", desc := "(III)I" } : Jvm.MethodName)) ∈ mh_T := mh_T_in (List.mem_append_right _ (List.mem_of_getElem? (i := 1013) (by decide +kernel))) (by decide +kernel)
set_option maxRecDepth 100000 in
theorem wd_1014 : (Jvm.Cond.selects "HoleWater" ({ cls := "HoleWater", name := "voice", desc := "(III)I" } : Jvm.MethodName) ({ cls := "HoleWater", name := "voice", desc := "(III)I" } : Jvm.MethodName)) ∈ mh_T := mh_T_in (List.mem_append_right _ (List.mem_of_getElem? (i := 1014) (by decide +kernel))) (by decide +kernel)
set_option maxRecDepth 100000 in
theorem wd_1015 : (Jvm.Cond.code ({ cls := "HoleWater", name := "voice", desc := "(III)I" } : Jvm.MethodName) prog_1_method_36_code (6 : Nat) (Option.some Jvm.ClassFile.FieldType.int)) ∈ mh_T := mh_T_in (List.mem_append_right _ (List.mem_of_getElem? (i := 1015) (by decide +kernel))) (by decide +kernel)
set_option maxRecDepth 100000 in
theorem wd_1016 : (Jvm.Cond.methodLink "HoleWater" (332 : Nat) ({ cls := "HoleWater$Way", name := "runs", desc := "(ILHoleWater$Row;)I" } : Jvm.MethodName)) ∈ mh_T := mh_T_in (List.mem_append_right _ (List.mem_of_getElem? (i := 1016) (by decide +kernel))) (by decide +kernel)
set_option maxRecDepth 100000 in
theorem wd_1017 : (Jvm.Cond.instanceMethod ({ cls := "HoleWater$Way", name := "runs", desc := "(ILHoleWater$Row;)I" } : Jvm.MethodName)) ∈ mh_T := mh_T_in (List.mem_append_right _ (List.mem_of_getElem? (i := 1017) (by decide +kernel))) (by decide +kernel)
set_option maxRecDepth 100000 in
theorem wd_1018 : (Jvm.Cond.selects "HoleWater$Way" ({ cls := "HoleWater$Way", name := "runs", desc := "(ILHoleWater$Row;)I" } : Jvm.MethodName) ({ cls := "HoleWater$Way", name := "runs", desc := "(ILHoleWater$Row;)I" } : Jvm.MethodName)) ∈ mh_T := mh_T_in (List.mem_append_right _ (List.mem_of_getElem? (i := 1018) (by decide +kernel))) (by decide +kernel)
set_option maxRecDepth 100000 in
theorem wd_1019 : (Jvm.Cond.sameMethod "HoleWater$Way" "HoleWater$Way" "runs" "(ILHoleWater$Row;)I") ∈ mh_T := mh_T_in (List.mem_append_right _ (List.mem_of_getElem? (i := 1019) (by decide +kernel))) (by decide +kernel)
set_option maxRecDepth 100000 in
theorem wd_1020 : (Jvm.Cond.selects "HoleWater$Blind" ({ cls := "HoleWater$Way", name := "runs", desc := "(ILHoleWater$Row;)I" } : Jvm.MethodName) ({ cls := "HoleWater$Way", name := "runs", desc := "(ILHoleWater$Row;)I" } : Jvm.MethodName)) ∈ mh_T := mh_T_in (List.mem_append_right _ (List.mem_of_getElem? (i := 1020) (by decide +kernel))) (by decide +kernel)
set_option maxRecDepth 100000 in
theorem wd_1021 : (Jvm.Cond.selects "HoleWater$Open" ({ cls := "HoleWater$Way", name := "runs", desc := "(ILHoleWater$Row;)I" } : Jvm.MethodName) ({ cls := "HoleWater$Open", name := "runs", desc := "(ILHoleWater$Row;)I" } : Jvm.MethodName)) ∈ mh_T := mh_T_in (List.mem_append_right _ (List.mem_of_getElem? (i := 1021) (by decide +kernel))) (by decide +kernel)
set_option maxRecDepth 100000 in
theorem wd_1022 : (Jvm.Cond.instanceMethod ({ cls := "HoleWater$Open", name := "runs", desc := "(ILHoleWater$Row;)I" } : Jvm.MethodName)) ∈ mh_T := mh_T_in (List.mem_append_right _ (List.mem_of_getElem? (i := 1022) (by decide +kernel))) (by decide +kernel)
set_option maxRecDepth 100000 in
theorem wd_1023 : (Jvm.Cond.code ({ cls := "HoleWater$Open", name := "runs", desc := "(ILHoleWater$Row;)I" } : Jvm.MethodName) prog_4_method_4_code (3 : Nat) (Option.some Jvm.ClassFile.FieldType.int)) ∈ mh_T := mh_T_in (List.mem_append_right _ (List.mem_of_getElem? (i := 1023) (by decide +kernel))) (by decide +kernel)
set_option maxRecDepth 100000 in
theorem wd_1024 : (Jvm.Cond.methodLink "HoleWater$Open" (11 : Nat) ({ cls := "HoleWater$Row", name := "add", desc := "(I)Z" } : Jvm.MethodName)) ∈ mh_T := mh_T_in (List.mem_append_right _ (List.mem_of_getElem? (i := 1024) (by decide +kernel))) (by decide +kernel)
set_option maxRecDepth 100000 in
theorem wd_1025 : (Jvm.Cond.methodLink "HoleWater$Open" (17 : Nat) ({ cls := "HoleWater$Way", name := "runs", desc := "(ILHoleWater$Row;)I" } : Jvm.MethodName)) ∈ mh_T := mh_T_in (List.mem_append_right _ (List.mem_of_getElem? (i := 1025) (by decide +kernel))) (by decide +kernel)
set_option maxRecDepth 100000 in
theorem wd_1026 : (Jvm.Cond.selects "HoleWater$Overflow" ({ cls := "HoleWater$Way", name := "runs", desc := "(ILHoleWater$Row;)I" } : Jvm.MethodName) ({ cls := "HoleWater$Overflow", name := "runs", desc := "(ILHoleWater$Row;)I" } : Jvm.MethodName)) ∈ mh_T := mh_T_in (List.mem_append_right _ (List.mem_of_getElem? (i := 1026) (by decide +kernel))) (by decide +kernel)
set_option maxRecDepth 100000 in
theorem wd_1027 : (Jvm.Cond.instanceMethod ({ cls := "HoleWater$Overflow", name := "runs", desc := "(ILHoleWater$Row;)I" } : Jvm.MethodName)) ∈ mh_T := mh_T_in (List.mem_append_right _ (List.mem_of_getElem? (i := 1027) (by decide +kernel))) (by decide +kernel)
set_option maxRecDepth 100000 in
theorem wd_1028 : (Jvm.Cond.code ({ cls := "HoleWater$Overflow", name := "runs", desc := "(ILHoleWater$Row;)I" } : Jvm.MethodName) prog_5_method_3_code (3 : Nat) (Option.some Jvm.ClassFile.FieldType.int)) ∈ mh_T := mh_T_in (List.mem_append_right _ (List.mem_of_getElem? (i := 1028) (by decide +kernel))) (by decide +kernel)
set_option maxRecDepth 100000 in
theorem wd_1029 : (Jvm.Cond.methodLink "HoleWater$Overflow" (7 : Nat) ({ cls := "HoleWater$Row", name := "add", desc := "(I)Z" } : Jvm.MethodName)) ∈ mh_T := mh_T_in (List.mem_append_right _ (List.mem_of_getElem? (i := 1029) (by decide +kernel))) (by decide +kernel)
set_option maxRecDepth 100000 in
theorem wd_1030 : (Jvm.Cond.methodLink "HoleWater$Overflow" (19 : Nat) ({ cls := "HoleWater$Open", name := "runs", desc := "(ILHoleWater$Row;)I" } : Jvm.MethodName)) ∈ mh_T := mh_T_in (List.mem_append_right _ (List.mem_of_getElem? (i := 1030) (by decide +kernel))) (by decide +kernel)
set_option maxRecDepth 100000 in
theorem wd_1031 : (Jvm.Cond.selects "HoleWater$Pool" ({ cls := "HoleWater$Way", name := "runs", desc := "(ILHoleWater$Row;)I" } : Jvm.MethodName) ({ cls := "HoleWater$Way", name := "runs", desc := "(ILHoleWater$Row;)I" } : Jvm.MethodName)) ∈ mh_T := mh_T_in (List.mem_append_right _ (List.mem_of_getElem? (i := 1031) (by decide +kernel))) (by decide +kernel)
set_option maxRecDepth 100000 in
theorem wd_1032 : (Jvm.Cond.selects "HoleWater$Sieve" ({ cls := "HoleWater$Way", name := "runs", desc := "(ILHoleWater$Row;)I" } : Jvm.MethodName) ({ cls := "HoleWater$Way", name := "runs", desc := "(ILHoleWater$Row;)I" } : Jvm.MethodName)) ∈ mh_T := mh_T_in (List.mem_append_right _ (List.mem_of_getElem? (i := 1032) (by decide +kernel))) (by decide +kernel)
set_option maxRecDepth 100000 in
theorem wd_1033 : (Jvm.Cond.code ({ cls := "HoleWater$Way", name := "runs", desc := "(ILHoleWater$Row;)I" } : Jvm.MethodName) prog_11_method_5_code (3 : Nat) (Option.some Jvm.ClassFile.FieldType.int)) ∈ mh_T := mh_T_in (List.mem_append_right _ (List.mem_of_getElem? (i := 1033) (by decide +kernel))) (by decide +kernel)
set_option maxRecDepth 100000 in
theorem wd_1034 : (Jvm.Cond.methodLink "HoleWater$Way" (22 : Nat) ({ cls := "HoleWater$Row", name := "add", desc := "(I)Z" } : Jvm.MethodName)) ∈ mh_T := mh_T_in (List.mem_append_right _ (List.mem_of_getElem? (i := 1034) (by decide +kernel))) (by decide +kernel)
set_option maxRecDepth 100000 in
theorem wd_1035 : (Jvm.Cond.methodLink "HoleWater" (336 : Nat) ({ cls := "HoleWater$Way", name := "holds", desc := "(ILHoleWater$Row;)I" } : Jvm.MethodName)) ∈ mh_T := mh_T_in (List.mem_append_right _ (List.mem_of_getElem? (i := 1035) (by decide +kernel))) (by decide +kernel)
set_option maxRecDepth 100000 in
theorem wd_1036 : (Jvm.Cond.instanceMethod ({ cls := "HoleWater$Way", name := "holds", desc := "(ILHoleWater$Row;)I" } : Jvm.MethodName)) ∈ mh_T := mh_T_in (List.mem_append_right _ (List.mem_of_getElem? (i := 1036) (by decide +kernel))) (by decide +kernel)
set_option maxRecDepth 100000 in
theorem wd_1037 : (Jvm.Cond.selects "HoleWater$Way" ({ cls := "HoleWater$Way", name := "holds", desc := "(ILHoleWater$Row;)I" } : Jvm.MethodName) ({ cls := "HoleWater$Way", name := "holds", desc := "(ILHoleWater$Row;)I" } : Jvm.MethodName)) ∈ mh_T := mh_T_in (List.mem_append_right _ (List.mem_of_getElem? (i := 1037) (by decide +kernel))) (by decide +kernel)
set_option maxRecDepth 100000 in
theorem wd_1038 : (Jvm.Cond.sameMethod "HoleWater$Way" "HoleWater$Way" "holds" "(ILHoleWater$Row;)I") ∈ mh_T := mh_T_in (List.mem_append_right _ (List.mem_of_getElem? (i := 1038) (by decide +kernel))) (by decide +kernel)
set_option maxRecDepth 100000 in
theorem wd_1039 : (Jvm.Cond.selects "HoleWater$Blind" ({ cls := "HoleWater$Way", name := "holds", desc := "(ILHoleWater$Row;)I" } : Jvm.MethodName) ({ cls := "HoleWater$Sieve", name := "holds", desc := "(ILHoleWater$Row;)I" } : Jvm.MethodName)) ∈ mh_T := mh_T_in (List.mem_append_right _ (List.mem_of_getElem? (i := 1039) (by decide +kernel))) (by decide +kernel)
set_option maxRecDepth 100000 in
theorem wd_1040 : (Jvm.Cond.instanceMethod ({ cls := "HoleWater$Sieve", name := "holds", desc := "(ILHoleWater$Row;)I" } : Jvm.MethodName)) ∈ mh_T := mh_T_in (List.mem_append_right _ (List.mem_of_getElem? (i := 1040) (by decide +kernel))) (by decide +kernel)
set_option maxRecDepth 100000 in
theorem wd_1041 : (Jvm.Cond.code ({ cls := "HoleWater$Sieve", name := "holds", desc := "(ILHoleWater$Row;)I" } : Jvm.MethodName) prog_9_method_5_code (3 : Nat) (Option.some Jvm.ClassFile.FieldType.int)) ∈ mh_T := mh_T_in (List.mem_append_right _ (List.mem_of_getElem? (i := 1041) (by decide +kernel))) (by decide +kernel)
set_option maxRecDepth 100000 in
theorem wd_1042 : (Jvm.Cond.methodLink "HoleWater$Sieve" (23 : Nat) ({ cls := "HoleWater$Row", name := "add", desc := "(I)Z" } : Jvm.MethodName)) ∈ mh_T := mh_T_in (List.mem_append_right _ (List.mem_of_getElem? (i := 1042) (by decide +kernel))) (by decide +kernel)
set_option maxRecDepth 100000 in
theorem wd_1043 : (Jvm.Cond.methodLink "HoleWater$Sieve" (29 : Nat) ({ cls := "HoleWater$Way", name := "holds", desc := "(ILHoleWater$Row;)I" } : Jvm.MethodName)) ∈ mh_T := mh_T_in (List.mem_append_right _ (List.mem_of_getElem? (i := 1043) (by decide +kernel))) (by decide +kernel)
set_option maxRecDepth 100000 in
theorem wd_1044 : (Jvm.Cond.selects "HoleWater$Open" ({ cls := "HoleWater$Way", name := "holds", desc := "(ILHoleWater$Row;)I" } : Jvm.MethodName) ({ cls := "HoleWater$Way", name := "holds", desc := "(ILHoleWater$Row;)I" } : Jvm.MethodName)) ∈ mh_T := mh_T_in (List.mem_append_right _ (List.mem_of_getElem? (i := 1044) (by decide +kernel))) (by decide +kernel)
set_option maxRecDepth 100000 in
theorem wd_1045 : (Jvm.Cond.selects "HoleWater$Overflow" ({ cls := "HoleWater$Way", name := "holds", desc := "(ILHoleWater$Row;)I" } : Jvm.MethodName) ({ cls := "HoleWater$Way", name := "holds", desc := "(ILHoleWater$Row;)I" } : Jvm.MethodName)) ∈ mh_T := mh_T_in (List.mem_append_right _ (List.mem_of_getElem? (i := 1045) (by decide +kernel))) (by decide +kernel)
set_option maxRecDepth 100000 in
theorem wd_1046 : (Jvm.Cond.selects "HoleWater$Pool" ({ cls := "HoleWater$Way", name := "holds", desc := "(ILHoleWater$Row;)I" } : Jvm.MethodName) ({ cls := "HoleWater$Pool", name := "holds", desc := "(ILHoleWater$Row;)I" } : Jvm.MethodName)) ∈ mh_T := mh_T_in (List.mem_append_right _ (List.mem_of_getElem? (i := 1046) (by decide +kernel))) (by decide +kernel)
set_option maxRecDepth 100000 in
theorem wd_1047 : (Jvm.Cond.instanceMethod ({ cls := "HoleWater$Pool", name := "holds", desc := "(ILHoleWater$Row;)I" } : Jvm.MethodName)) ∈ mh_T := mh_T_in (List.mem_append_right _ (List.mem_of_getElem? (i := 1047) (by decide +kernel))) (by decide +kernel)
set_option maxRecDepth 100000 in
theorem wd_1048 : (Jvm.Cond.code ({ cls := "HoleWater$Pool", name := "holds", desc := "(ILHoleWater$Row;)I" } : Jvm.MethodName) prog_6_method_4_code (3 : Nat) (Option.some Jvm.ClassFile.FieldType.int)) ∈ mh_T := mh_T_in (List.mem_append_right _ (List.mem_of_getElem? (i := 1048) (by decide +kernel))) (by decide +kernel)
set_option maxRecDepth 100000 in
theorem wd_1049 : (Jvm.Cond.methodLink "HoleWater$Pool" (19 : Nat) ({ cls := "HoleWater$Row", name := "add", desc := "(I)Z" } : Jvm.MethodName)) ∈ mh_T := mh_T_in (List.mem_append_right _ (List.mem_of_getElem? (i := 1049) (by decide +kernel))) (by decide +kernel)
set_option maxRecDepth 100000 in
theorem wd_1050 : (Jvm.Cond.methodLink "HoleWater$Pool" (25 : Nat) ({ cls := "HoleWater$Way", name := "holds", desc := "(ILHoleWater$Row;)I" } : Jvm.MethodName)) ∈ mh_T := mh_T_in (List.mem_append_right _ (List.mem_of_getElem? (i := 1050) (by decide +kernel))) (by decide +kernel)
set_option maxRecDepth 100000 in
theorem wd_1051 : (Jvm.Cond.selects "HoleWater$Sieve" ({ cls := "HoleWater$Way", name := "holds", desc := "(ILHoleWater$Row;)I" } : Jvm.MethodName) ({ cls := "HoleWater$Sieve", name := "holds", desc := "(ILHoleWater$Row;)I" } : Jvm.MethodName)) ∈ mh_T := mh_T_in (List.mem_append_right _ (List.mem_of_getElem? (i := 1051) (by decide +kernel))) (by decide +kernel)
set_option maxRecDepth 100000 in
theorem wd_1052 : (Jvm.Cond.code ({ cls := "HoleWater$Way", name := "holds", desc := "(ILHoleWater$Row;)I" } : Jvm.MethodName) prog_11_method_6_code (3 : Nat) (Option.some Jvm.ClassFile.FieldType.int)) ∈ mh_T := mh_T_in (List.mem_append_right _ (List.mem_of_getElem? (i := 1052) (by decide +kernel))) (by decide +kernel)
set_option maxRecDepth 100000 in
theorem wd_1053 : (Jvm.Cond.methodLink "HoleWater$Way" (28 : Nat) ({ cls := "HoleWater$Way", name := "runs", desc := "(ILHoleWater$Row;)I" } : Jvm.MethodName)) ∈ mh_T := mh_T_in (List.mem_append_right _ (List.mem_of_getElem? (i := 1053) (by decide +kernel))) (by decide +kernel)
set_option maxRecDepth 100000 in
theorem wd_1054 : (Jvm.Cond.methodLink "HoleWater" (339 : Nat) ({ cls := "HoleWater$Way", name := "spills", desc := "(ILHoleWater$Row;)I" } : Jvm.MethodName)) ∈ mh_T := mh_T_in (List.mem_append_right _ (List.mem_of_getElem? (i := 1054) (by decide +kernel))) (by decide +kernel)
set_option maxRecDepth 100000 in
theorem wd_1055 : (Jvm.Cond.instanceMethod ({ cls := "HoleWater$Way", name := "spills", desc := "(ILHoleWater$Row;)I" } : Jvm.MethodName)) ∈ mh_T := mh_T_in (List.mem_append_right _ (List.mem_of_getElem? (i := 1055) (by decide +kernel))) (by decide +kernel)
set_option maxRecDepth 100000 in
theorem wd_1056 : (Jvm.Cond.selects "HoleWater$Way" ({ cls := "HoleWater$Way", name := "spills", desc := "(ILHoleWater$Row;)I" } : Jvm.MethodName) ({ cls := "HoleWater$Way", name := "spills", desc := "(ILHoleWater$Row;)I" } : Jvm.MethodName)) ∈ mh_T := mh_T_in (List.mem_append_right _ (List.mem_of_getElem? (i := 1056) (by decide +kernel))) (by decide +kernel)
set_option maxRecDepth 100000 in
theorem wd_1057 : (Jvm.Cond.sameMethod "HoleWater$Way" "HoleWater$Way" "spills" "(ILHoleWater$Row;)I") ∈ mh_T := mh_T_in (List.mem_append_right _ (List.mem_of_getElem? (i := 1057) (by decide +kernel))) (by decide +kernel)
set_option maxRecDepth 100000 in
theorem wd_1058 : (Jvm.Cond.selects "HoleWater$Blind" ({ cls := "HoleWater$Way", name := "spills", desc := "(ILHoleWater$Row;)I" } : Jvm.MethodName) ({ cls := "HoleWater$Way", name := "spills", desc := "(ILHoleWater$Row;)I" } : Jvm.MethodName)) ∈ mh_T := mh_T_in (List.mem_append_right _ (List.mem_of_getElem? (i := 1058) (by decide +kernel))) (by decide +kernel)
set_option maxRecDepth 100000 in
theorem wd_1059 : (Jvm.Cond.selects "HoleWater$Open" ({ cls := "HoleWater$Way", name := "spills", desc := "(ILHoleWater$Row;)I" } : Jvm.MethodName) ({ cls := "HoleWater$Way", name := "spills", desc := "(ILHoleWater$Row;)I" } : Jvm.MethodName)) ∈ mh_T := mh_T_in (List.mem_append_right _ (List.mem_of_getElem? (i := 1059) (by decide +kernel))) (by decide +kernel)
set_option maxRecDepth 100000 in
theorem wd_1060 : (Jvm.Cond.selects "HoleWater$Overflow" ({ cls := "HoleWater$Way", name := "spills", desc := "(ILHoleWater$Row;)I" } : Jvm.MethodName) ({ cls := "HoleWater$Overflow", name := "spills", desc := "(ILHoleWater$Row;)I" } : Jvm.MethodName)) ∈ mh_T := mh_T_in (List.mem_append_right _ (List.mem_of_getElem? (i := 1060) (by decide +kernel))) (by decide +kernel)
set_option maxRecDepth 100000 in
theorem wd_1061 : (Jvm.Cond.instanceMethod ({ cls := "HoleWater$Overflow", name := "spills", desc := "(ILHoleWater$Row;)I" } : Jvm.MethodName)) ∈ mh_T := mh_T_in (List.mem_append_right _ (List.mem_of_getElem? (i := 1061) (by decide +kernel))) (by decide +kernel)
set_option maxRecDepth 100000 in
theorem wd_1062 : (Jvm.Cond.code ({ cls := "HoleWater$Overflow", name := "spills", desc := "(ILHoleWater$Row;)I" } : Jvm.MethodName) prog_5_method_4_code (3 : Nat) (Option.some Jvm.ClassFile.FieldType.int)) ∈ mh_T := mh_T_in (List.mem_append_right _ (List.mem_of_getElem? (i := 1062) (by decide +kernel))) (by decide +kernel)
set_option maxRecDepth 100000 in
theorem wd_1063 : (Jvm.Cond.methodLink "HoleWater$Overflow" (23 : Nat) ({ cls := "HoleWater$Open", name := "spills", desc := "(ILHoleWater$Row;)I" } : Jvm.MethodName)) ∈ mh_T := mh_T_in (List.mem_append_right _ (List.mem_of_getElem? (i := 1063) (by decide +kernel))) (by decide +kernel)
set_option maxRecDepth 100000 in
theorem wd_1064 : (Jvm.Cond.sameMethod "HoleWater$Open" "HoleWater$Way" "spills" "(ILHoleWater$Row;)I") ∈ mh_T := mh_T_in (List.mem_append_right _ (List.mem_of_getElem? (i := 1064) (by decide +kernel))) (by decide +kernel)
set_option maxRecDepth 100000 in
theorem wd_1066 : (Jvm.Cond.selects "HoleWater$Pool" ({ cls := "HoleWater$Way", name := "spills", desc := "(ILHoleWater$Row;)I" } : Jvm.MethodName) ({ cls := "HoleWater$Pool", name := "spills", desc := "(ILHoleWater$Row;)I" } : Jvm.MethodName)) ∈ mh_T := mh_T_in (List.mem_append_right _ (List.mem_of_getElem? (i := 1066) (by decide +kernel))) (by decide +kernel)
set_option maxRecDepth 100000 in
theorem wd_1067 : (Jvm.Cond.instanceMethod ({ cls := "HoleWater$Pool", name := "spills", desc := "(ILHoleWater$Row;)I" } : Jvm.MethodName)) ∈ mh_T := mh_T_in (List.mem_append_right _ (List.mem_of_getElem? (i := 1067) (by decide +kernel))) (by decide +kernel)
set_option maxRecDepth 100000 in
theorem wd_1068 : (Jvm.Cond.code ({ cls := "HoleWater$Pool", name := "spills", desc := "(ILHoleWater$Row;)I" } : Jvm.MethodName) prog_6_method_5_code (3 : Nat) (Option.some Jvm.ClassFile.FieldType.int)) ∈ mh_T := mh_T_in (List.mem_append_right _ (List.mem_of_getElem? (i := 1068) (by decide +kernel))) (by decide +kernel)
set_option maxRecDepth 100000 in
theorem wd_1069 : (Jvm.Cond.methodLink "HoleWater$Pool" (29 : Nat) ({ cls := "HoleWater$Way", name := "spills", desc := "(ILHoleWater$Row;)I" } : Jvm.MethodName)) ∈ mh_T := mh_T_in (List.mem_append_right _ (List.mem_of_getElem? (i := 1069) (by decide +kernel))) (by decide +kernel)
set_option maxRecDepth 100000 in
theorem wd_1070 : (Jvm.Cond.selects "HoleWater$Sieve" ({ cls := "HoleWater$Way", name := "spills", desc := "(ILHoleWater$Row;)I" } : Jvm.MethodName) ({ cls := "HoleWater$Way", name := "spills", desc := "(ILHoleWater$Row;)I" } : Jvm.MethodName)) ∈ mh_T := mh_T_in (List.mem_append_right _ (List.mem_of_getElem? (i := 1070) (by decide +kernel))) (by decide +kernel)
set_option maxRecDepth 100000 in
theorem wd_1071 : (Jvm.Cond.code ({ cls := "HoleWater$Way", name := "spills", desc := "(ILHoleWater$Row;)I" } : Jvm.MethodName) prog_11_method_7_code (3 : Nat) (Option.some Jvm.ClassFile.FieldType.int)) ∈ mh_T := mh_T_in (List.mem_append_right _ (List.mem_of_getElem? (i := 1071) (by decide +kernel))) (by decide +kernel)
set_option maxRecDepth 100000 in
theorem wd_1072 : (Jvm.Cond.methodLink "HoleWater$Way" (32 : Nat) ({ cls := "HoleWater$Way", name := "holds", desc := "(ILHoleWater$Row;)I" } : Jvm.MethodName)) ∈ mh_T := mh_T_in (List.mem_append_right _ (List.mem_of_getElem? (i := 1072) (by decide +kernel))) (by decide +kernel)
set_option maxRecDepth 100000 in
theorem wd_1073 : (Jvm.Cond.methodLink "HoleWater" (342 : Nat) ({ cls := "HoleWater$Way", name := "tells", desc := "(ILHoleWater$Row;)I" } : Jvm.MethodName)) ∈ mh_T := mh_T_in (List.mem_append_right _ (List.mem_of_getElem? (i := 1073) (by decide +kernel))) (by decide +kernel)
set_option maxRecDepth 100000 in
theorem wd_1074 : (Jvm.Cond.instanceMethod ({ cls := "HoleWater$Way", name := "tells", desc := "(ILHoleWater$Row;)I" } : Jvm.MethodName)) ∈ mh_T := mh_T_in (List.mem_append_right _ (List.mem_of_getElem? (i := 1074) (by decide +kernel))) (by decide +kernel)
set_option maxRecDepth 100000 in
theorem wd_1075 : (Jvm.Cond.selects "HoleWater$Way" ({ cls := "HoleWater$Way", name := "tells", desc := "(ILHoleWater$Row;)I" } : Jvm.MethodName) ({ cls := "HoleWater$Way", name := "tells", desc := "(ILHoleWater$Row;)I" } : Jvm.MethodName)) ∈ mh_T := mh_T_in (List.mem_append_right _ (List.mem_of_getElem? (i := 1075) (by decide +kernel))) (by decide +kernel)
set_option maxRecDepth 100000 in
theorem wd_1076 : (Jvm.Cond.sameMethod "HoleWater$Way" "HoleWater$Way" "tells" "(ILHoleWater$Row;)I") ∈ mh_T := mh_T_in (List.mem_append_right _ (List.mem_of_getElem? (i := 1076) (by decide +kernel))) (by decide +kernel)
set_option maxRecDepth 100000 in
theorem wd_1077 : (Jvm.Cond.selects "HoleWater$Blind" ({ cls := "HoleWater$Way", name := "tells", desc := "(ILHoleWater$Row;)I" } : Jvm.MethodName) ({ cls := "HoleWater$Blind", name := "tells", desc := "(ILHoleWater$Row;)I" } : Jvm.MethodName)) ∈ mh_T := mh_T_in (List.mem_append_right _ (List.mem_of_getElem? (i := 1077) (by decide +kernel))) (by decide +kernel)
set_option maxRecDepth 100000 in
theorem wd_1078 : (Jvm.Cond.instanceMethod ({ cls := "HoleWater$Blind", name := "tells", desc := "(ILHoleWater$Row;)I" } : Jvm.MethodName)) ∈ mh_T := mh_T_in (List.mem_append_right _ (List.mem_of_getElem? (i := 1078) (by decide +kernel))) (by decide +kernel)
set_option maxRecDepth 100000 in
theorem wd_1079 : (Jvm.Cond.code ({ cls := "HoleWater$Blind", name := "tells", desc := "(ILHoleWater$Row;)I" } : Jvm.MethodName) prog_2_method_3_code (4 : Nat) (Option.some Jvm.ClassFile.FieldType.int)) ∈ mh_T := mh_T_in (List.mem_append_right _ (List.mem_of_getElem? (i := 1079) (by decide +kernel))) (by decide +kernel)
set_option maxRecDepth 100000 in
theorem wd_1080 : (Jvm.Cond.methodLink "HoleWater$Blind" (7 : Nat) ({ cls := "HoleWater$Row", name := "add", desc := "(I)Z" } : Jvm.MethodName)) ∈ mh_T := mh_T_in (List.mem_append_right _ (List.mem_of_getElem? (i := 1080) (by decide +kernel))) (by decide +kernel)
set_option maxRecDepth 100000 in
theorem wd_1081 : (Jvm.Cond.methodLink "HoleWater$Blind" (13 : Nat) ({ cls := "HoleWater$Blind", name := "runs", desc := "(ILHoleWater$Row;)I" } : Jvm.MethodName)) ∈ mh_T := mh_T_in (List.mem_append_right _ (List.mem_of_getElem? (i := 1081) (by decide +kernel))) (by decide +kernel)
set_option maxRecDepth 100000 in
theorem wd_1082 : (Jvm.Cond.sameMethod "HoleWater$Blind" "HoleWater$Way" "runs" "(ILHoleWater$Row;)I") ∈ mh_T := mh_T_in (List.mem_append_right _ (List.mem_of_getElem? (i := 1082) (by decide +kernel))) (by decide +kernel)
set_option maxRecDepth 100000 in
theorem wd_1084 : (Jvm.Cond.selects "HoleWater$Blind" ({ cls := "HoleWater$Blind", name := "runs", desc := "(ILHoleWater$Row;)I" } : Jvm.MethodName) ({ cls := "HoleWater$Way", name := "runs", desc := "(ILHoleWater$Row;)I" } : Jvm.MethodName)) ∈ mh_T := mh_T_in (List.mem_append_right _ (List.mem_of_getElem? (i := 1084) (by decide +kernel))) (by decide +kernel)
set_option maxRecDepth 100000 in
theorem wd_1085 : (Jvm.Cond.methodLink "HoleWater$Blind" (19 : Nat) ({ cls := "HoleWater$Sieve", name := "tells", desc := "(ILHoleWater$Row;)I" } : Jvm.MethodName)) ∈ mh_T := mh_T_in (List.mem_append_right _ (List.mem_of_getElem? (i := 1085) (by decide +kernel))) (by decide +kernel)
set_option maxRecDepth 100000 in
theorem wd_1086 : (Jvm.Cond.sameMethod "HoleWater$Sieve" "HoleWater$Way" "tells" "(ILHoleWater$Row;)I") ∈ mh_T := mh_T_in (List.mem_append_right _ (List.mem_of_getElem? (i := 1086) (by decide +kernel))) (by decide +kernel)
set_option maxRecDepth 100000 in
theorem wd_1088 : (Jvm.Cond.selects "HoleWater$Open" ({ cls := "HoleWater$Way", name := "tells", desc := "(ILHoleWater$Row;)I" } : Jvm.MethodName) ({ cls := "HoleWater$Open", name := "tells", desc := "(ILHoleWater$Row;)I" } : Jvm.MethodName)) ∈ mh_T := mh_T_in (List.mem_append_right _ (List.mem_of_getElem? (i := 1088) (by decide +kernel))) (by decide +kernel)
set_option maxRecDepth 100000 in
theorem wd_1089 : (Jvm.Cond.instanceMethod ({ cls := "HoleWater$Open", name := "tells", desc := "(ILHoleWater$Row;)I" } : Jvm.MethodName)) ∈ mh_T := mh_T_in (List.mem_append_right _ (List.mem_of_getElem? (i := 1089) (by decide +kernel))) (by decide +kernel)
set_option maxRecDepth 100000 in
theorem wd_1090 : (Jvm.Cond.code ({ cls := "HoleWater$Open", name := "tells", desc := "(ILHoleWater$Row;)I" } : Jvm.MethodName) prog_4_method_5_code (4 : Nat) (Option.some Jvm.ClassFile.FieldType.int)) ∈ mh_T := mh_T_in (List.mem_append_right _ (List.mem_of_getElem? (i := 1090) (by decide +kernel))) (by decide +kernel)
set_option maxRecDepth 100000 in
theorem wd_1091 : (Jvm.Cond.methodLink "HoleWater$Open" (21 : Nat) ({ cls := "HoleWater$Way", name := "tells", desc := "(ILHoleWater$Row;)I" } : Jvm.MethodName)) ∈ mh_T := mh_T_in (List.mem_append_right _ (List.mem_of_getElem? (i := 1091) (by decide +kernel))) (by decide +kernel)
set_option maxRecDepth 100000 in
theorem wd_1092 : (Jvm.Cond.methodLink "HoleWater$Open" (24 : Nat) ({ cls := "HoleWater$Open", name := "isParted", desc := "()Z" } : Jvm.MethodName)) ∈ mh_T := mh_T_in (List.mem_append_right _ (List.mem_of_getElem? (i := 1092) (by decide +kernel))) (by decide +kernel)
set_option maxRecDepth 100000 in
theorem wd_1093 : (Jvm.Cond.sameMethod "HoleWater$Open" "HoleWater$Way" "isParted" "()Z") ∈ mh_T := mh_T_in (List.mem_append_right _ (List.mem_of_getElem? (i := 1093) (by decide +kernel))) (by decide +kernel)
set_option maxRecDepth 100000 in
theorem wd_1095 : (Jvm.Cond.selects "HoleWater$Open" ({ cls := "HoleWater$Open", name := "isParted", desc := "()Z" } : Jvm.MethodName) ({ cls := "HoleWater$Way", name := "isParted", desc := "()Z" } : Jvm.MethodName)) ∈ mh_T := mh_T_in (List.mem_append_right _ (List.mem_of_getElem? (i := 1095) (by decide +kernel))) (by decide +kernel)
set_option maxRecDepth 100000 in
theorem wd_1096 : (Jvm.Cond.selects "HoleWater$Overflow" ({ cls := "HoleWater$Open", name := "isParted", desc := "()Z" } : Jvm.MethodName) ({ cls := "HoleWater$Way", name := "isParted", desc := "()Z" } : Jvm.MethodName)) ∈ mh_T := mh_T_in (List.mem_append_right _ (List.mem_of_getElem? (i := 1096) (by decide +kernel))) (by decide +kernel)
set_option maxRecDepth 100000 in
theorem wd_1097 : (Jvm.Cond.instanceMethod ({ cls := "HoleWater$Way", name := "isParted", desc := "()Z" } : Jvm.MethodName)) ∈ mh_T := mh_T_in (List.mem_append_right _ (List.mem_of_getElem? (i := 1097) (by decide +kernel))) (by decide +kernel)
set_option maxRecDepth 100000 in
theorem wd_1098 : (Jvm.Cond.code ({ cls := "HoleWater$Way", name := "isParted", desc := "()Z" } : Jvm.MethodName) prog_11_method_9_code (1 : Nat) (Option.some Jvm.ClassFile.FieldType.boolean)) ∈ mh_T := mh_T_in (List.mem_append_right _ (List.mem_of_getElem? (i := 1098) (by decide +kernel))) (by decide +kernel)
set_option maxRecDepth 100000 in
theorem wd_1099 : (Jvm.Cond.methodLink "HoleWater$Open" (30 : Nat) ({ cls := "HoleWater$Open", name := "runs", desc := "(ILHoleWater$Row;)I" } : Jvm.MethodName)) ∈ mh_T := mh_T_in (List.mem_append_right _ (List.mem_of_getElem? (i := 1099) (by decide +kernel))) (by decide +kernel)
set_option maxRecDepth 100000 in
theorem wd_1100 : (Jvm.Cond.selects "HoleWater$Overflow" ({ cls := "HoleWater$Way", name := "tells", desc := "(ILHoleWater$Row;)I" } : Jvm.MethodName) ({ cls := "HoleWater$Open", name := "tells", desc := "(ILHoleWater$Row;)I" } : Jvm.MethodName)) ∈ mh_T := mh_T_in (List.mem_append_right _ (List.mem_of_getElem? (i := 1100) (by decide +kernel))) (by decide +kernel)
set_option maxRecDepth 100000 in
theorem wd_1101 : (Jvm.Cond.selects "HoleWater$Pool" ({ cls := "HoleWater$Way", name := "tells", desc := "(ILHoleWater$Row;)I" } : Jvm.MethodName) ({ cls := "HoleWater$Way", name := "tells", desc := "(ILHoleWater$Row;)I" } : Jvm.MethodName)) ∈ mh_T := mh_T_in (List.mem_append_right _ (List.mem_of_getElem? (i := 1101) (by decide +kernel))) (by decide +kernel)
set_option maxRecDepth 100000 in
theorem wd_1102 : (Jvm.Cond.selects "HoleWater$Sieve" ({ cls := "HoleWater$Way", name := "tells", desc := "(ILHoleWater$Row;)I" } : Jvm.MethodName) ({ cls := "HoleWater$Way", name := "tells", desc := "(ILHoleWater$Row;)I" } : Jvm.MethodName)) ∈ mh_T := mh_T_in (List.mem_append_right _ (List.mem_of_getElem? (i := 1102) (by decide +kernel))) (by decide +kernel)
set_option maxRecDepth 100000 in
theorem wd_1103 : (Jvm.Cond.code ({ cls := "HoleWater$Way", name := "tells", desc := "(ILHoleWater$Row;)I" } : Jvm.MethodName) prog_11_method_8_code (3 : Nat) (Option.some Jvm.ClassFile.FieldType.int)) ∈ mh_T := mh_T_in (List.mem_append_right _ (List.mem_of_getElem? (i := 1103) (by decide +kernel))) (by decide +kernel)
set_option maxRecDepth 100000 in
theorem wd_1105 : (Jvm.Cond.methodLink "HoleWater" (345 : Nat) ({ cls := "HoleWater$Way", name := "isParted", desc := "()Z" } : Jvm.MethodName)) ∈ mh_T := mh_T_in (List.mem_append_right _ (List.mem_of_getElem? (i := 1105) (by decide +kernel))) (by decide +kernel)
set_option maxRecDepth 100000 in
theorem wd_1106 : (Jvm.Cond.methodLink "HoleWaterLaw" (163 : Nat) ({ cls := "HoleWater", name := "trace", desc := "(I)I" } : Jvm.MethodName)) ∈ mh_T := mh_T_in (List.mem_append_right _ (List.mem_of_getElem? (i := 1106) (by decide +kernel))) (by decide +kernel)
set_option maxRecDepth 100000 in
theorem wd_1107 : (Jvm.Cond.instanceMethod ({ cls := "HoleWater", name := "trace", desc := "(I)I" } : Jvm.MethodName)) ∈ mh_T := mh_T_in (List.mem_append_right _ (List.mem_of_getElem? (i := 1107) (by decide +kernel))) (by decide +kernel)
set_option maxRecDepth 100000 in
theorem wd_1108 : (Jvm.Cond.selects "HoleWater" ({ cls := "HoleWater", name := "trace", desc := "(I)I" } : Jvm.MethodName) ({ cls := "HoleWater", name := "trace", desc := "(I)I" } : Jvm.MethodName)) ∈ mh_T := mh_T_in (List.mem_append_right _ (List.mem_of_getElem? (i := 1108) (by decide +kernel))) (by decide +kernel)
set_option maxRecDepth 100000 in
theorem wd_1109 : (Jvm.Cond.code ({ cls := "HoleWater", name := "trace", desc := "(I)I" } : Jvm.MethodName) prog_1_method_37_code (2 : Nat) (Option.some Jvm.ClassFile.FieldType.int)) ∈ mh_T := mh_T_in (List.mem_append_right _ (List.mem_of_getElem? (i := 1109) (by decide +kernel))) (by decide +kernel)
set_option maxRecDepth 100000 in
theorem wd_1110 : (Jvm.Cond.methodLink "HoleWater" (349 : Nat) ({ cls := "HoleWater$Row", name := "get", desc := "(I)I" } : Jvm.MethodName)) ∈ mh_T := mh_T_in (List.mem_append_right _ (List.mem_of_getElem? (i := 1110) (by decide +kernel))) (by decide +kernel)
set_option maxRecDepth 100000 in
theorem wd_1111 : (Jvm.Cond.methodLink "HoleWaterLaw" (167 : Nat) ({ cls := "HoleWater", name := "sheet", desc := "(III)I" } : Jvm.MethodName)) ∈ mh_T := mh_T_in (List.mem_append_right _ (List.mem_of_getElem? (i := 1111) (by decide +kernel))) (by decide +kernel)
set_option maxRecDepth 100000 in
theorem wd_1112 : (Jvm.Cond.instanceMethod ({ cls := "HoleWater", name := "sheet", desc := "(III)I" } : Jvm.MethodName)) ∈ mh_T := mh_T_in (List.mem_append_right _ (List.mem_of_getElem? (i := 1112) (by decide +kernel))) (by decide +kernel)
set_option maxRecDepth 100000 in
theorem wd_1113 : (Jvm.Cond.selects "HoleWater" ({ cls := "HoleWater", name := "sheet", desc := "(III)I" } : Jvm.MethodName) ({ cls := "HoleWater", name := "sheet", desc := "(III)I" } : Jvm.MethodName)) ∈ mh_T := mh_T_in (List.mem_append_right _ (List.mem_of_getElem? (i := 1113) (by decide +kernel))) (by decide +kernel)
set_option maxRecDepth 100000 in
theorem wd_1114 : (Jvm.Cond.code ({ cls := "HoleWater", name := "sheet", desc := "(III)I" } : Jvm.MethodName) prog_1_method_38_code (5 : Nat) (Option.some Jvm.ClassFile.FieldType.int)) ∈ mh_T := mh_T_in (List.mem_append_right _ (List.mem_of_getElem? (i := 1114) (by decide +kernel))) (by decide +kernel)
set_option maxRecDepth 100000 in
theorem wd_1115 : (Jvm.Cond.methodLink "HoleWaterLaw" (171 : Nat) ({ cls := "HoleWater", name := "place", desc := "(III)I" } : Jvm.MethodName)) ∈ mh_T := mh_T_in (List.mem_append_right _ (List.mem_of_getElem? (i := 1115) (by decide +kernel))) (by decide +kernel)
set_option maxRecDepth 100000 in
theorem wd_1116 : (Jvm.Cond.instanceMethod ({ cls := "HoleWater", name := "place", desc := "(III)I" } : Jvm.MethodName)) ∈ mh_T := mh_T_in (List.mem_append_right _ (List.mem_of_getElem? (i := 1116) (by decide +kernel))) (by decide +kernel)
set_option maxRecDepth 100000 in
theorem wd_1117 : (Jvm.Cond.selects "HoleWater" ({ cls := "HoleWater", name := "place", desc := "(III)I" } : Jvm.MethodName) ({ cls := "HoleWater", name := "place", desc := "(III)I" } : Jvm.MethodName)) ∈ mh_T := mh_T_in (List.mem_append_right _ (List.mem_of_getElem? (i := 1117) (by decide +kernel))) (by decide +kernel)
set_option maxRecDepth 100000 in
theorem wd_1118 : (Jvm.Cond.code ({ cls := "HoleWater", name := "place", desc := "(III)I" } : Jvm.MethodName) prog_1_method_39_code (4 : Nat) (Option.some Jvm.ClassFile.FieldType.int)) ∈ mh_T := mh_T_in (List.mem_append_right _ (List.mem_of_getElem? (i := 1118) (by decide +kernel))) (by decide +kernel)
set_option maxRecDepth 100000 in
theorem wd_1119 : (Jvm.Cond.methodLink "HoleWater" (352 : Nat) ({ cls := "HoleWater", name := "lowest", desc := "(II)I" } : Jvm.MethodName)) ∈ mh_T := mh_T_in (List.mem_append_right _ (List.mem_of_getElem? (i := 1119) (by decide +kernel))) (by decide +kernel)
set_option maxRecDepth 100000 in
theorem wd_1120 : (Jvm.Cond.static ({ cls := "HoleWater", name := "lowest", desc := "(II)I" } : Jvm.MethodName)) ∈ mh_T := mh_T_in (List.mem_append_right _ (List.mem_of_getElem? (i := 1120) (by decide +kernel))) (by decide +kernel)
set_option maxRecDepth 100000 in
theorem wd_1121 : (Jvm.Cond.code ({ cls := "HoleWater", name := "lowest", desc := "(II)I" } : Jvm.MethodName) prog_1_method_54_code (2 : Nat) (Option.some Jvm.ClassFile.FieldType.int)) ∈ mh_T := mh_T_in (List.mem_append_right _ (List.mem_of_getElem? (i := 1121) (by decide +kernel))) (by decide +kernel)
set_option maxRecDepth 100000 in
theorem wd_1122 : (Jvm.Cond.methodLink "HoleWaterLaw" (175 : Nat) ({ cls := "HoleWater", name := "move", desc := "(IIIII)I" } : Jvm.MethodName)) ∈ mh_T := mh_T_in (List.mem_append_right _ (List.mem_of_getElem? (i := 1122) (by decide +kernel))) (by decide +kernel)
set_option maxRecDepth 100000 in
theorem wd_1123 : (Jvm.Cond.instanceMethod ({ cls := "HoleWater", name := "move", desc := "(IIIII)I" } : Jvm.MethodName)) ∈ mh_T := mh_T_in (List.mem_append_right _ (List.mem_of_getElem? (i := 1123) (by decide +kernel))) (by decide +kernel)
set_option maxRecDepth 100000 in
theorem wd_1124 : (Jvm.Cond.selects "HoleWater" ({ cls := "HoleWater", name := "move", desc := "(IIIII)I" } : Jvm.MethodName) ({ cls := "HoleWater", name := "move", desc := "(IIIII)I" } : Jvm.MethodName)) ∈ mh_T := mh_T_in (List.mem_append_right _ (List.mem_of_getElem? (i := 1124) (by decide +kernel))) (by decide +kernel)
set_option maxRecDepth 100000 in
theorem wd_1125 : (Jvm.Cond.code ({ cls := "HoleWater", name := "move", desc := "(IIIII)I" } : Jvm.MethodName) prog_1_method_40_code (6 : Nat) (Option.some Jvm.ClassFile.FieldType.int)) ∈ mh_T := mh_T_in (List.mem_append_right _ (List.mem_of_getElem? (i := 1125) (by decide +kernel))) (by decide +kernel)
set_option maxRecDepth 100000 in
theorem wd_1126 : (Jvm.Cond.methodLink "HoleWater" (355 : Nat) ({ cls := "java/lang/System", name := "arraycopy", desc := "(Ljava/lang/Object;ILjava/lang/Object;II)V" } : Jvm.MethodName)) ∈ mh_T := mh_T_in (List.mem_append_right _ (List.mem_of_getElem? (i := 1126) (by decide +kernel))) (by decide +kernel)
set_option maxRecDepth 100000 in
theorem wd_1127 : (Jvm.Cond.methodLink "HoleWaterLaw" (179 : Nat) ({ cls := "HoleWater", name := "image", desc := "()I" } : Jvm.MethodName)) ∈ mh_T := mh_T_in (List.mem_append_right _ (List.mem_of_getElem? (i := 1127) (by decide +kernel))) (by decide +kernel)
set_option maxRecDepth 100000 in
theorem wd_1128 : (Jvm.Cond.instanceMethod ({ cls := "HoleWater", name := "image", desc := "()I" } : Jvm.MethodName)) ∈ mh_T := mh_T_in (List.mem_append_right _ (List.mem_of_getElem? (i := 1128) (by decide +kernel))) (by decide +kernel)
set_option maxRecDepth 100000 in
theorem wd_1129 : (Jvm.Cond.selects "HoleWater" ({ cls := "HoleWater", name := "image", desc := "()I" } : Jvm.MethodName) ({ cls := "HoleWater", name := "image", desc := "()I" } : Jvm.MethodName)) ∈ mh_T := mh_T_in (List.mem_append_right _ (List.mem_of_getElem? (i := 1129) (by decide +kernel))) (by decide +kernel)
set_option maxRecDepth 100000 in
theorem wd_1130 : (Jvm.Cond.code ({ cls := "HoleWater", name := "image", desc := "()I" } : Jvm.MethodName) prog_1_method_41_code (1 : Nat) (Option.some Jvm.ClassFile.FieldType.int)) ∈ mh_T := mh_T_in (List.mem_append_right _ (List.mem_of_getElem? (i := 1130) (by decide +kernel))) (by decide +kernel)
set_option maxRecDepth 100000 in
theorem wd_1131 : (Jvm.Cond.methodLink "HoleWater" (361 : Nat) ({ cls := "HoleWater$World", name := "copyOf", desc := "(LHoleWater$World;)V" } : Jvm.MethodName)) ∈ mh_T := mh_T_in (List.mem_append_right _ (List.mem_of_getElem? (i := 1131) (by decide +kernel))) (by decide +kernel)
set_option maxRecDepth 100000 in
theorem wd_1132 : (Jvm.Cond.instanceMethod ({ cls := "HoleWater$World", name := "copyOf", desc := "(LHoleWater$World;)V" } : Jvm.MethodName)) ∈ mh_T := mh_T_in (List.mem_append_right _ (List.mem_of_getElem? (i := 1132) (by decide +kernel))) (by decide +kernel)
set_option maxRecDepth 100000 in
theorem wd_1133 : (Jvm.Cond.selects "HoleWater$World" ({ cls := "HoleWater$World", name := "copyOf", desc := "(LHoleWater$World;)V" } : Jvm.MethodName) ({ cls := "HoleWater$World", name := "copyOf", desc := "(LHoleWater$World;)V" } : Jvm.MethodName)) ∈ mh_T := mh_T_in (List.mem_append_right _ (List.mem_of_getElem? (i := 1133) (by decide +kernel))) (by decide +kernel)
set_option maxRecDepth 100000 in
theorem wd_1134 : (Jvm.Cond.code ({ cls := "HoleWater$World", name := "copyOf", desc := "(LHoleWater$World;)V" } : Jvm.MethodName) prog_12_method_2_code (3 : Nat) (Option.none : Option Jvm.ClassFile.FieldType)) ∈ mh_T := mh_T_in (List.mem_append_right _ (List.mem_of_getElem? (i := 1134) (by decide +kernel))) (by decide +kernel)
set_option maxRecDepth 100000 in
theorem wd_1135 : (Jvm.Cond.methodLink "HoleWater$World" (72 : Nat) ({ cls := "java/lang/System", name := "arraycopy", desc := "(Ljava/lang/Object;ILjava/lang/Object;II)V" } : Jvm.MethodName)) ∈ mh_T := mh_T_in (List.mem_append_right _ (List.mem_of_getElem? (i := 1135) (by decide +kernel))) (by decide +kernel)
set_option maxRecDepth 100000 in
theorem wd_1136 : (Jvm.Cond.methodLink "HoleWater$World" (78 : Nat) ({ cls := "HoleWater$Water", name := "copyOf", desc := "(LHoleWater$Water;)V" } : Jvm.MethodName)) ∈ mh_T := mh_T_in (List.mem_append_right _ (List.mem_of_getElem? (i := 1136) (by decide +kernel))) (by decide +kernel)
set_option maxRecDepth 100000 in
theorem wd_1137 : (Jvm.Cond.methodLink "HoleWater$World" (82 : Nat) ({ cls := "HoleWater$Looks", name := "copyOf", desc := "(LHoleWater$Looks;)V" } : Jvm.MethodName)) ∈ mh_T := mh_T_in (List.mem_append_right _ (List.mem_of_getElem? (i := 1137) (by decide +kernel))) (by decide +kernel)
set_option maxRecDepth 100000 in
theorem wd_1138 : (Jvm.Cond.instanceMethod ({ cls := "HoleWater$Looks", name := "copyOf", desc := "(LHoleWater$Looks;)V" } : Jvm.MethodName)) ∈ mh_T := mh_T_in (List.mem_append_right _ (List.mem_of_getElem? (i := 1138) (by decide +kernel))) (by decide +kernel)
set_option maxRecDepth 100000 in
theorem wd_1139 : (Jvm.Cond.selects "HoleWater$Looks" ({ cls := "HoleWater$Looks", name := "copyOf", desc := "(LHoleWater$Looks;)V" } : Jvm.MethodName) ({ cls := "HoleWater$Looks", name := "copyOf", desc := "(LHoleWater$Looks;)V" } : Jvm.MethodName)) ∈ mh_T := mh_T_in (List.mem_append_right _ (List.mem_of_getElem? (i := 1139) (by decide +kernel))) (by decide +kernel)
set_option maxRecDepth 100000 in
theorem wd_1140 : (Jvm.Cond.code ({ cls := "HoleWater$Looks", name := "copyOf", desc := "(LHoleWater$Looks;)V" } : Jvm.MethodName) prog_3_method_2_code (2 : Nat) (Option.none : Option Jvm.ClassFile.FieldType)) ∈ mh_T := mh_T_in (List.mem_append_right _ (List.mem_of_getElem? (i := 1140) (by decide +kernel))) (by decide +kernel)
set_option maxRecDepth 100000 in
theorem wd_1141 : (Jvm.Cond.methodLink "HoleWater$Looks" (37 : Nat) ({ cls := "java/lang/System", name := "arraycopy", desc := "(Ljava/lang/Object;ILjava/lang/Object;II)V" } : Jvm.MethodName)) ∈ mh_T := mh_T_in (List.mem_append_right _ (List.mem_of_getElem? (i := 1141) (by decide +kernel))) (by decide +kernel)
set_option maxRecDepth 100000 in
theorem wd_1142 : (Jvm.Cond.methodLink "HoleWater$World" (85 : Nat) ({ cls := "HoleWater$Row", name := "copyOf", desc := "(LHoleWater$Row;)V" } : Jvm.MethodName)) ∈ mh_T := mh_T_in (List.mem_append_right _ (List.mem_of_getElem? (i := 1142) (by decide +kernel))) (by decide +kernel)
set_option maxRecDepth 100000 in
theorem wd_1143 : (Jvm.Cond.methodLink "HoleWaterLaw" (184 : Nat) ({ cls := "HoleWater", name := "restore", desc := "()I" } : Jvm.MethodName)) ∈ mh_T := mh_T_in (List.mem_append_right _ (List.mem_of_getElem? (i := 1143) (by decide +kernel))) (by decide +kernel)
set_option maxRecDepth 100000 in
theorem wd_1144 : (Jvm.Cond.instanceMethod ({ cls := "HoleWater", name := "restore", desc := "()I" } : Jvm.MethodName)) ∈ mh_T := mh_T_in (List.mem_append_right _ (List.mem_of_getElem? (i := 1144) (by decide +kernel))) (by decide +kernel)
set_option maxRecDepth 100000 in
theorem wd_1145 : (Jvm.Cond.selects "HoleWater" ({ cls := "HoleWater", name := "restore", desc := "()I" } : Jvm.MethodName) ({ cls := "HoleWater", name := "restore", desc := "()I" } : Jvm.MethodName)) ∈ mh_T := mh_T_in (List.mem_append_right _ (List.mem_of_getElem? (i := 1145) (by decide +kernel))) (by decide +kernel)
set_option maxRecDepth 100000 in
theorem wd_1146 : (Jvm.Cond.code ({ cls := "HoleWater", name := "restore", desc := "()I" } : Jvm.MethodName) prog_1_method_42_code (1 : Nat) (Option.some Jvm.ClassFile.FieldType.int)) ∈ mh_T := mh_T_in (List.mem_append_right _ (List.mem_of_getElem? (i := 1146) (by decide +kernel))) (by decide +kernel)
set_option maxRecDepth 100000 in
theorem wd_1147 : (Jvm.Cond.methodLink "HoleWaterLaw" (188 : Nat) ({ cls := "HoleWater", name := "tell", desc := "(I)I" } : Jvm.MethodName)) ∈ mh_T := mh_T_in (List.mem_append_right _ (List.mem_of_getElem? (i := 1147) (by decide +kernel))) (by decide +kernel)
set_option maxRecDepth 100000 in
theorem wd_1148 : (Jvm.Cond.instanceMethod ({ cls := "HoleWater", name := "tell", desc := "(I)I" } : Jvm.MethodName)) ∈ mh_T := mh_T_in (List.mem_append_right _ (List.mem_of_getElem? (i := 1148) (by decide +kernel))) (by decide +kernel)
set_option maxRecDepth 100000 in
theorem wd_1149 : (Jvm.Cond.selects "HoleWater" ({ cls := "HoleWater", name := "tell", desc := "(I)I" } : Jvm.MethodName) ({ cls := "HoleWater", name := "tell", desc := "(I)I" } : Jvm.MethodName)) ∈ mh_T := mh_T_in (List.mem_append_right _ (List.mem_of_getElem? (i := 1149) (by decide +kernel))) (by decide +kernel)
set_option maxRecDepth 100000 in
theorem wd_1150 : (Jvm.Cond.code ({ cls := "HoleWater", name := "tell", desc := "(I)I" } : Jvm.MethodName) prog_1_method_43_code (2 : Nat) (Option.some Jvm.ClassFile.FieldType.int)) ∈ mh_T := mh_T_in (List.mem_append_right _ (List.mem_of_getElem? (i := 1150) (by decide +kernel))) (by decide +kernel)
set_option maxRecDepth 100000 in
theorem wd_1151 : (Jvm.Cond.methodLink "HoleWaterLaw" (192 : Nat) ({ cls := "HoleWater", name := "check", desc := "(I)I" } : Jvm.MethodName)) ∈ mh_T := mh_T_in (List.mem_append_right _ (List.mem_of_getElem? (i := 1151) (by decide +kernel))) (by decide +kernel)
set_option maxRecDepth 100000 in
theorem wd_1152 : (Jvm.Cond.instanceMethod ({ cls := "HoleWater", name := "check", desc := "(I)I" } : Jvm.MethodName)) ∈ mh_T := mh_T_in (List.mem_append_right _ (List.mem_of_getElem? (i := 1152) (by decide +kernel))) (by decide +kernel)
set_option maxRecDepth 100000 in
theorem wd_1153 : (Jvm.Cond.selects "HoleWater" ({ cls := "HoleWater", name := "check", desc := "(I)I" } : Jvm.MethodName) ({ cls := "HoleWater", name := "check", desc := "(I)I" } : Jvm.MethodName)) ∈ mh_T := mh_T_in (List.mem_append_right _ (List.mem_of_getElem? (i := 1153) (by decide +kernel))) (by decide +kernel)
set_option maxRecDepth 100000 in
theorem wd_1154 : (Jvm.Cond.code ({ cls := "HoleWater", name := "check", desc := "(I)I" } : Jvm.MethodName) prog_1_method_44_code (4 : Nat) (Option.some Jvm.ClassFile.FieldType.int)) ∈ mh_T := mh_T_in (List.mem_append_right _ (List.mem_of_getElem? (i := 1154) (by decide +kernel))) (by decide +kernel)
set_option maxRecDepth 100000 in
theorem wd_1155 : (Jvm.Cond.methodLink "HoleWater" (367 : Nat) ({ cls := "HoleWater$Water", name := "copyOf", desc := "(LHoleWater$Water;)V" } : Jvm.MethodName)) ∈ mh_T := mh_T_in (List.mem_append_right _ (List.mem_of_getElem? (i := 1155) (by decide +kernel))) (by decide +kernel)
set_option maxRecDepth 100000 in
theorem wd_1156 : (Jvm.Cond.methodLink "HoleWaterLaw" (196 : Nat) ({ cls := "HoleWater", name := "count", desc := "(I)I" } : Jvm.MethodName)) ∈ mh_T := mh_T_in (List.mem_append_right _ (List.mem_of_getElem? (i := 1156) (by decide +kernel))) (by decide +kernel)
set_option maxRecDepth 100000 in
theorem wd_1157 : (Jvm.Cond.instanceMethod ({ cls := "HoleWater", name := "count", desc := "(I)I" } : Jvm.MethodName)) ∈ mh_T := mh_T_in (List.mem_append_right _ (List.mem_of_getElem? (i := 1157) (by decide +kernel))) (by decide +kernel)
set_option maxRecDepth 100000 in
theorem wd_1158 : (Jvm.Cond.selects "HoleWater" ({ cls := "HoleWater", name := "count", desc := "(I)I" } : Jvm.MethodName) ({ cls := "HoleWater", name := "count", desc := "(I)I" } : Jvm.MethodName)) ∈ mh_T := mh_T_in (List.mem_append_right _ (List.mem_of_getElem? (i := 1158) (by decide +kernel))) (by decide +kernel)
set_option maxRecDepth 100000 in
theorem wd_1159 : (Jvm.Cond.code ({ cls := "HoleWater", name := "count", desc := "(I)I" } : Jvm.MethodName) prog_1_method_45_code (2 : Nat) (Option.some Jvm.ClassFile.FieldType.int)) ∈ mh_T := mh_T_in (List.mem_append_right _ (List.mem_of_getElem? (i := 1159) (by decide +kernel))) (by decide +kernel)
set_option maxRecDepth 100000 in
theorem wd_1160 : (Jvm.Cond.methodLink "HoleWater" (370 : Nat) ({ cls := "HoleWater$Looks", name := "howManySaw", desc := "()I" } : Jvm.MethodName)) ∈ mh_T := mh_T_in (List.mem_append_right _ (List.mem_of_getElem? (i := 1160) (by decide +kernel))) (by decide +kernel)
set_option maxRecDepth 100000 in
theorem wd_1161 : (Jvm.Cond.instanceMethod ({ cls := "HoleWater$Looks", name := "howManySaw", desc := "()I" } : Jvm.MethodName)) ∈ mh_T := mh_T_in (List.mem_append_right _ (List.mem_of_getElem? (i := 1161) (by decide +kernel))) (by decide +kernel)
set_option maxRecDepth 100000 in
theorem wd_1162 : (Jvm.Cond.selects "HoleWater$Looks" ({ cls := "HoleWater$Looks", name := "howManySaw", desc := "()I" } : Jvm.MethodName) ({ cls := "HoleWater$Looks", name := "howManySaw", desc := "()I" } : Jvm.MethodName)) ∈ mh_T := mh_T_in (List.mem_append_right _ (List.mem_of_getElem? (i := 1162) (by decide +kernel))) (by decide +kernel)
