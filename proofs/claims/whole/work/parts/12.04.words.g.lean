set_option maxRecDepth 100000 in
theorem wd_842 : (Jvm.Cond.code ({ cls := "HoleWater", name := "bottle", desc := "(II)I" } : Jvm.MethodName) prog_1_method_24_code (5 : Nat) (Option.some Jvm.ClassFile.FieldType.int)) ∈ mh_T := mh_T_in (List.mem_append_right _ (List.mem_of_getElem? (i := 842) (by decide +kernel))) (by decide +kernel)
set_option maxRecDepth 100000 in
theorem wd_843 : (Jvm.Cond.methodLink "HoleWater" (268 : Nat) ({ cls := "HoleWater", name := "lookError", desc := "(II)I" } : Jvm.MethodName)) ∈ mh_T := mh_T_in (List.mem_append_right _ (List.mem_of_getElem? (i := 843) (by decide +kernel))) (by decide +kernel)
set_option maxRecDepth 100000 in
theorem wd_845 : (Jvm.Cond.instanceMethod ({ cls := "HoleWater", name := "lookError", desc := "(II)I" } : Jvm.MethodName)) ∈ mh_T := mh_T_in (List.mem_append_right _ (List.mem_of_getElem? (i := 845) (by decide +kernel))) (by decide +kernel)
set_option maxRecDepth 100000 in
theorem wd_846 : (Jvm.Cond.code ({ cls := "HoleWater", name := "lookError", desc := "(II)I" } : Jvm.MethodName) prog_1_method_59_code (3 : Nat) (Option.some Jvm.ClassFile.FieldType.int)) ∈ mh_T := mh_T_in (List.mem_append_right _ (List.mem_of_getElem? (i := 846) (by decide +kernel))) (by decide +kernel)
set_option maxRecDepth 100000 in
theorem wd_847 : (Jvm.Cond.methodLink "HoleWater" (271 : Nat) ({ cls := "HoleWater", name := "lookSees", desc := "(IIII)Z" } : Jvm.MethodName)) ∈ mh_T := mh_T_in (List.mem_append_right _ (List.mem_of_getElem? (i := 847) (by decide +kernel))) (by decide +kernel)
set_option maxRecDepth 100000 in
theorem wd_849 : (Jvm.Cond.instanceMethod ({ cls := "HoleWater", name := "lookSees", desc := "(IIII)Z" } : Jvm.MethodName)) ∈ mh_T := mh_T_in (List.mem_append_right _ (List.mem_of_getElem? (i := 849) (by decide +kernel))) (by decide +kernel)
set_option maxRecDepth 100000 in
theorem wd_850 : (Jvm.Cond.code ({ cls := "HoleWater", name := "lookSees", desc := "(IIII)Z" } : Jvm.MethodName) prog_1_method_61_code (6 : Nat) (Option.some Jvm.ClassFile.FieldType.boolean)) ∈ mh_T := mh_T_in (List.mem_append_right _ (List.mem_of_getElem? (i := 850) (by decide +kernel))) (by decide +kernel)
set_option maxRecDepth 100000 in
theorem wd_851 : (Jvm.Cond.methodLink "HoleWater" (398 : Nat) ({ cls := "HoleWater$Looks", name := "addLook", desc := "(IIIIZLHoleWater$Water;)V" } : Jvm.MethodName)) ∈ mh_T := mh_T_in (List.mem_append_right _ (List.mem_of_getElem? (i := 851) (by decide +kernel))) (by decide +kernel)
set_option maxRecDepth 100000 in
theorem wd_852 : (Jvm.Cond.instanceMethod ({ cls := "HoleWater$Looks", name := "addLook", desc := "(IIIIZLHoleWater$Water;)V" } : Jvm.MethodName)) ∈ mh_T := mh_T_in (List.mem_append_right _ (List.mem_of_getElem? (i := 852) (by decide +kernel))) (by decide +kernel)
set_option maxRecDepth 100000 in
theorem wd_853 : (Jvm.Cond.selects "HoleWater$Looks" ({ cls := "HoleWater$Looks", name := "addLook", desc := "(IIIIZLHoleWater$Water;)V" } : Jvm.MethodName) ({ cls := "HoleWater$Looks", name := "addLook", desc := "(IIIIZLHoleWater$Water;)V" } : Jvm.MethodName)) ∈ mh_T := mh_T_in (List.mem_append_right _ (List.mem_of_getElem? (i := 853) (by decide +kernel))) (by decide +kernel)
set_option maxRecDepth 100000 in
theorem wd_854 : (Jvm.Cond.code ({ cls := "HoleWater$Looks", name := "addLook", desc := "(IIIIZLHoleWater$Water;)V" } : Jvm.MethodName) prog_3_method_6_code (8 : Nat) (Option.none : Option Jvm.ClassFile.FieldType)) ∈ mh_T := mh_T_in (List.mem_append_right _ (List.mem_of_getElem? (i := 854) (by decide +kernel))) (by decide +kernel)
set_option maxRecDepth 100000 in
theorem wd_855 : (Jvm.Cond.methodLink "HoleWater$Looks" (52 : Nat) ({ cls := "HoleWater$Looks", name := "holesOf", desc := "(I)I" } : Jvm.MethodName)) ∈ mh_T := mh_T_in (List.mem_append_right _ (List.mem_of_getElem? (i := 855) (by decide +kernel))) (by decide +kernel)
set_option maxRecDepth 100000 in
theorem wd_857 : (Jvm.Cond.instanceMethod ({ cls := "HoleWater$Looks", name := "holesOf", desc := "(I)I" } : Jvm.MethodName)) ∈ mh_T := mh_T_in (List.mem_append_right _ (List.mem_of_getElem? (i := 857) (by decide +kernel))) (by decide +kernel)
set_option maxRecDepth 100000 in
theorem wd_858 : (Jvm.Cond.code ({ cls := "HoleWater$Looks", name := "holesOf", desc := "(I)I" } : Jvm.MethodName) prog_3_method_7_code (4 : Nat) (Option.some Jvm.ClassFile.FieldType.int)) ∈ mh_T := mh_T_in (List.mem_append_right _ (List.mem_of_getElem? (i := 858) (by decide +kernel))) (by decide +kernel)
set_option maxRecDepth 100000 in
theorem wd_859 : (Jvm.Cond.methodLink "HoleWater$Looks" (56 : Nat) ({ cls := "HoleWater$Looks", name := "putPart", desc := "(II)I" } : Jvm.MethodName)) ∈ mh_T := mh_T_in (List.mem_append_right _ (List.mem_of_getElem? (i := 859) (by decide +kernel))) (by decide +kernel)
set_option maxRecDepth 100000 in
theorem wd_860 : (Jvm.Cond.instanceMethod ({ cls := "HoleWater$Looks", name := "putPart", desc := "(II)I" } : Jvm.MethodName)) ∈ mh_T := mh_T_in (List.mem_append_right _ (List.mem_of_getElem? (i := 860) (by decide +kernel))) (by decide +kernel)
set_option maxRecDepth 100000 in
theorem wd_861 : (Jvm.Cond.selects "HoleWater$Looks" ({ cls := "HoleWater$Looks", name := "putPart", desc := "(II)I" } : Jvm.MethodName) ({ cls := "HoleWater$Looks", name := "putPart", desc := "(II)I" } : Jvm.MethodName)) ∈ mh_T := mh_T_in (List.mem_append_right _ (List.mem_of_getElem? (i := 861) (by decide +kernel))) (by decide +kernel)
set_option maxRecDepth 100000 in
theorem wd_862 : (Jvm.Cond.code ({ cls := "HoleWater$Looks", name := "putPart", desc := "(II)I" } : Jvm.MethodName) prog_3_method_3_code (3 : Nat) (Option.some Jvm.ClassFile.FieldType.int)) ∈ mh_T := mh_T_in (List.mem_append_right _ (List.mem_of_getElem? (i := 862) (by decide +kernel))) (by decide +kernel)
set_option maxRecDepth 100000 in
theorem wd_863 : (Jvm.Cond.methodLink "HoleWaterLaw" (115 : Nat) ({ cls := "HoleWater", name := "bag", desc := "(III)I" } : Jvm.MethodName)) ∈ mh_T := mh_T_in (List.mem_append_right _ (List.mem_of_getElem? (i := 863) (by decide +kernel))) (by decide +kernel)
set_option maxRecDepth 100000 in
theorem wd_864 : (Jvm.Cond.instanceMethod ({ cls := "HoleWater", name := "bag", desc := "(III)I" } : Jvm.MethodName)) ∈ mh_T := mh_T_in (List.mem_append_right _ (List.mem_of_getElem? (i := 864) (by decide +kernel))) (by decide +kernel)
set_option maxRecDepth 100000 in
theorem wd_865 : (Jvm.Cond.selects "HoleWater" ({ cls := "HoleWater", name := "bag", desc := "(III)I" } : Jvm.MethodName) ({ cls := "HoleWater", name := "bag", desc := "(III)I" } : Jvm.MethodName)) ∈ mh_T := mh_T_in (List.mem_append_right _ (List.mem_of_getElem? (i := 865) (by decide +kernel))) (by decide +kernel)
set_option maxRecDepth 100000 in
theorem wd_866 : (Jvm.Cond.code ({ cls := "HoleWater", name := "bag", desc := "(III)I" } : Jvm.MethodName) prog_1_method_25_code (7 : Nat) (Option.some Jvm.ClassFile.FieldType.int)) ∈ mh_T := mh_T_in (List.mem_append_right _ (List.mem_of_getElem? (i := 866) (by decide +kernel))) (by decide +kernel)
set_option maxRecDepth 100000 in
theorem wd_867 : (Jvm.Cond.methodLink "HoleWaterLaw" (119 : Nat) ({ cls := "HoleWater", name := "lookIs", desc := "(II)I" } : Jvm.MethodName)) ∈ mh_T := mh_T_in (List.mem_append_right _ (List.mem_of_getElem? (i := 867) (by decide +kernel))) (by decide +kernel)
set_option maxRecDepth 100000 in
theorem wd_868 : (Jvm.Cond.instanceMethod ({ cls := "HoleWater", name := "lookIs", desc := "(II)I" } : Jvm.MethodName)) ∈ mh_T := mh_T_in (List.mem_append_right _ (List.mem_of_getElem? (i := 868) (by decide +kernel))) (by decide +kernel)
set_option maxRecDepth 100000 in
theorem wd_869 : (Jvm.Cond.selects "HoleWater" ({ cls := "HoleWater", name := "lookIs", desc := "(II)I" } : Jvm.MethodName) ({ cls := "HoleWater", name := "lookIs", desc := "(II)I" } : Jvm.MethodName)) ∈ mh_T := mh_T_in (List.mem_append_right _ (List.mem_of_getElem? (i := 869) (by decide +kernel))) (by decide +kernel)
set_option maxRecDepth 100000 in
theorem wd_870 : (Jvm.Cond.code ({ cls := "HoleWater", name := "lookIs", desc := "(II)I" } : Jvm.MethodName) prog_1_method_26_code (3 : Nat) (Option.some Jvm.ClassFile.FieldType.int)) ∈ mh_T := mh_T_in (List.mem_append_right _ (List.mem_of_getElem? (i := 870) (by decide +kernel))) (by decide +kernel)
set_option maxRecDepth 100000 in
theorem wd_871 : (Jvm.Cond.methodLink "HoleWaterLaw" (123 : Nat) ({ cls := "HoleWater", name := "joined", desc := "(III)I" } : Jvm.MethodName)) ∈ mh_T := mh_T_in (List.mem_append_right _ (List.mem_of_getElem? (i := 871) (by decide +kernel))) (by decide +kernel)
set_option maxRecDepth 100000 in
theorem wd_872 : (Jvm.Cond.instanceMethod ({ cls := "HoleWater", name := "joined", desc := "(III)I" } : Jvm.MethodName)) ∈ mh_T := mh_T_in (List.mem_append_right _ (List.mem_of_getElem? (i := 872) (by decide +kernel))) (by decide +kernel)
set_option maxRecDepth 100000 in
theorem wd_873 : (Jvm.Cond.selects "HoleWater" ({ cls := "HoleWater", name := "joined", desc := "(III)I" } : Jvm.MethodName) ({ cls := "HoleWater", name := "joined", desc := "(III)I" } : Jvm.MethodName)) ∈ mh_T := mh_T_in (List.mem_append_right _ (List.mem_of_getElem? (i := 873) (by decide +kernel))) (by decide +kernel)
set_option maxRecDepth 100000 in
theorem wd_874 : (Jvm.Cond.code ({ cls := "HoleWater", name := "joined", desc := "(III)I" } : Jvm.MethodName) prog_1_method_27_code (5 : Nat) (Option.some Jvm.ClassFile.FieldType.int)) ∈ mh_T := mh_T_in (List.mem_append_right _ (List.mem_of_getElem? (i := 874) (by decide +kernel))) (by decide +kernel)
set_option maxRecDepth 100000 in
theorem wd_875 : (Jvm.Cond.methodLink "HoleWater" (280 : Nat) ({ cls := "HoleWater", name := "pairError", desc := "(II)I" } : Jvm.MethodName)) ∈ mh_T := mh_T_in (List.mem_append_right _ (List.mem_of_getElem? (i := 875) (by decide +kernel))) (by decide +kernel)
set_option maxRecDepth 100000 in
theorem wd_877 : (Jvm.Cond.instanceMethod ({ cls := "HoleWater", name := "pairError", desc := "(II)I" } : Jvm.MethodName)) ∈ mh_T := mh_T_in (List.mem_append_right _ (List.mem_of_getElem? (i := 877) (by decide +kernel))) (by decide +kernel)
set_option maxRecDepth 100000 in
theorem wd_878 : (Jvm.Cond.code ({ cls := "HoleWater", name := "pairError", desc := "(II)I" } : Jvm.MethodName) prog_1_method_60_code (3 : Nat) (Option.some Jvm.ClassFile.FieldType.int)) ∈ mh_T := mh_T_in (List.mem_append_right _ (List.mem_of_getElem? (i := 878) (by decide +kernel))) (by decide +kernel)
set_option maxRecDepth 100000 in
theorem wd_879 : (Jvm.Cond.methodLink "HoleWater" (283 : Nat) ({ cls := "HoleWater$Looks", name := "said", desc := "(III)I" } : Jvm.MethodName)) ∈ mh_T := mh_T_in (List.mem_append_right _ (List.mem_of_getElem? (i := 879) (by decide +kernel))) (by decide +kernel)
set_option maxRecDepth 100000 in
theorem wd_880 : (Jvm.Cond.instanceMethod ({ cls := "HoleWater$Looks", name := "said", desc := "(III)I" } : Jvm.MethodName)) ∈ mh_T := mh_T_in (List.mem_append_right _ (List.mem_of_getElem? (i := 880) (by decide +kernel))) (by decide +kernel)
set_option maxRecDepth 100000 in
theorem wd_881 : (Jvm.Cond.selects "HoleWater$Looks" ({ cls := "HoleWater$Looks", name := "said", desc := "(III)I" } : Jvm.MethodName) ({ cls := "HoleWater$Looks", name := "said", desc := "(III)I" } : Jvm.MethodName)) ∈ mh_T := mh_T_in (List.mem_append_right _ (List.mem_of_getElem? (i := 881) (by decide +kernel))) (by decide +kernel)
set_option maxRecDepth 100000 in
theorem wd_882 : (Jvm.Cond.code ({ cls := "HoleWater$Looks", name := "said", desc := "(III)I" } : Jvm.MethodName) prog_3_method_11_code (8 : Nat) (Option.some Jvm.ClassFile.FieldType.int)) ∈ mh_T := mh_T_in (List.mem_append_right _ (List.mem_of_getElem? (i := 882) (by decide +kernel))) (by decide +kernel)
set_option maxRecDepth 100000 in
theorem wd_883 : (Jvm.Cond.methodLink "HoleWater$Looks" (60 : Nat) ({ cls := "HoleWater$Looks", name := "lookPart", desc := "(II)I" } : Jvm.MethodName)) ∈ mh_T := mh_T_in (List.mem_append_right _ (List.mem_of_getElem? (i := 883) (by decide +kernel))) (by decide +kernel)
set_option maxRecDepth 100000 in
theorem wd_884 : (Jvm.Cond.instanceMethod ({ cls := "HoleWater$Looks", name := "lookPart", desc := "(II)I" } : Jvm.MethodName)) ∈ mh_T := mh_T_in (List.mem_append_right _ (List.mem_of_getElem? (i := 884) (by decide +kernel))) (by decide +kernel)
set_option maxRecDepth 100000 in
theorem wd_885 : (Jvm.Cond.selects "HoleWater$Looks" ({ cls := "HoleWater$Looks", name := "lookPart", desc := "(II)I" } : Jvm.MethodName) ({ cls := "HoleWater$Looks", name := "lookPart", desc := "(II)I" } : Jvm.MethodName)) ∈ mh_T := mh_T_in (List.mem_append_right _ (List.mem_of_getElem? (i := 885) (by decide +kernel))) (by decide +kernel)
set_option maxRecDepth 100000 in
theorem wd_886 : (Jvm.Cond.code ({ cls := "HoleWater$Looks", name := "lookPart", desc := "(II)I" } : Jvm.MethodName) prog_3_method_4_code (3 : Nat) (Option.some Jvm.ClassFile.FieldType.int)) ∈ mh_T := mh_T_in (List.mem_append_right _ (List.mem_of_getElem? (i := 886) (by decide +kernel))) (by decide +kernel)
set_option maxRecDepth 100000 in
theorem wd_887 : (Jvm.Cond.methodLink "HoleWater$Looks" (66 : Nat) ({ cls := "HoleWater$Looks", name := "isAbout", desc := "(III)Z" } : Jvm.MethodName)) ∈ mh_T := mh_T_in (List.mem_append_right _ (List.mem_of_getElem? (i := 887) (by decide +kernel))) (by decide +kernel)
set_option maxRecDepth 100000 in
theorem wd_889 : (Jvm.Cond.instanceMethod ({ cls := "HoleWater$Looks", name := "isAbout", desc := "(III)Z" } : Jvm.MethodName)) ∈ mh_T := mh_T_in (List.mem_append_right _ (List.mem_of_getElem? (i := 889) (by decide +kernel))) (by decide +kernel)
set_option maxRecDepth 100000 in
theorem wd_890 : (Jvm.Cond.code ({ cls := "HoleWater$Looks", name := "isAbout", desc := "(III)Z" } : Jvm.MethodName) prog_3_method_9_code (4 : Nat) (Option.some Jvm.ClassFile.FieldType.boolean)) ∈ mh_T := mh_T_in (List.mem_append_right _ (List.mem_of_getElem? (i := 890) (by decide +kernel))) (by decide +kernel)
set_option maxRecDepth 100000 in
theorem wd_892 : (Jvm.Cond.methodLink "HoleWater$Looks" (70 : Nat) ({ cls := "HoleWater$Looks", name := "saw", desc := "(I)Z" } : Jvm.MethodName)) ∈ mh_T := mh_T_in (List.mem_append_right _ (List.mem_of_getElem? (i := 892) (by decide +kernel))) (by decide +kernel)
set_option maxRecDepth 100000 in
theorem wd_894 : (Jvm.Cond.instanceMethod ({ cls := "HoleWater$Looks", name := "saw", desc := "(I)Z" } : Jvm.MethodName)) ∈ mh_T := mh_T_in (List.mem_append_right _ (List.mem_of_getElem? (i := 894) (by decide +kernel))) (by decide +kernel)
set_option maxRecDepth 100000 in
theorem wd_895 : (Jvm.Cond.code ({ cls := "HoleWater$Looks", name := "saw", desc := "(I)Z" } : Jvm.MethodName) prog_3_method_8_code (2 : Nat) (Option.some Jvm.ClassFile.FieldType.boolean)) ∈ mh_T := mh_T_in (List.mem_append_right _ (List.mem_of_getElem? (i := 895) (by decide +kernel))) (by decide +kernel)
set_option maxRecDepth 100000 in
theorem wd_896 : (Jvm.Cond.methodLink "HoleWater$Looks" (74 : Nat) ({ cls := "java/lang/Math", name := "max", desc := "(II)I" } : Jvm.MethodName)) ∈ mh_T := mh_T_in (List.mem_append_right _ (List.mem_of_getElem? (i := 896) (by decide +kernel))) (by decide +kernel)
set_option maxRecDepth 100000 in
theorem wd_897 : (Jvm.Cond.methodLink "HoleWaterLaw" (127 : Nat) ({ cls := "HoleWater", name := "never", desc := "(II)I" } : Jvm.MethodName)) ∈ mh_T := mh_T_in (List.mem_append_right _ (List.mem_of_getElem? (i := 897) (by decide +kernel))) (by decide +kernel)
set_option maxRecDepth 100000 in
theorem wd_898 : (Jvm.Cond.instanceMethod ({ cls := "HoleWater", name := "never", desc := "(II)I" } : Jvm.MethodName)) ∈ mh_T := mh_T_in (List.mem_append_right _ (List.mem_of_getElem? (i := 898) (by decide +kernel))) (by decide +kernel)
set_option maxRecDepth 100000 in
theorem wd_899 : (Jvm.Cond.selects "HoleWater" ({ cls := "HoleWater", name := "never", desc := "(II)I" } : Jvm.MethodName) ({ cls := "HoleWater", name := "never", desc := "(II)I" } : Jvm.MethodName)) ∈ mh_T := mh_T_in (List.mem_append_right _ (List.mem_of_getElem? (i := 899) (by decide +kernel))) (by decide +kernel)
set_option maxRecDepth 100000 in
theorem wd_900 : (Jvm.Cond.code ({ cls := "HoleWater", name := "never", desc := "(II)I" } : Jvm.MethodName) prog_1_method_28_code (4 : Nat) (Option.some Jvm.ClassFile.FieldType.int)) ∈ mh_T := mh_T_in (List.mem_append_right _ (List.mem_of_getElem? (i := 900) (by decide +kernel))) (by decide +kernel)
set_option maxRecDepth 100000 in
theorem wd_901 : (Jvm.Cond.methodLink "HoleWater" (286 : Nat) ({ cls := "HoleWater$Looks", name := "inVain", desc := "(II)I" } : Jvm.MethodName)) ∈ mh_T := mh_T_in (List.mem_append_right _ (List.mem_of_getElem? (i := 901) (by decide +kernel))) (by decide +kernel)
set_option maxRecDepth 100000 in
theorem wd_902 : (Jvm.Cond.instanceMethod ({ cls := "HoleWater$Looks", name := "inVain", desc := "(II)I" } : Jvm.MethodName)) ∈ mh_T := mh_T_in (List.mem_append_right _ (List.mem_of_getElem? (i := 902) (by decide +kernel))) (by decide +kernel)
set_option maxRecDepth 100000 in
theorem wd_903 : (Jvm.Cond.selects "HoleWater$Looks" ({ cls := "HoleWater$Looks", name := "inVain", desc := "(II)I" } : Jvm.MethodName) ({ cls := "HoleWater$Looks", name := "inVain", desc := "(II)I" } : Jvm.MethodName)) ∈ mh_T := mh_T_in (List.mem_append_right _ (List.mem_of_getElem? (i := 903) (by decide +kernel))) (by decide +kernel)
set_option maxRecDepth 100000 in
theorem wd_904 : (Jvm.Cond.code ({ cls := "HoleWater$Looks", name := "inVain", desc := "(II)I" } : Jvm.MethodName) prog_3_method_12_code (5 : Nat) (Option.some Jvm.ClassFile.FieldType.int)) ∈ mh_T := mh_T_in (List.mem_append_right _ (List.mem_of_getElem? (i := 904) (by decide +kernel))) (by decide +kernel)
set_option maxRecDepth 100000 in
theorem wd_905 : (Jvm.Cond.methodLink "HoleWaterLaw" (131 : Nat) ({ cls := "HoleWater", name := "span", desc := "(IIII)I" } : Jvm.MethodName)) ∈ mh_T := mh_T_in (List.mem_append_right _ (List.mem_of_getElem? (i := 905) (by decide +kernel))) (by decide +kernel)
set_option maxRecDepth 100000 in
theorem wd_906 : (Jvm.Cond.instanceMethod ({ cls := "HoleWater", name := "span", desc := "(IIII)I" } : Jvm.MethodName)) ∈ mh_T := mh_T_in (List.mem_append_right _ (List.mem_of_getElem? (i := 906) (by decide +kernel))) (by decide +kernel)
set_option maxRecDepth 100000 in
theorem wd_907 : (Jvm.Cond.selects "HoleWater" ({ cls := "HoleWater", name := "span", desc := "(IIII)I" } : Jvm.MethodName) ({ cls := "HoleWater", name := "span", desc := "(IIII)I" } : Jvm.MethodName)) ∈ mh_T := mh_T_in (List.mem_append_right _ (List.mem_of_getElem? (i := 907) (by decide +kernel))) (by decide +kernel)
set_option maxRecDepth 100000 in
theorem wd_908 : (Jvm.Cond.code ({ cls := "HoleWater", name := "span", desc := "(IIII)I" } : Jvm.MethodName) prog_1_method_29_code (9 : Nat) (Option.some Jvm.ClassFile.FieldType.int)) ∈ mh_T := mh_T_in (List.mem_append_right _ (List.mem_of_getElem? (i := 908) (by decide +kernel))) (by decide +kernel)
set_option maxRecDepth 100000 in
theorem wd_909 : (Jvm.Cond.methodLink "HoleWater" (289 : Nat) ({ cls := "HoleWater$Looks", name := "onlyPut", desc := "(I)I" } : Jvm.MethodName)) ∈ mh_T := mh_T_in (List.mem_append_right _ (List.mem_of_getElem? (i := 909) (by decide +kernel))) (by decide +kernel)
set_option maxRecDepth 100000 in
theorem wd_910 : (Jvm.Cond.instanceMethod ({ cls := "HoleWater$Looks", name := "onlyPut", desc := "(I)I" } : Jvm.MethodName)) ∈ mh_T := mh_T_in (List.mem_append_right _ (List.mem_of_getElem? (i := 910) (by decide +kernel))) (by decide +kernel)
set_option maxRecDepth 100000 in
theorem wd_911 : (Jvm.Cond.selects "HoleWater$Looks" ({ cls := "HoleWater$Looks", name := "onlyPut", desc := "(I)I" } : Jvm.MethodName) ({ cls := "HoleWater$Looks", name := "onlyPut", desc := "(I)I" } : Jvm.MethodName)) ∈ mh_T := mh_T_in (List.mem_append_right _ (List.mem_of_getElem? (i := 911) (by decide +kernel))) (by decide +kernel)
set_option maxRecDepth 100000 in
theorem wd_912 : (Jvm.Cond.code ({ cls := "HoleWater$Looks", name := "onlyPut", desc := "(I)I" } : Jvm.MethodName) prog_3_method_13_code (4 : Nat) (Option.some Jvm.ClassFile.FieldType.int)) ∈ mh_T := mh_T_in (List.mem_append_right _ (List.mem_of_getElem? (i := 912) (by decide +kernel))) (by decide +kernel)
set_option maxRecDepth 100000 in
theorem wd_913 : (Jvm.Cond.methodLink "HoleWater" (292 : Nat) ({ cls := "HoleWater$Looks", name := "putPart", desc := "(II)I" } : Jvm.MethodName)) ∈ mh_T := mh_T_in (List.mem_append_right _ (List.mem_of_getElem? (i := 913) (by decide +kernel))) (by decide +kernel)
set_option maxRecDepth 100000 in
theorem wd_914 : (Jvm.Cond.methodLink "HoleWater" (295 : Nat) ({ cls := "HoleWater$Looks", name := "firstSaw", desc := "(II)I" } : Jvm.MethodName)) ∈ mh_T := mh_T_in (List.mem_append_right _ (List.mem_of_getElem? (i := 914) (by decide +kernel))) (by decide +kernel)
set_option maxRecDepth 100000 in
theorem wd_915 : (Jvm.Cond.instanceMethod ({ cls := "HoleWater$Looks", name := "firstSaw", desc := "(II)I" } : Jvm.MethodName)) ∈ mh_T := mh_T_in (List.mem_append_right _ (List.mem_of_getElem? (i := 915) (by decide +kernel))) (by decide +kernel)
set_option maxRecDepth 100000 in
theorem wd_916 : (Jvm.Cond.selects "HoleWater$Looks" ({ cls := "HoleWater$Looks", name := "firstSaw", desc := "(II)I" } : Jvm.MethodName) ({ cls := "HoleWater$Looks", name := "firstSaw", desc := "(II)I" } : Jvm.MethodName)) ∈ mh_T := mh_T_in (List.mem_append_right _ (List.mem_of_getElem? (i := 916) (by decide +kernel))) (by decide +kernel)
set_option maxRecDepth 100000 in
theorem wd_917 : (Jvm.Cond.code ({ cls := "HoleWater$Looks", name := "firstSaw", desc := "(II)I" } : Jvm.MethodName) prog_3_method_14_code (4 : Nat) (Option.some Jvm.ClassFile.FieldType.int)) ∈ mh_T := mh_T_in (List.mem_append_right _ (List.mem_of_getElem? (i := 917) (by decide +kernel))) (by decide +kernel)
set_option maxRecDepth 100000 in
theorem wd_918 : (Jvm.Cond.methodLink "HoleWater" (298 : Nat) ({ cls := "HoleWater$Looks", name := "latestVain", desc := "(IIII)I" } : Jvm.MethodName)) ∈ mh_T := mh_T_in (List.mem_append_right _ (List.mem_of_getElem? (i := 918) (by decide +kernel))) (by decide +kernel)
set_option maxRecDepth 100000 in
theorem wd_919 : (Jvm.Cond.instanceMethod ({ cls := "HoleWater$Looks", name := "latestVain", desc := "(IIII)I" } : Jvm.MethodName)) ∈ mh_T := mh_T_in (List.mem_append_right _ (List.mem_of_getElem? (i := 919) (by decide +kernel))) (by decide +kernel)
set_option maxRecDepth 100000 in
theorem wd_920 : (Jvm.Cond.selects "HoleWater$Looks" ({ cls := "HoleWater$Looks", name := "latestVain", desc := "(IIII)I" } : Jvm.MethodName) ({ cls := "HoleWater$Looks", name := "latestVain", desc := "(IIII)I" } : Jvm.MethodName)) ∈ mh_T := mh_T_in (List.mem_append_right _ (List.mem_of_getElem? (i := 920) (by decide +kernel))) (by decide +kernel)
set_option maxRecDepth 100000 in
theorem wd_921 : (Jvm.Cond.code ({ cls := "HoleWater$Looks", name := "latestVain", desc := "(IIII)I" } : Jvm.MethodName) prog_3_method_15_code (7 : Nat) (Option.some Jvm.ClassFile.FieldType.int)) ∈ mh_T := mh_T_in (List.mem_append_right _ (List.mem_of_getElem? (i := 921) (by decide +kernel))) (by decide +kernel)
set_option maxRecDepth 100000 in
theorem wd_922 : (Jvm.Cond.methodLink "HoleWater" (302 : Nat) ({ cls := "HoleWater$Looks", name := "lookPart", desc := "(II)I" } : Jvm.MethodName)) ∈ mh_T := mh_T_in (List.mem_append_right _ (List.mem_of_getElem? (i := 922) (by decide +kernel))) (by decide +kernel)
set_option maxRecDepth 100000 in
theorem wd_923 : (Jvm.Cond.methodLink "HoleWaterLaw" (135 : Nat) ({ cls := "HoleWater", name := "musts", desc := "(II)I" } : Jvm.MethodName)) ∈ mh_T := mh_T_in (List.mem_append_right _ (List.mem_of_getElem? (i := 923) (by decide +kernel))) (by decide +kernel)
set_option maxRecDepth 100000 in
theorem wd_924 : (Jvm.Cond.instanceMethod ({ cls := "HoleWater", name := "musts", desc := "(II)I" } : Jvm.MethodName)) ∈ mh_T := mh_T_in (List.mem_append_right _ (List.mem_of_getElem? (i := 924) (by decide +kernel))) (by decide +kernel)
set_option maxRecDepth 100000 in
theorem wd_925 : (Jvm.Cond.selects "HoleWater" ({ cls := "HoleWater", name := "musts", desc := "(II)I" } : Jvm.MethodName) ({ cls := "HoleWater", name := "musts", desc := "(II)I" } : Jvm.MethodName)) ∈ mh_T := mh_T_in (List.mem_append_right _ (List.mem_of_getElem? (i := 925) (by decide +kernel))) (by decide +kernel)
set_option maxRecDepth 100000 in
theorem wd_926 : (Jvm.Cond.code ({ cls := "HoleWater", name := "musts", desc := "(II)I" } : Jvm.MethodName) prog_1_method_30_code (6 : Nat) (Option.some Jvm.ClassFile.FieldType.int)) ∈ mh_T := mh_T_in (List.mem_append_right _ (List.mem_of_getElem? (i := 926) (by decide +kernel))) (by decide +kernel)
set_option maxRecDepth 100000 in
theorem wd_927 : (Jvm.Cond.methodLink "HoleWater" (305 : Nat) ({ cls := "HoleWater", name := "isMust", desc := "(II)Z" } : Jvm.MethodName)) ∈ mh_T := mh_T_in (List.mem_append_right _ (List.mem_of_getElem? (i := 927) (by decide +kernel))) (by decide +kernel)
set_option maxRecDepth 100000 in
theorem wd_929 : (Jvm.Cond.instanceMethod ({ cls := "HoleWater", name := "isMust", desc := "(II)Z" } : Jvm.MethodName)) ∈ mh_T := mh_T_in (List.mem_append_right _ (List.mem_of_getElem? (i := 929) (by decide +kernel))) (by decide +kernel)
set_option maxRecDepth 100000 in
theorem wd_930 : (Jvm.Cond.code ({ cls := "HoleWater", name := "isMust", desc := "(II)Z" } : Jvm.MethodName) prog_1_method_62_code (3 : Nat) (Option.some Jvm.ClassFile.FieldType.boolean)) ∈ mh_T := mh_T_in (List.mem_append_right _ (List.mem_of_getElem? (i := 930) (by decide +kernel))) (by decide +kernel)
set_option maxRecDepth 100000 in
theorem wd_931 : (Jvm.Cond.methodLink "HoleWaterLaw" (139 : Nat) ({ cls := "HoleWater", name := "crosses", desc := "(IIII)I" } : Jvm.MethodName)) ∈ mh_T := mh_T_in (List.mem_append_right _ (List.mem_of_getElem? (i := 931) (by decide +kernel))) (by decide +kernel)
set_option maxRecDepth 100000 in
theorem wd_932 : (Jvm.Cond.instanceMethod ({ cls := "HoleWater", name := "crosses", desc := "(IIII)I" } : Jvm.MethodName)) ∈ mh_T := mh_T_in (List.mem_append_right _ (List.mem_of_getElem? (i := 932) (by decide +kernel))) (by decide +kernel)
set_option maxRecDepth 100000 in
theorem wd_933 : (Jvm.Cond.selects "HoleWater" ({ cls := "HoleWater", name := "crosses", desc := "(IIII)I" } : Jvm.MethodName) ({ cls := "HoleWater", name := "crosses", desc := "(IIII)I" } : Jvm.MethodName)) ∈ mh_T := mh_T_in (List.mem_append_right _ (List.mem_of_getElem? (i := 933) (by decide +kernel))) (by decide +kernel)
set_option maxRecDepth 100000 in
theorem wd_934 : (Jvm.Cond.code ({ cls := "HoleWater", name := "crosses", desc := "(IIII)I" } : Jvm.MethodName) prog_1_method_31_code (9 : Nat) (Option.some Jvm.ClassFile.FieldType.int)) ∈ mh_T := mh_T_in (List.mem_append_right _ (List.mem_of_getElem? (i := 934) (by decide +kernel))) (by decide +kernel)
set_option maxRecDepth 100000 in
theorem wd_935 : (Jvm.Cond.methodLink "HoleWater" (308 : Nat) ({ cls := "HoleWater$World", name := "parts", desc := "(IIII)Z" } : Jvm.MethodName)) ∈ mh_T := mh_T_in (List.mem_append_right _ (List.mem_of_getElem? (i := 935) (by decide +kernel))) (by decide +kernel)
set_option maxRecDepth 100000 in
theorem wd_936 : (Jvm.Cond.instanceMethod ({ cls := "HoleWater$World", name := "parts", desc := "(IIII)Z" } : Jvm.MethodName)) ∈ mh_T := mh_T_in (List.mem_append_right _ (List.mem_of_getElem? (i := 936) (by decide +kernel))) (by decide +kernel)
set_option maxRecDepth 100000 in
theorem wd_937 : (Jvm.Cond.selects "HoleWater$World" ({ cls := "HoleWater$World", name := "parts", desc := "(IIII)Z" } : Jvm.MethodName) ({ cls := "HoleWater$World", name := "parts", desc := "(IIII)Z" } : Jvm.MethodName)) ∈ mh_T := mh_T_in (List.mem_append_right _ (List.mem_of_getElem? (i := 937) (by decide +kernel))) (by decide +kernel)
set_option maxRecDepth 100000 in
theorem wd_938 : (Jvm.Cond.code ({ cls := "HoleWater$World", name := "parts", desc := "(IIII)Z" } : Jvm.MethodName) prog_12_method_14_code (7 : Nat) (Option.some Jvm.ClassFile.FieldType.boolean)) ∈ mh_T := mh_T_in (List.mem_append_right _ (List.mem_of_getElem? (i := 938) (by decide +kernel))) (by decide +kernel)
set_option maxRecDepth 100000 in
theorem wd_939 : (Jvm.Cond.methodLink "HoleWater$World" (136 : Nat) ({ cls := "HoleWater$World", name := "side", desc := "(III)I" } : Jvm.MethodName)) ∈ mh_T := mh_T_in (List.mem_append_right _ (List.mem_of_getElem? (i := 939) (by decide +kernel))) (by decide +kernel)
set_option maxRecDepth 100000 in
theorem wd_941 : (Jvm.Cond.instanceMethod ({ cls := "HoleWater$World", name := "side", desc := "(III)I" } : Jvm.MethodName)) ∈ mh_T := mh_T_in (List.mem_append_right _ (List.mem_of_getElem? (i := 941) (by decide +kernel))) (by decide +kernel)
set_option maxRecDepth 100000 in
theorem wd_942 : (Jvm.Cond.code ({ cls := "HoleWater$World", name := "side", desc := "(III)I" } : Jvm.MethodName) prog_12_method_15_code (4 : Nat) (Option.some Jvm.ClassFile.FieldType.int)) ∈ mh_T := mh_T_in (List.mem_append_right _ (List.mem_of_getElem? (i := 942) (by decide +kernel))) (by decide +kernel)
set_option maxRecDepth 100000 in
theorem wd_943 : (Jvm.Cond.methodLink "HoleWaterLaw" (143 : Nat) ({ cls := "HoleWater", name := "rooms", desc := "(II)I" } : Jvm.MethodName)) ∈ mh_T := mh_T_in (List.mem_append_right _ (List.mem_of_getElem? (i := 943) (by decide +kernel))) (by decide +kernel)
set_option maxRecDepth 100000 in
theorem wd_944 : (Jvm.Cond.instanceMethod ({ cls := "HoleWater", name := "rooms", desc := "(II)I" } : Jvm.MethodName)) ∈ mh_T := mh_T_in (List.mem_append_right _ (List.mem_of_getElem? (i := 944) (by decide +kernel))) (by decide +kernel)
set_option maxRecDepth 100000 in
theorem wd_945 : (Jvm.Cond.selects "HoleWater" ({ cls := "HoleWater", name := "rooms", desc := "(II)I" } : Jvm.MethodName) ({ cls := "HoleWater", name := "rooms", desc := "(II)I" } : Jvm.MethodName)) ∈ mh_T := mh_T_in (List.mem_append_right _ (List.mem_of_getElem? (i := 945) (by decide +kernel))) (by decide +kernel)
set_option maxRecDepth 100000 in
theorem wd_946 : (Jvm.Cond.code ({ cls := "HoleWater", name := "rooms", desc := "(II)I" } : Jvm.MethodName) prog_1_method_32_code (4 : Nat) (Option.some Jvm.ClassFile.FieldType.int)) ∈ mh_T := mh_T_in (List.mem_append_right _ (List.mem_of_getElem? (i := 946) (by decide +kernel))) (by decide +kernel)
set_option maxRecDepth 100000 in
theorem wd_947 : (Jvm.Cond.methodLink "HoleWater" (311 : Nat) ({ cls := "java/lang/Integer", name := "bitCount", desc := "(I)I" } : Jvm.MethodName)) ∈ mh_T := mh_T_in (List.mem_append_right _ (List.mem_of_getElem? (i := 947) (by decide +kernel))) (by decide +kernel)
set_option maxRecDepth 100000 in
theorem wd_948 : (Jvm.Cond.static ({ cls := "java/lang/Integer", name := "bitCount", desc := "(I)I" } : Jvm.MethodName)) ∈ mh_T := mh_T_in (List.mem_append_right _ (List.mem_of_getElem? (i := 948) (by decide +kernel))) (by decide +kernel)
set_option maxRecDepth 100000 in
theorem wd_949 : (Jvm.Cond.code ({ cls := "java/lang/Integer", name := "bitCount", desc := "(I)I" } : Jvm.MethodName) prog_16_method_49_code (1 : Nat) (Option.some Jvm.ClassFile.FieldType.int)) ∈ mh_T := mh_T_in (List.mem_append_right _ (List.mem_of_getElem? (i := 949) (by decide +kernel))) (by decide +kernel)
set_option maxRecDepth 100000 in
theorem wd_950 : (Jvm.Cond.constant "java/lang/Integer" (265 : Nat) (1431655765 : Int32)) ∈ mh_T := mh_T_in (List.mem_append_right _ (List.mem_of_getElem? (i := 950) (by decide +kernel))) (by decide +kernel)
set_option maxRecDepth 100000 in
theorem wd_951 : (Jvm.Cond.constant "java/lang/Integer" (266 : Nat) (858993459 : Int32)) ∈ mh_T := mh_T_in (List.mem_append_right _ (List.mem_of_getElem? (i := 951) (by decide +kernel))) (by decide +kernel)
set_option maxRecDepth 100000 in
theorem wd_952 : (Jvm.Cond.constant "java/lang/Integer" (267 : Nat) (252645135 : Int32)) ∈ mh_T := mh_T_in (List.mem_append_right _ (List.mem_of_getElem? (i := 952) (by decide +kernel))) (by decide +kernel)
set_option maxRecDepth 100000 in
theorem wd_953 : (Jvm.Cond.methodLink "HoleWater" (316 : Nat) ({ cls := "HoleWater$Looks", name := "fewestRooms", desc := "(II)I" } : Jvm.MethodName)) ∈ mh_T := mh_T_in (List.mem_append_right _ (List.mem_of_getElem? (i := 953) (by decide +kernel))) (by decide +kernel)
set_option maxRecDepth 100000 in
theorem wd_954 : (Jvm.Cond.instanceMethod ({ cls := "HoleWater$Looks", name := "fewestRooms", desc := "(II)I" } : Jvm.MethodName)) ∈ mh_T := mh_T_in (List.mem_append_right _ (List.mem_of_getElem? (i := 954) (by decide +kernel))) (by decide +kernel)
set_option maxRecDepth 100000 in
theorem wd_955 : (Jvm.Cond.selects "HoleWater$Looks" ({ cls := "HoleWater$Looks", name := "fewestRooms", desc := "(II)I" } : Jvm.MethodName) ({ cls := "HoleWater$Looks", name := "fewestRooms", desc := "(II)I" } : Jvm.MethodName)) ∈ mh_T := mh_T_in (List.mem_append_right _ (List.mem_of_getElem? (i := 955) (by decide +kernel))) (by decide +kernel)
set_option maxRecDepth 100000 in
theorem wd_956 : (Jvm.Cond.code ({ cls := "HoleWater$Looks", name := "fewestRooms", desc := "(II)I" } : Jvm.MethodName) prog_3_method_19_code (6 : Nat) (Option.some Jvm.ClassFile.FieldType.int)) ∈ mh_T := mh_T_in (List.mem_append_right _ (List.mem_of_getElem? (i := 956) (by decide +kernel))) (by decide +kernel)
set_option maxRecDepth 100000 in
theorem wd_957 : (Jvm.Cond.methodLink "HoleWater$Looks" (86 : Nat) ({ cls := "HoleWater$Looks", name := "findSides", desc := "(II)I" } : Jvm.MethodName)) ∈ mh_T := mh_T_in (List.mem_append_right _ (List.mem_of_getElem? (i := 957) (by decide +kernel))) (by decide +kernel)
set_option maxRecDepth 100000 in
theorem wd_959 : (Jvm.Cond.instanceMethod ({ cls := "HoleWater$Looks", name := "findSides", desc := "(II)I" } : Jvm.MethodName)) ∈ mh_T := mh_T_in (List.mem_append_right _ (List.mem_of_getElem? (i := 959) (by decide +kernel))) (by decide +kernel)
set_option maxRecDepth 100000 in
theorem wd_960 : (Jvm.Cond.code ({ cls := "HoleWater$Looks", name := "findSides", desc := "(II)I" } : Jvm.MethodName) prog_3_method_20_code (9 : Nat) (Option.some Jvm.ClassFile.FieldType.int)) ∈ mh_T := mh_T_in (List.mem_append_right _ (List.mem_of_getElem? (i := 960) (by decide +kernel))) (by decide +kernel)
set_option maxRecDepth 100000 in
theorem wd_961 : (Jvm.Cond.methodLink "HoleWater$Looks" (103 : Nat) ({ cls := "HoleWater$Looks", name := "said", desc := "(III)I" } : Jvm.MethodName)) ∈ mh_T := mh_T_in (List.mem_append_right _ (List.mem_of_getElem? (i := 961) (by decide +kernel))) (by decide +kernel)
set_option maxRecDepth 100000 in
theorem wd_962 : (Jvm.Cond.methodLink "HoleWater$Looks" (89 : Nat) ({ cls := "java/lang/Integer", name := "bitCount", desc := "(I)I" } : Jvm.MethodName)) ∈ mh_T := mh_T_in (List.mem_append_right _ (List.mem_of_getElem? (i := 962) (by decide +kernel))) (by decide +kernel)
set_option maxRecDepth 100000 in
theorem wd_963 : (Jvm.Cond.methodLink "HoleWater$Looks" (94 : Nat) ({ cls := "HoleWater$Looks", name := "coverOf", desc := "(II)I" } : Jvm.MethodName)) ∈ mh_T := mh_T_in (List.mem_append_right _ (List.mem_of_getElem? (i := 963) (by decide +kernel))) (by decide +kernel)
set_option maxRecDepth 100000 in
theorem wd_965 : (Jvm.Cond.instanceMethod ({ cls := "HoleWater$Looks", name := "coverOf", desc := "(II)I" } : Jvm.MethodName)) ∈ mh_T := mh_T_in (List.mem_append_right _ (List.mem_of_getElem? (i := 965) (by decide +kernel))) (by decide +kernel)
set_option maxRecDepth 100000 in
theorem wd_966 : (Jvm.Cond.code ({ cls := "HoleWater$Looks", name := "coverOf", desc := "(II)I" } : Jvm.MethodName) prog_3_method_21_code (6 : Nat) (Option.some Jvm.ClassFile.FieldType.int)) ∈ mh_T := mh_T_in (List.mem_append_right _ (List.mem_of_getElem? (i := 966) (by decide +kernel))) (by decide +kernel)
set_option maxRecDepth 100000 in
theorem wd_967 : (Jvm.Cond.methodLink "HoleWater$Looks" (97 : Nat) ({ cls := "java/lang/Math", name := "min", desc := "(II)I" } : Jvm.MethodName)) ∈ mh_T := mh_T_in (List.mem_append_right _ (List.mem_of_getElem? (i := 967) (by decide +kernel))) (by decide +kernel)
set_option maxRecDepth 100000 in
theorem wd_968 : (Jvm.Cond.methodLink "HoleWater$Looks" (100 : Nat) ({ cls := "HoleWater$Looks", name := "canCover", desc := "(II)Z" } : Jvm.MethodName)) ∈ mh_T := mh_T_in (List.mem_append_right _ (List.mem_of_getElem? (i := 968) (by decide +kernel))) (by decide +kernel)
set_option maxRecDepth 100000 in
theorem wd_970 : (Jvm.Cond.instanceMethod ({ cls := "HoleWater$Looks", name := "canCover", desc := "(II)Z" } : Jvm.MethodName)) ∈ mh_T := mh_T_in (List.mem_append_right _ (List.mem_of_getElem? (i := 970) (by decide +kernel))) (by decide +kernel)
set_option maxRecDepth 100000 in
theorem wd_971 : (Jvm.Cond.code ({ cls := "HoleWater$Looks", name := "canCover", desc := "(II)Z" } : Jvm.MethodName) prog_3_method_22_code (5 : Nat) (Option.some Jvm.ClassFile.FieldType.boolean)) ∈ mh_T := mh_T_in (List.mem_append_right _ (List.mem_of_getElem? (i := 971) (by decide +kernel))) (by decide +kernel)
set_option maxRecDepth 100000 in
theorem wd_972 : (Jvm.Cond.methodLink "HoleWaterLaw" (147 : Nat) ({ cls := "HoleWater", name := "town", desc := "(IZ)I" } : Jvm.MethodName)) ∈ mh_T := mh_T_in (List.mem_append_right _ (List.mem_of_getElem? (i := 972) (by decide +kernel))) (by decide +kernel)
set_option maxRecDepth 100000 in
theorem wd_973 : (Jvm.Cond.instanceMethod ({ cls := "HoleWater", name := "town", desc := "(IZ)I" } : Jvm.MethodName)) ∈ mh_T := mh_T_in (List.mem_append_right _ (List.mem_of_getElem? (i := 973) (by decide +kernel))) (by decide +kernel)
set_option maxRecDepth 100000 in
theorem wd_974 : (Jvm.Cond.selects "HoleWater" ({ cls := "HoleWater", name := "town", desc := "(IZ)I" } : Jvm.MethodName) ({ cls := "HoleWater", name := "town", desc := "(IZ)I" } : Jvm.MethodName)) ∈ mh_T := mh_T_in (List.mem_append_right _ (List.mem_of_getElem? (i := 974) (by decide +kernel))) (by decide +kernel)
set_option maxRecDepth 100000 in
theorem wd_975 : (Jvm.Cond.code ({ cls := "HoleWater", name := "town", desc := "(IZ)I" } : Jvm.MethodName) prog_1_method_33_code (4 : Nat) (Option.some Jvm.ClassFile.FieldType.int)) ∈ mh_T := mh_T_in (List.mem_append_right _ (List.mem_of_getElem? (i := 975) (by decide +kernel))) (by decide +kernel)
set_option maxRecDepth 100000 in
theorem wd_976 : (Jvm.Cond.methodLink "HoleWaterLaw" (151 : Nat) ({ cls := "HoleWater", name := "night", desc := "(III)I" } : Jvm.MethodName)) ∈ mh_T := mh_T_in (List.mem_append_right _ (List.mem_of_getElem? (i := 976) (by decide +kernel))) (by decide +kernel)
set_option maxRecDepth 100000 in
theorem wd_977 : (Jvm.Cond.instanceMethod ({ cls := "HoleWater", name := "night", desc := "(III)I" } : Jvm.MethodName)) ∈ mh_T := mh_T_in (List.mem_append_right _ (List.mem_of_getElem? (i := 977) (by decide +kernel))) (by decide +kernel)
set_option maxRecDepth 100000 in
theorem wd_978 : (Jvm.Cond.selects "HoleWater" ({ cls := "HoleWater", name := "night", desc := "(III)I" } : Jvm.MethodName) ({ cls := "HoleWater", name := "night", desc := "(III)I" } : Jvm.MethodName)) ∈ mh_T := mh_T_in (List.mem_append_right _ (List.mem_of_getElem? (i := 978) (by decide +kernel))) (by decide +kernel)
set_option maxRecDepth 100000 in
theorem wd_979 : (Jvm.Cond.code ({ cls := "HoleWater", name := "night", desc := "(III)I" } : Jvm.MethodName) prog_1_method_34_code (6 : Nat) (Option.some Jvm.ClassFile.FieldType.int)) ∈ mh_T := mh_T_in (List.mem_append_right _ (List.mem_of_getElem? (i := 979) (by decide +kernel))) (by decide +kernel)
set_option maxRecDepth 100000 in
theorem wd_980 : (Jvm.Cond.methodLink "HoleWater" (319 : Nat) ({ cls := "HoleWater$Looks", name := "holesKnownAt", desc := "(I)I" } : Jvm.MethodName)) ∈ mh_T := mh_T_in (List.mem_append_right _ (List.mem_of_getElem? (i := 980) (by decide +kernel))) (by decide +kernel)
set_option maxRecDepth 100000 in
theorem wd_981 : (Jvm.Cond.instanceMethod ({ cls := "HoleWater$Looks", name := "holesKnownAt", desc := "(I)I" } : Jvm.MethodName)) ∈ mh_T := mh_T_in (List.mem_append_right _ (List.mem_of_getElem? (i := 981) (by decide +kernel))) (by decide +kernel)
set_option maxRecDepth 100000 in
theorem wd_982 : (Jvm.Cond.selects "HoleWater$Looks" ({ cls := "HoleWater$Looks", name := "holesKnownAt", desc := "(I)I" } : Jvm.MethodName) ({ cls := "HoleWater$Looks", name := "holesKnownAt", desc := "(I)I" } : Jvm.MethodName)) ∈ mh_T := mh_T_in (List.mem_append_right _ (List.mem_of_getElem? (i := 982) (by decide +kernel))) (by decide +kernel)
set_option maxRecDepth 100000 in
theorem wd_983 : (Jvm.Cond.code ({ cls := "HoleWater$Looks", name := "holesKnownAt", desc := "(I)I" } : Jvm.MethodName) prog_3_method_23_code (4 : Nat) (Option.some Jvm.ClassFile.FieldType.int)) ∈ mh_T := mh_T_in (List.mem_append_right _ (List.mem_of_getElem? (i := 983) (by decide +kernel))) (by decide +kernel)
set_option maxRecDepth 100000 in
theorem wd_984 : (Jvm.Cond.methodLink "HoleWater" (322 : Nat) ({ cls := "HoleWater$Looks", name := "planNight", desc := "(IIII)V" } : Jvm.MethodName)) ∈ mh_T := mh_T_in (List.mem_append_right _ (List.mem_of_getElem? (i := 984) (by decide +kernel))) (by decide +kernel)
set_option maxRecDepth 100000 in
theorem wd_985 : (Jvm.Cond.instanceMethod ({ cls := "HoleWater$Looks", name := "planNight", desc := "(IIII)V" } : Jvm.MethodName)) ∈ mh_T := mh_T_in (List.mem_append_right _ (List.mem_of_getElem? (i := 985) (by decide +kernel))) (by decide +kernel)
set_option maxRecDepth 100000 in
theorem wd_986 : (Jvm.Cond.selects "HoleWater$Looks" ({ cls := "HoleWater$Looks", name := "planNight", desc := "(IIII)V" } : Jvm.MethodName) ({ cls := "HoleWater$Looks", name := "planNight", desc := "(IIII)V" } : Jvm.MethodName)) ∈ mh_T := mh_T_in (List.mem_append_right _ (List.mem_of_getElem? (i := 986) (by decide +kernel))) (by decide +kernel)
set_option maxRecDepth 100000 in
theorem wd_987 : (Jvm.Cond.code ({ cls := "HoleWater$Looks", name := "planNight", desc := "(IIII)V" } : Jvm.MethodName) prog_3_method_24_code (8 : Nat) (Option.none : Option Jvm.ClassFile.FieldType)) ∈ mh_T := mh_T_in (List.mem_append_right _ (List.mem_of_getElem? (i := 987) (by decide +kernel))) (by decide +kernel)
set_option maxRecDepth 100000 in
theorem wd_988 : (Jvm.Cond.methodLink "HoleWater$Looks" (107 : Nat) ({ cls := "HoleWater$Looks", name := "holesLookedFor", desc := "(I)I" } : Jvm.MethodName)) ∈ mh_T := mh_T_in (List.mem_append_right _ (List.mem_of_getElem? (i := 988) (by decide +kernel))) (by decide +kernel)
set_option maxRecDepth 100000 in
theorem wd_990 : (Jvm.Cond.instanceMethod ({ cls := "HoleWater$Looks", name := "holesLookedFor", desc := "(I)I" } : Jvm.MethodName)) ∈ mh_T := mh_T_in (List.mem_append_right _ (List.mem_of_getElem? (i := 990) (by decide +kernel))) (by decide +kernel)
set_option maxRecDepth 100000 in
theorem wd_991 : (Jvm.Cond.code ({ cls := "HoleWater$Looks", name := "holesLookedFor", desc := "(I)I" } : Jvm.MethodName) prog_3_method_25_code (4 : Nat) (Option.some Jvm.ClassFile.FieldType.int)) ∈ mh_T := mh_T_in (List.mem_append_right _ (List.mem_of_getElem? (i := 991) (by decide +kernel))) (by decide +kernel)
set_option maxRecDepth 100000 in
theorem wd_992 : (Jvm.Cond.methodLink "HoleWater$Looks" (110 : Nat) ({ cls := "HoleWater$Looks", name := "planSprings", desc := "(III)V" } : Jvm.MethodName)) ∈ mh_T := mh_T_in (List.mem_append_right _ (List.mem_of_getElem? (i := 992) (by decide +kernel))) (by decide +kernel)
set_option maxRecDepth 100000 in
theorem wd_994 : (Jvm.Cond.instanceMethod ({ cls := "HoleWater$Looks", name := "planSprings", desc := "(III)V" } : Jvm.MethodName)) ∈ mh_T := mh_T_in (List.mem_append_right _ (List.mem_of_getElem? (i := 994) (by decide +kernel))) (by decide +kernel)
set_option maxRecDepth 100000 in
theorem wd_995 : (Jvm.Cond.code ({ cls := "HoleWater$Looks", name := "planSprings", desc := "(III)V" } : Jvm.MethodName) prog_3_method_26_code (9 : Nat) (Option.none : Option Jvm.ClassFile.FieldType)) ∈ mh_T := mh_T_in (List.mem_append_right _ (List.mem_of_getElem? (i := 995) (by decide +kernel))) (by decide +kernel)
set_option maxRecDepth 100000 in
theorem wd_996 : (Jvm.Cond.methodLink "HoleWaterLaw" (155 : Nat) ({ cls := "HoleWater", name := "share", desc := "(I)I" } : Jvm.MethodName)) ∈ mh_T := mh_T_in (List.mem_append_right _ (List.mem_of_getElem? (i := 996) (by decide +kernel))) (by decide +kernel)
set_option maxRecDepth 100000 in
theorem wd_997 : (Jvm.Cond.instanceMethod ({ cls := "HoleWater", name := "share", desc := "(I)I" } : Jvm.MethodName)) ∈ mh_T := mh_T_in (List.mem_append_right _ (List.mem_of_getElem? (i := 997) (by decide +kernel))) (by decide +kernel)
set_option maxRecDepth 100000 in
theorem wd_998 : (Jvm.Cond.selects "HoleWater" ({ cls := "HoleWater", name := "share", desc := "(I)I" } : Jvm.MethodName) ({ cls := "HoleWater", name := "share", desc := "(I)I" } : Jvm.MethodName)) ∈ mh_T := mh_T_in (List.mem_append_right _ (List.mem_of_getElem? (i := 998) (by decide +kernel))) (by decide +kernel)
set_option maxRecDepth 100000 in
theorem wd_999 : (Jvm.Cond.code ({ cls := "HoleWater", name := "share", desc := "(I)I" } : Jvm.MethodName) prog_1_method_35_code (2 : Nat) (Option.some Jvm.ClassFile.FieldType.int)) ∈ mh_T := mh_T_in (List.mem_append_right _ (List.mem_of_getElem? (i := 999) (by decide +kernel))) (by decide +kernel)
set_option maxRecDepth 100000 in
theorem wd_1000 : (Jvm.Cond.methodLink "HoleWater" (329 : Nat) ({ cls := "HoleWater$Looks", name := "seenInBottles", desc := "(I)I" } : Jvm.MethodName)) ∈ mh_T := mh_T_in (List.mem_append_right _ (List.mem_of_getElem? (i := 1000) (by decide +kernel))) (by decide +kernel)
set_option maxRecDepth 100000 in
theorem wd_1001 : (Jvm.Cond.instanceMethod ({ cls := "HoleWater$Looks", name := "seenInBottles", desc := "(I)I" } : Jvm.MethodName)) ∈ mh_T := mh_T_in (List.mem_append_right _ (List.mem_of_getElem? (i := 1001) (by decide +kernel))) (by decide +kernel)
set_option maxRecDepth 100000 in
theorem wd_1002 : (Jvm.Cond.selects "HoleWater$Looks" ({ cls := "HoleWater$Looks", name := "seenInBottles", desc := "(I)I" } : Jvm.MethodName) ({ cls := "HoleWater$Looks", name := "seenInBottles", desc := "(I)I" } : Jvm.MethodName)) ∈ mh_T := mh_T_in (List.mem_append_right _ (List.mem_of_getElem? (i := 1002) (by decide +kernel))) (by decide +kernel)
set_option maxRecDepth 100000 in
theorem wd_1003 : (Jvm.Cond.code ({ cls := "HoleWater$Looks", name := "seenInBottles", desc := "(I)I" } : Jvm.MethodName) prog_3_method_16_code (4 : Nat) (Option.some Jvm.ClassFile.FieldType.int)) ∈ mh_T := mh_T_in (List.mem_append_right _ (List.mem_of_getElem? (i := 1003) (by decide +kernel))) (by decide +kernel)
set_option maxRecDepth 100000 in
theorem wd_1004 : (Jvm.Cond.methodLink "HoleWater$Looks" (79 : Nat) ({ cls := "HoleWater$Looks", name := "isFullBottle", desc := "(II)Z" } : Jvm.MethodName)) ∈ mh_T := mh_T_in (List.mem_append_right _ (List.mem_of_getElem? (i := 1004) (by decide +kernel))) (by decide +kernel)
set_option maxRecDepth 100000 in
theorem wd_1006 : (Jvm.Cond.instanceMethod ({ cls := "HoleWater$Looks", name := "isFullBottle", desc := "(II)Z" } : Jvm.MethodName)) ∈ mh_T := mh_T_in (List.mem_append_right _ (List.mem_of_getElem? (i := 1006) (by decide +kernel))) (by decide +kernel)
