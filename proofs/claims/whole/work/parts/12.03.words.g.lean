set_option maxRecDepth 100000 in
theorem wd_677 : (Jvm.Cond.methodLink "HoleWater$Water" (147 : Nat) ({ cls := "java/lang/Math", name := "max", desc := "(II)I" } : Jvm.MethodName)) ∈ mh_T := mh_T_in (List.mem_append_right _ (List.mem_of_getElem? (i := 677) (by decide +kernel))) (by decide +kernel)
set_option maxRecDepth 100000 in
theorem wd_679 : (Jvm.Cond.methodLink "HoleWater$Water" (131 : Nat) ({ cls := "HoleWater$Water", name := "enter", desc := "(ILHoleWater$Way;II)V" } : Jvm.MethodName)) ∈ mh_T := mh_T_in (List.mem_append_right _ (List.mem_of_getElem? (i := 679) (by decide +kernel))) (by decide +kernel)
set_option maxRecDepth 100000 in
theorem wd_681 : (Jvm.Cond.instanceMethod ({ cls := "HoleWater$Water", name := "enter", desc := "(ILHoleWater$Way;II)V" } : Jvm.MethodName)) ∈ mh_T := mh_T_in (List.mem_append_right _ (List.mem_of_getElem? (i := 681) (by decide +kernel))) (by decide +kernel)
set_option maxRecDepth 100000 in
theorem wd_682 : (Jvm.Cond.code ({ cls := "HoleWater$Water", name := "enter", desc := "(ILHoleWater$Way;II)V" } : Jvm.MethodName) prog_10_method_15_code (7 : Nat) (Option.none : Option Jvm.ClassFile.FieldType)) ∈ mh_T := mh_T_in (List.mem_append_right _ (List.mem_of_getElem? (i := 682) (by decide +kernel))) (by decide +kernel)
set_option maxRecDepth 100000 in
theorem wd_683 : (Jvm.Cond.methodLink "HoleWater$Water" (153 : Nat) ({ cls := "HoleWater$Way", name := "keeps", desc := "(I)I" } : Jvm.MethodName)) ∈ mh_T := mh_T_in (List.mem_append_right _ (List.mem_of_getElem? (i := 683) (by decide +kernel))) (by decide +kernel)
set_option maxRecDepth 100000 in
theorem wd_684 : (Jvm.Cond.instanceMethod ({ cls := "HoleWater$Way", name := "keeps", desc := "(I)I" } : Jvm.MethodName)) ∈ mh_T := mh_T_in (List.mem_append_right _ (List.mem_of_getElem? (i := 684) (by decide +kernel))) (by decide +kernel)
set_option maxRecDepth 100000 in
theorem wd_685 : (Jvm.Cond.selects "HoleWater$Way" ({ cls := "HoleWater$Way", name := "keeps", desc := "(I)I" } : Jvm.MethodName) ({ cls := "HoleWater$Way", name := "keeps", desc := "(I)I" } : Jvm.MethodName)) ∈ mh_T := mh_T_in (List.mem_append_right _ (List.mem_of_getElem? (i := 685) (by decide +kernel))) (by decide +kernel)
set_option maxRecDepth 100000 in
theorem wd_686 : (Jvm.Cond.sameMethod "HoleWater$Way" "HoleWater$Way" "keeps" "(I)I") ∈ mh_T := mh_T_in (List.mem_append_right _ (List.mem_of_getElem? (i := 686) (by decide +kernel))) (by decide +kernel)
set_option maxRecDepth 100000 in
theorem wd_687 : (Jvm.Cond.selects "HoleWater$Blind" ({ cls := "HoleWater$Way", name := "keeps", desc := "(I)I" } : Jvm.MethodName) ({ cls := "HoleWater$Sieve", name := "keeps", desc := "(I)I" } : Jvm.MethodName)) ∈ mh_T := mh_T_in (List.mem_append_right _ (List.mem_of_getElem? (i := 687) (by decide +kernel))) (by decide +kernel)
set_option maxRecDepth 100000 in
theorem wd_688 : (Jvm.Cond.instanceMethod ({ cls := "HoleWater$Sieve", name := "keeps", desc := "(I)I" } : Jvm.MethodName)) ∈ mh_T := mh_T_in (List.mem_append_right _ (List.mem_of_getElem? (i := 688) (by decide +kernel))) (by decide +kernel)
set_option maxRecDepth 100000 in
theorem wd_689 : (Jvm.Cond.code ({ cls := "HoleWater$Sieve", name := "keeps", desc := "(I)I" } : Jvm.MethodName) prog_9_method_4_code (2 : Nat) (Option.some Jvm.ClassFile.FieldType.int)) ∈ mh_T := mh_T_in (List.mem_append_right _ (List.mem_of_getElem? (i := 689) (by decide +kernel))) (by decide +kernel)
set_option maxRecDepth 100000 in
theorem wd_691 : (Jvm.Cond.selects "HoleWater$Open" ({ cls := "HoleWater$Way", name := "keeps", desc := "(I)I" } : Jvm.MethodName) ({ cls := "HoleWater$Way", name := "keeps", desc := "(I)I" } : Jvm.MethodName)) ∈ mh_T := mh_T_in (List.mem_append_right _ (List.mem_of_getElem? (i := 691) (by decide +kernel))) (by decide +kernel)
set_option maxRecDepth 100000 in
theorem wd_692 : (Jvm.Cond.selects "HoleWater$Overflow" ({ cls := "HoleWater$Way", name := "keeps", desc := "(I)I" } : Jvm.MethodName) ({ cls := "HoleWater$Way", name := "keeps", desc := "(I)I" } : Jvm.MethodName)) ∈ mh_T := mh_T_in (List.mem_append_right _ (List.mem_of_getElem? (i := 692) (by decide +kernel))) (by decide +kernel)
set_option maxRecDepth 100000 in
theorem wd_693 : (Jvm.Cond.selects "HoleWater$Pool" ({ cls := "HoleWater$Way", name := "keeps", desc := "(I)I" } : Jvm.MethodName) ({ cls := "HoleWater$Way", name := "keeps", desc := "(I)I" } : Jvm.MethodName)) ∈ mh_T := mh_T_in (List.mem_append_right _ (List.mem_of_getElem? (i := 693) (by decide +kernel))) (by decide +kernel)
set_option maxRecDepth 100000 in
theorem wd_694 : (Jvm.Cond.selects "HoleWater$Sieve" ({ cls := "HoleWater$Way", name := "keeps", desc := "(I)I" } : Jvm.MethodName) ({ cls := "HoleWater$Sieve", name := "keeps", desc := "(I)I" } : Jvm.MethodName)) ∈ mh_T := mh_T_in (List.mem_append_right _ (List.mem_of_getElem? (i := 694) (by decide +kernel))) (by decide +kernel)
set_option maxRecDepth 100000 in
theorem wd_695 : (Jvm.Cond.code ({ cls := "HoleWater$Way", name := "keeps", desc := "(I)I" } : Jvm.MethodName) prog_11_method_4_code (2 : Nat) (Option.some Jvm.ClassFile.FieldType.int)) ∈ mh_T := mh_T_in (List.mem_append_right _ (List.mem_of_getElem? (i := 695) (by decide +kernel))) (by decide +kernel)
set_option maxRecDepth 100000 in
theorem wd_696 : (Jvm.Cond.classLink "HoleWater$Water" (156 : Nat) "HoleWater$Blind") ∈ mh_T := mh_T_in (List.mem_append_right _ (List.mem_of_getElem? (i := 696) (by decide +kernel))) (by decide +kernel)
set_option maxRecDepth 100000 in
theorem wd_697 : (Jvm.Cond.methodLink "HoleWater$Water" (135 : Nat) ({ cls := "HoleWater$Water", name := "sendGrains", desc := "(IIIILHoleWater$World;)V" } : Jvm.MethodName)) ∈ mh_T := mh_T_in (List.mem_append_right _ (List.mem_of_getElem? (i := 697) (by decide +kernel))) (by decide +kernel)
set_option maxRecDepth 100000 in
theorem wd_699 : (Jvm.Cond.instanceMethod ({ cls := "HoleWater$Water", name := "sendGrains", desc := "(IIIILHoleWater$World;)V" } : Jvm.MethodName)) ∈ mh_T := mh_T_in (List.mem_append_right _ (List.mem_of_getElem? (i := 699) (by decide +kernel))) (by decide +kernel)
set_option maxRecDepth 100000 in
theorem wd_700 : (Jvm.Cond.code ({ cls := "HoleWater$Water", name := "sendGrains", desc := "(IIIILHoleWater$World;)V" } : Jvm.MethodName) prog_10_method_12_code (10 : Nat) (Option.none : Option Jvm.ClassFile.FieldType)) ∈ mh_T := mh_T_in (List.mem_append_right _ (List.mem_of_getElem? (i := 700) (by decide +kernel))) (by decide +kernel)
set_option maxRecDepth 100000 in
theorem wd_701 : (Jvm.Cond.methodLink "HoleWater$Water" (139 : Nat) ({ cls := "HoleWater$Water", name := "part", desc := "(III)I" } : Jvm.MethodName)) ∈ mh_T := mh_T_in (List.mem_append_right _ (List.mem_of_getElem? (i := 701) (by decide +kernel))) (by decide +kernel)
set_option maxRecDepth 100000 in
theorem wd_702 : (Jvm.Cond.static ({ cls := "HoleWater$Water", name := "part", desc := "(III)I" } : Jvm.MethodName)) ∈ mh_T := mh_T_in (List.mem_append_right _ (List.mem_of_getElem? (i := 702) (by decide +kernel))) (by decide +kernel)
set_option maxRecDepth 100000 in
theorem wd_703 : (Jvm.Cond.code ({ cls := "HoleWater$Water", name := "part", desc := "(III)I" } : Jvm.MethodName) prog_10_method_14_code (3 : Nat) (Option.some Jvm.ClassFile.FieldType.int)) ∈ mh_T := mh_T_in (List.mem_append_right _ (List.mem_of_getElem? (i := 703) (by decide +kernel))) (by decide +kernel)
set_option maxRecDepth 100000 in
theorem wd_704 : (Jvm.Cond.methodLink "HoleWaterLaw" (59 : Nat) ({ cls := "HoleWater", name := "put", desc := "(III)I" } : Jvm.MethodName)) ∈ mh_T := mh_T_in (List.mem_append_right _ (List.mem_of_getElem? (i := 704) (by decide +kernel))) (by decide +kernel)
set_option maxRecDepth 100000 in
theorem wd_705 : (Jvm.Cond.instanceMethod ({ cls := "HoleWater", name := "put", desc := "(III)I" } : Jvm.MethodName)) ∈ mh_T := mh_T_in (List.mem_append_right _ (List.mem_of_getElem? (i := 705) (by decide +kernel))) (by decide +kernel)
set_option maxRecDepth 100000 in
theorem wd_706 : (Jvm.Cond.selects "HoleWater" ({ cls := "HoleWater", name := "put", desc := "(III)I" } : Jvm.MethodName) ({ cls := "HoleWater", name := "put", desc := "(III)I" } : Jvm.MethodName)) ∈ mh_T := mh_T_in (List.mem_append_right _ (List.mem_of_getElem? (i := 706) (by decide +kernel))) (by decide +kernel)
set_option maxRecDepth 100000 in
theorem wd_707 : (Jvm.Cond.code ({ cls := "HoleWater", name := "put", desc := "(III)I" } : Jvm.MethodName) prog_1_method_12_code (4 : Nat) (Option.some Jvm.ClassFile.FieldType.int)) ∈ mh_T := mh_T_in (List.mem_append_right _ (List.mem_of_getElem? (i := 707) (by decide +kernel))) (by decide +kernel)
set_option maxRecDepth 100000 in
theorem wd_708 : (Jvm.Cond.methodLink "HoleWater" (205 : Nat) ({ cls := "HoleWater$World", name := "putIn", desc := "(III)I" } : Jvm.MethodName)) ∈ mh_T := mh_T_in (List.mem_append_right _ (List.mem_of_getElem? (i := 708) (by decide +kernel))) (by decide +kernel)
set_option maxRecDepth 100000 in
theorem wd_709 : (Jvm.Cond.instanceMethod ({ cls := "HoleWater$World", name := "putIn", desc := "(III)I" } : Jvm.MethodName)) ∈ mh_T := mh_T_in (List.mem_append_right _ (List.mem_of_getElem? (i := 709) (by decide +kernel))) (by decide +kernel)
set_option maxRecDepth 100000 in
theorem wd_710 : (Jvm.Cond.selects "HoleWater$World" ({ cls := "HoleWater$World", name := "putIn", desc := "(III)I" } : Jvm.MethodName) ({ cls := "HoleWater$World", name := "putIn", desc := "(III)I" } : Jvm.MethodName)) ∈ mh_T := mh_T_in (List.mem_append_right _ (List.mem_of_getElem? (i := 710) (by decide +kernel))) (by decide +kernel)
set_option maxRecDepth 100000 in
theorem wd_711 : (Jvm.Cond.code ({ cls := "HoleWater$World", name := "putIn", desc := "(III)I" } : Jvm.MethodName) prog_12_method_10_code (4 : Nat) (Option.some Jvm.ClassFile.FieldType.int)) ∈ mh_T := mh_T_in (List.mem_append_right _ (List.mem_of_getElem? (i := 711) (by decide +kernel))) (by decide +kernel)
set_option maxRecDepth 100000 in
theorem wd_712 : (Jvm.Cond.methodLink "HoleWater$World" (105 : Nat) ({ cls := "HoleWater$Looks", name := "addPut", desc := "(IIII)I" } : Jvm.MethodName)) ∈ mh_T := mh_T_in (List.mem_append_right _ (List.mem_of_getElem? (i := 712) (by decide +kernel))) (by decide +kernel)
set_option maxRecDepth 100000 in
theorem wd_713 : (Jvm.Cond.instanceMethod ({ cls := "HoleWater$Looks", name := "addPut", desc := "(IIII)I" } : Jvm.MethodName)) ∈ mh_T := mh_T_in (List.mem_append_right _ (List.mem_of_getElem? (i := 713) (by decide +kernel))) (by decide +kernel)
set_option maxRecDepth 100000 in
theorem wd_714 : (Jvm.Cond.selects "HoleWater$Looks" ({ cls := "HoleWater$Looks", name := "addPut", desc := "(IIII)I" } : Jvm.MethodName) ({ cls := "HoleWater$Looks", name := "addPut", desc := "(IIII)I" } : Jvm.MethodName)) ∈ mh_T := mh_T_in (List.mem_append_right _ (List.mem_of_getElem? (i := 714) (by decide +kernel))) (by decide +kernel)
set_option maxRecDepth 100000 in
theorem wd_715 : (Jvm.Cond.code ({ cls := "HoleWater$Looks", name := "addPut", desc := "(IIII)I" } : Jvm.MethodName) prog_3_method_5_code (6 : Nat) (Option.some Jvm.ClassFile.FieldType.int)) ∈ mh_T := mh_T_in (List.mem_append_right _ (List.mem_of_getElem? (i := 715) (by decide +kernel))) (by decide +kernel)
set_option maxRecDepth 100000 in
theorem wd_716 : (Jvm.Cond.methodLink "HoleWaterLaw" (63 : Nat) ({ cls := "HoleWater", name := "putIs", desc := "(II)I" } : Jvm.MethodName)) ∈ mh_T := mh_T_in (List.mem_append_right _ (List.mem_of_getElem? (i := 716) (by decide +kernel))) (by decide +kernel)
set_option maxRecDepth 100000 in
theorem wd_717 : (Jvm.Cond.instanceMethod ({ cls := "HoleWater", name := "putIs", desc := "(II)I" } : Jvm.MethodName)) ∈ mh_T := mh_T_in (List.mem_append_right _ (List.mem_of_getElem? (i := 717) (by decide +kernel))) (by decide +kernel)
set_option maxRecDepth 100000 in
theorem wd_718 : (Jvm.Cond.selects "HoleWater" ({ cls := "HoleWater", name := "putIs", desc := "(II)I" } : Jvm.MethodName) ({ cls := "HoleWater", name := "putIs", desc := "(II)I" } : Jvm.MethodName)) ∈ mh_T := mh_T_in (List.mem_append_right _ (List.mem_of_getElem? (i := 718) (by decide +kernel))) (by decide +kernel)
set_option maxRecDepth 100000 in
theorem wd_719 : (Jvm.Cond.code ({ cls := "HoleWater", name := "putIs", desc := "(II)I" } : Jvm.MethodName) prog_1_method_13_code (3 : Nat) (Option.some Jvm.ClassFile.FieldType.int)) ∈ mh_T := mh_T_in (List.mem_append_right _ (List.mem_of_getElem? (i := 719) (by decide +kernel))) (by decide +kernel)
set_option maxRecDepth 100000 in
theorem wd_720 : (Jvm.Cond.methodLink "HoleWaterLaw" (67 : Nat) ({ cls := "HoleWater", name := "pours", desc := "(IIIII)I" } : Jvm.MethodName)) ∈ mh_T := mh_T_in (List.mem_append_right _ (List.mem_of_getElem? (i := 720) (by decide +kernel))) (by decide +kernel)
set_option maxRecDepth 100000 in
theorem wd_721 : (Jvm.Cond.instanceMethod ({ cls := "HoleWater", name := "pours", desc := "(IIIII)I" } : Jvm.MethodName)) ∈ mh_T := mh_T_in (List.mem_append_right _ (List.mem_of_getElem? (i := 721) (by decide +kernel))) (by decide +kernel)
set_option maxRecDepth 100000 in
theorem wd_722 : (Jvm.Cond.selects "HoleWater" ({ cls := "HoleWater", name := "pours", desc := "(IIIII)I" } : Jvm.MethodName) ({ cls := "HoleWater", name := "pours", desc := "(IIIII)I" } : Jvm.MethodName)) ∈ mh_T := mh_T_in (List.mem_append_right _ (List.mem_of_getElem? (i := 722) (by decide +kernel))) (by decide +kernel)
set_option maxRecDepth 100000 in
theorem wd_723 : (Jvm.Cond.code ({ cls := "HoleWater", name := "pours", desc := "(IIIII)I" } : Jvm.MethodName) prog_1_method_14_code (9 : Nat) (Option.some Jvm.ClassFile.FieldType.int)) ∈ mh_T := mh_T_in (List.mem_append_right _ (List.mem_of_getElem? (i := 723) (by decide +kernel))) (by decide +kernel)
set_option maxRecDepth 100000 in
theorem wd_724 : (Jvm.Cond.methodLink "HoleWater" (211 : Nat) ({ cls := "HoleWater", name := "isSheet", desc := "(I)Z" } : Jvm.MethodName)) ∈ mh_T := mh_T_in (List.mem_append_right _ (List.mem_of_getElem? (i := 724) (by decide +kernel))) (by decide +kernel)
set_option maxRecDepth 100000 in
theorem wd_725 : (Jvm.Cond.static ({ cls := "HoleWater", name := "isSheet", desc := "(I)Z" } : Jvm.MethodName)) ∈ mh_T := mh_T_in (List.mem_append_right _ (List.mem_of_getElem? (i := 725) (by decide +kernel))) (by decide +kernel)
set_option maxRecDepth 100000 in
theorem wd_726 : (Jvm.Cond.code ({ cls := "HoleWater", name := "isSheet", desc := "(I)Z" } : Jvm.MethodName) prog_1_method_50_code (1 : Nat) (Option.some Jvm.ClassFile.FieldType.boolean)) ∈ mh_T := mh_T_in (List.mem_append_right _ (List.mem_of_getElem? (i := 726) (by decide +kernel))) (by decide +kernel)
set_option maxRecDepth 100000 in
theorem wd_727 : (Jvm.Cond.methodLink "HoleWaterLaw" (72 : Nat) ({ cls := "HoleWater", name := "grains", desc := "(II)I" } : Jvm.MethodName)) ∈ mh_T := mh_T_in (List.mem_append_right _ (List.mem_of_getElem? (i := 727) (by decide +kernel))) (by decide +kernel)
set_option maxRecDepth 100000 in
theorem wd_728 : (Jvm.Cond.instanceMethod ({ cls := "HoleWater", name := "grains", desc := "(II)I" } : Jvm.MethodName)) ∈ mh_T := mh_T_in (List.mem_append_right _ (List.mem_of_getElem? (i := 728) (by decide +kernel))) (by decide +kernel)
set_option maxRecDepth 100000 in
theorem wd_729 : (Jvm.Cond.selects "HoleWater" ({ cls := "HoleWater", name := "grains", desc := "(II)I" } : Jvm.MethodName) ({ cls := "HoleWater", name := "grains", desc := "(II)I" } : Jvm.MethodName)) ∈ mh_T := mh_T_in (List.mem_append_right _ (List.mem_of_getElem? (i := 729) (by decide +kernel))) (by decide +kernel)
set_option maxRecDepth 100000 in
theorem wd_730 : (Jvm.Cond.code ({ cls := "HoleWater", name := "grains", desc := "(II)I" } : Jvm.MethodName) prog_1_method_15_code (3 : Nat) (Option.some Jvm.ClassFile.FieldType.int)) ∈ mh_T := mh_T_in (List.mem_append_right _ (List.mem_of_getElem? (i := 730) (by decide +kernel))) (by decide +kernel)
set_option maxRecDepth 100000 in
theorem wd_731 : (Jvm.Cond.methodLink "HoleWaterLaw" (76 : Nat) ({ cls := "HoleWater", name := "stuff", desc := "(II)I" } : Jvm.MethodName)) ∈ mh_T := mh_T_in (List.mem_append_right _ (List.mem_of_getElem? (i := 731) (by decide +kernel))) (by decide +kernel)
set_option maxRecDepth 100000 in
theorem wd_732 : (Jvm.Cond.instanceMethod ({ cls := "HoleWater", name := "stuff", desc := "(II)I" } : Jvm.MethodName)) ∈ mh_T := mh_T_in (List.mem_append_right _ (List.mem_of_getElem? (i := 732) (by decide +kernel))) (by decide +kernel)
set_option maxRecDepth 100000 in
theorem wd_733 : (Jvm.Cond.selects "HoleWater" ({ cls := "HoleWater", name := "stuff", desc := "(II)I" } : Jvm.MethodName) ({ cls := "HoleWater", name := "stuff", desc := "(II)I" } : Jvm.MethodName)) ∈ mh_T := mh_T_in (List.mem_append_right _ (List.mem_of_getElem? (i := 733) (by decide +kernel))) (by decide +kernel)
set_option maxRecDepth 100000 in
theorem wd_734 : (Jvm.Cond.code ({ cls := "HoleWater", name := "stuff", desc := "(II)I" } : Jvm.MethodName) prog_1_method_16_code (3 : Nat) (Option.some Jvm.ClassFile.FieldType.int)) ∈ mh_T := mh_T_in (List.mem_append_right _ (List.mem_of_getElem? (i := 734) (by decide +kernel))) (by decide +kernel)
set_option maxRecDepth 100000 in
theorem wd_735 : (Jvm.Cond.methodLink "HoleWater" (214 : Nat) ({ cls := "HoleWater$World", name := "allBelow", desc := "(I)I" } : Jvm.MethodName)) ∈ mh_T := mh_T_in (List.mem_append_right _ (List.mem_of_getElem? (i := 735) (by decide +kernel))) (by decide +kernel)
set_option maxRecDepth 100000 in
theorem wd_736 : (Jvm.Cond.instanceMethod ({ cls := "HoleWater$World", name := "allBelow", desc := "(I)I" } : Jvm.MethodName)) ∈ mh_T := mh_T_in (List.mem_append_right _ (List.mem_of_getElem? (i := 736) (by decide +kernel))) (by decide +kernel)
set_option maxRecDepth 100000 in
theorem wd_737 : (Jvm.Cond.selects "HoleWater$World" ({ cls := "HoleWater$World", name := "allBelow", desc := "(I)I" } : Jvm.MethodName) ({ cls := "HoleWater$World", name := "allBelow", desc := "(I)I" } : Jvm.MethodName)) ∈ mh_T := mh_T_in (List.mem_append_right _ (List.mem_of_getElem? (i := 737) (by decide +kernel))) (by decide +kernel)
set_option maxRecDepth 100000 in
theorem wd_738 : (Jvm.Cond.code ({ cls := "HoleWater$World", name := "allBelow", desc := "(I)I" } : Jvm.MethodName) prog_12_method_11_code (4 : Nat) (Option.some Jvm.ClassFile.FieldType.int)) ∈ mh_T := mh_T_in (List.mem_append_right _ (List.mem_of_getElem? (i := 738) (by decide +kernel))) (by decide +kernel)
set_option maxRecDepth 100000 in
theorem wd_739 : (Jvm.Cond.methodLink "HoleWater$World" (109 : Nat) ({ cls := "HoleWater$Water", name := "inWay", desc := "(II)I" } : Jvm.MethodName)) ∈ mh_T := mh_T_in (List.mem_append_right _ (List.mem_of_getElem? (i := 739) (by decide +kernel))) (by decide +kernel)
set_option maxRecDepth 100000 in
theorem wd_740 : (Jvm.Cond.methodLink "HoleWaterLaw" (80 : Nat) ({ cls := "HoleWater", name := "out", desc := "(III)I" } : Jvm.MethodName)) ∈ mh_T := mh_T_in (List.mem_append_right _ (List.mem_of_getElem? (i := 740) (by decide +kernel))) (by decide +kernel)
set_option maxRecDepth 100000 in
theorem wd_741 : (Jvm.Cond.instanceMethod ({ cls := "HoleWater", name := "out", desc := "(III)I" } : Jvm.MethodName)) ∈ mh_T := mh_T_in (List.mem_append_right _ (List.mem_of_getElem? (i := 741) (by decide +kernel))) (by decide +kernel)
set_option maxRecDepth 100000 in
theorem wd_742 : (Jvm.Cond.selects "HoleWater" ({ cls := "HoleWater", name := "out", desc := "(III)I" } : Jvm.MethodName) ({ cls := "HoleWater", name := "out", desc := "(III)I" } : Jvm.MethodName)) ∈ mh_T := mh_T_in (List.mem_append_right _ (List.mem_of_getElem? (i := 742) (by decide +kernel))) (by decide +kernel)
set_option maxRecDepth 100000 in
theorem wd_743 : (Jvm.Cond.code ({ cls := "HoleWater", name := "out", desc := "(III)I" } : Jvm.MethodName) prog_1_method_17_code (4 : Nat) (Option.some Jvm.ClassFile.FieldType.int)) ∈ mh_T := mh_T_in (List.mem_append_right _ (List.mem_of_getElem? (i := 743) (by decide +kernel))) (by decide +kernel)
set_option maxRecDepth 100000 in
theorem wd_744 : (Jvm.Cond.methodLink "HoleWater" (220 : Nat) ({ cls := "HoleWater$Water", name := "cameOut", desc := "(III)I" } : Jvm.MethodName)) ∈ mh_T := mh_T_in (List.mem_append_right _ (List.mem_of_getElem? (i := 744) (by decide +kernel))) (by decide +kernel)
set_option maxRecDepth 100000 in
theorem wd_745 : (Jvm.Cond.instanceMethod ({ cls := "HoleWater$Water", name := "cameOut", desc := "(III)I" } : Jvm.MethodName)) ∈ mh_T := mh_T_in (List.mem_append_right _ (List.mem_of_getElem? (i := 745) (by decide +kernel))) (by decide +kernel)
set_option maxRecDepth 100000 in
theorem wd_746 : (Jvm.Cond.selects "HoleWater$Water" ({ cls := "HoleWater$Water", name := "cameOut", desc := "(III)I" } : Jvm.MethodName) ({ cls := "HoleWater$Water", name := "cameOut", desc := "(III)I" } : Jvm.MethodName)) ∈ mh_T := mh_T_in (List.mem_append_right _ (List.mem_of_getElem? (i := 746) (by decide +kernel))) (by decide +kernel)
set_option maxRecDepth 100000 in
theorem wd_747 : (Jvm.Cond.code ({ cls := "HoleWater$Water", name := "cameOut", desc := "(III)I" } : Jvm.MethodName) prog_10_method_5_code (5 : Nat) (Option.some Jvm.ClassFile.FieldType.int)) ∈ mh_T := mh_T_in (List.mem_append_right _ (List.mem_of_getElem? (i := 747) (by decide +kernel))) (by decide +kernel)
set_option maxRecDepth 100000 in
theorem wd_748 : (Jvm.Cond.methodLink "HoleWaterLaw" (84 : Nat) ({ cls := "HoleWater", name := "spill", desc := "(IIII)I" } : Jvm.MethodName)) ∈ mh_T := mh_T_in (List.mem_append_right _ (List.mem_of_getElem? (i := 748) (by decide +kernel))) (by decide +kernel)
set_option maxRecDepth 100000 in
theorem wd_749 : (Jvm.Cond.instanceMethod ({ cls := "HoleWater", name := "spill", desc := "(IIII)I" } : Jvm.MethodName)) ∈ mh_T := mh_T_in (List.mem_append_right _ (List.mem_of_getElem? (i := 749) (by decide +kernel))) (by decide +kernel)
set_option maxRecDepth 100000 in
theorem wd_750 : (Jvm.Cond.selects "HoleWater" ({ cls := "HoleWater", name := "spill", desc := "(IIII)I" } : Jvm.MethodName) ({ cls := "HoleWater", name := "spill", desc := "(IIII)I" } : Jvm.MethodName)) ∈ mh_T := mh_T_in (List.mem_append_right _ (List.mem_of_getElem? (i := 750) (by decide +kernel))) (by decide +kernel)
set_option maxRecDepth 100000 in
theorem wd_751 : (Jvm.Cond.code ({ cls := "HoleWater", name := "spill", desc := "(IIII)I" } : Jvm.MethodName) prog_1_method_18_code (8 : Nat) (Option.some Jvm.ClassFile.FieldType.int)) ∈ mh_T := mh_T_in (List.mem_append_right _ (List.mem_of_getElem? (i := 751) (by decide +kernel))) (by decide +kernel)
set_option maxRecDepth 100000 in
theorem wd_752 : (Jvm.Cond.methodLink "HoleWater" (223 : Nat) ({ cls := "HoleWater", name := "spillError", desc := "(III)I" } : Jvm.MethodName)) ∈ mh_T := mh_T_in (List.mem_append_right _ (List.mem_of_getElem? (i := 752) (by decide +kernel))) (by decide +kernel)
set_option maxRecDepth 100000 in
theorem wd_754 : (Jvm.Cond.instanceMethod ({ cls := "HoleWater", name := "spillError", desc := "(III)I" } : Jvm.MethodName)) ∈ mh_T := mh_T_in (List.mem_append_right _ (List.mem_of_getElem? (i := 754) (by decide +kernel))) (by decide +kernel)
set_option maxRecDepth 100000 in
theorem wd_755 : (Jvm.Cond.code ({ cls := "HoleWater", name := "spillError", desc := "(III)I" } : Jvm.MethodName) prog_1_method_58_code (4 : Nat) (Option.some Jvm.ClassFile.FieldType.int)) ∈ mh_T := mh_T_in (List.mem_append_right _ (List.mem_of_getElem? (i := 755) (by decide +kernel))) (by decide +kernel)
set_option maxRecDepth 100000 in
theorem wd_756 : (Jvm.Cond.methodLink "HoleWater" (226 : Nat) ({ cls := "HoleWater$Water", name := "startSpill", desc := "(LHoleWater$Water;II)V" } : Jvm.MethodName)) ∈ mh_T := mh_T_in (List.mem_append_right _ (List.mem_of_getElem? (i := 756) (by decide +kernel))) (by decide +kernel)
set_option maxRecDepth 100000 in
theorem wd_757 : (Jvm.Cond.instanceMethod ({ cls := "HoleWater$Water", name := "startSpill", desc := "(LHoleWater$Water;II)V" } : Jvm.MethodName)) ∈ mh_T := mh_T_in (List.mem_append_right _ (List.mem_of_getElem? (i := 757) (by decide +kernel))) (by decide +kernel)
set_option maxRecDepth 100000 in
theorem wd_758 : (Jvm.Cond.selects "HoleWater$Water" ({ cls := "HoleWater$Water", name := "startSpill", desc := "(LHoleWater$Water;II)V" } : Jvm.MethodName) ({ cls := "HoleWater$Water", name := "startSpill", desc := "(LHoleWater$Water;II)V" } : Jvm.MethodName)) ∈ mh_T := mh_T_in (List.mem_append_right _ (List.mem_of_getElem? (i := 758) (by decide +kernel))) (by decide +kernel)
set_option maxRecDepth 100000 in
theorem wd_759 : (Jvm.Cond.code ({ cls := "HoleWater$Water", name := "startSpill", desc := "(LHoleWater$Water;II)V" } : Jvm.MethodName) prog_10_method_3_code (6 : Nat) (Option.none : Option Jvm.ClassFile.FieldType)) ∈ mh_T := mh_T_in (List.mem_append_right _ (List.mem_of_getElem? (i := 759) (by decide +kernel))) (by decide +kernel)
set_option maxRecDepth 100000 in
theorem wd_760 : (Jvm.Cond.methodLink "HoleWater$Water" (56 : Nat) ({ cls := "HoleWater$Water", name := "copyOf", desc := "(LHoleWater$Water;)V" } : Jvm.MethodName)) ∈ mh_T := mh_T_in (List.mem_append_right _ (List.mem_of_getElem? (i := 760) (by decide +kernel))) (by decide +kernel)
set_option maxRecDepth 100000 in
theorem wd_761 : (Jvm.Cond.instanceMethod ({ cls := "HoleWater$Water", name := "copyOf", desc := "(LHoleWater$Water;)V" } : Jvm.MethodName)) ∈ mh_T := mh_T_in (List.mem_append_right _ (List.mem_of_getElem? (i := 761) (by decide +kernel))) (by decide +kernel)
set_option maxRecDepth 100000 in
theorem wd_762 : (Jvm.Cond.selects "HoleWater$Water" ({ cls := "HoleWater$Water", name := "copyOf", desc := "(LHoleWater$Water;)V" } : Jvm.MethodName) ({ cls := "HoleWater$Water", name := "copyOf", desc := "(LHoleWater$Water;)V" } : Jvm.MethodName)) ∈ mh_T := mh_T_in (List.mem_append_right _ (List.mem_of_getElem? (i := 762) (by decide +kernel))) (by decide +kernel)
set_option maxRecDepth 100000 in
theorem wd_763 : (Jvm.Cond.code ({ cls := "HoleWater$Water", name := "copyOf", desc := "(LHoleWater$Water;)V" } : Jvm.MethodName) prog_10_method_2_code (2 : Nat) (Option.none : Option Jvm.ClassFile.FieldType)) ∈ mh_T := mh_T_in (List.mem_append_right _ (List.mem_of_getElem? (i := 763) (by decide +kernel))) (by decide +kernel)
set_option maxRecDepth 100000 in
theorem wd_764 : (Jvm.Cond.methodLink "HoleWater$Water" (50 : Nat) ({ cls := "java/lang/System", name := "arraycopy", desc := "(Ljava/lang/Object;ILjava/lang/Object;II)V" } : Jvm.MethodName)) ∈ mh_T := mh_T_in (List.mem_append_right _ (List.mem_of_getElem? (i := 764) (by decide +kernel))) (by decide +kernel)
set_option maxRecDepth 100000 in
theorem wd_765 : (Jvm.Cond.static ({ cls := "java/lang/System", name := "arraycopy", desc := "(Ljava/lang/Object;ILjava/lang/Object;II)V" } : Jvm.MethodName)) ∈ mh_T := mh_T_in (List.mem_append_right _ (List.mem_of_getElem? (i := 765) (by decide +kernel))) (by decide +kernel)
set_option maxRecDepth 100000 in
theorem wd_766 : (Jvm.Cond.native ({ cls := "java/lang/System", name := "arraycopy", desc := "(Ljava/lang/Object;ILjava/lang/Object;II)V" } : Jvm.MethodName)) ∈ mh_T := mh_T_in (List.mem_append_right _ (List.mem_of_getElem? (i := 766) (by decide +kernel))) (by decide +kernel)
set_option maxRecDepth 100000 in
theorem wd_767 : (Jvm.Cond.methodLink "HoleWaterLaw" (88 : Nat) ({ cls := "HoleWater", name := "first", desc := "(III)I" } : Jvm.MethodName)) ∈ mh_T := mh_T_in (List.mem_append_right _ (List.mem_of_getElem? (i := 767) (by decide +kernel))) (by decide +kernel)
set_option maxRecDepth 100000 in
theorem wd_768 : (Jvm.Cond.instanceMethod ({ cls := "HoleWater", name := "first", desc := "(III)I" } : Jvm.MethodName)) ∈ mh_T := mh_T_in (List.mem_append_right _ (List.mem_of_getElem? (i := 768) (by decide +kernel))) (by decide +kernel)
set_option maxRecDepth 100000 in
theorem wd_769 : (Jvm.Cond.selects "HoleWater" ({ cls := "HoleWater", name := "first", desc := "(III)I" } : Jvm.MethodName) ({ cls := "HoleWater", name := "first", desc := "(III)I" } : Jvm.MethodName)) ∈ mh_T := mh_T_in (List.mem_append_right _ (List.mem_of_getElem? (i := 769) (by decide +kernel))) (by decide +kernel)
set_option maxRecDepth 100000 in
theorem wd_770 : (Jvm.Cond.code ({ cls := "HoleWater", name := "first", desc := "(III)I" } : Jvm.MethodName) prog_1_method_19_code (6 : Nat) (Option.some Jvm.ClassFile.FieldType.int)) ∈ mh_T := mh_T_in (List.mem_append_right _ (List.mem_of_getElem? (i := 770) (by decide +kernel))) (by decide +kernel)
set_option maxRecDepth 100000 in
theorem wd_771 : (Jvm.Cond.methodLink "HoleWaterLaw" (94 : Nat) ({ cls := "HoleWater", name := "feed", desc := "(JI)I" } : Jvm.MethodName)) ∈ mh_T := mh_T_in (List.mem_append_right _ (List.mem_of_getElem? (i := 771) (by decide +kernel))) (by decide +kernel)
set_option maxRecDepth 100000 in
theorem wd_772 : (Jvm.Cond.instanceMethod ({ cls := "HoleWater", name := "feed", desc := "(JI)I" } : Jvm.MethodName)) ∈ mh_T := mh_T_in (List.mem_append_right _ (List.mem_of_getElem? (i := 772) (by decide +kernel))) (by decide +kernel)
set_option maxRecDepth 100000 in
theorem wd_773 : (Jvm.Cond.selects "HoleWater" ({ cls := "HoleWater", name := "feed", desc := "(JI)I" } : Jvm.MethodName) ({ cls := "HoleWater", name := "feed", desc := "(JI)I" } : Jvm.MethodName)) ∈ mh_T := mh_T_in (List.mem_append_right _ (List.mem_of_getElem? (i := 773) (by decide +kernel))) (by decide +kernel)
set_option maxRecDepth 100000 in
theorem wd_774 : (Jvm.Cond.code ({ cls := "HoleWater", name := "feed", desc := "(JI)I" } : Jvm.MethodName) prog_1_method_20_code (5 : Nat) (Option.some Jvm.ClassFile.FieldType.int)) ∈ mh_T := mh_T_in (List.mem_append_right _ (List.mem_of_getElem? (i := 774) (by decide +kernel))) (by decide +kernel)
set_option maxRecDepth 100000 in
theorem wd_775 : (Jvm.Cond.methodLink "HoleWater" (236 : Nat) ({ cls := "HoleWater$Row", name := "add", desc := "(I)Z" } : Jvm.MethodName)) ∈ mh_T := mh_T_in (List.mem_append_right _ (List.mem_of_getElem? (i := 775) (by decide +kernel))) (by decide +kernel)
set_option maxRecDepth 100000 in
theorem wd_776 : (Jvm.Cond.instanceMethod ({ cls := "HoleWater$Row", name := "add", desc := "(I)Z" } : Jvm.MethodName)) ∈ mh_T := mh_T_in (List.mem_append_right _ (List.mem_of_getElem? (i := 776) (by decide +kernel))) (by decide +kernel)
set_option maxRecDepth 100000 in
theorem wd_777 : (Jvm.Cond.selects "HoleWater$Row" ({ cls := "HoleWater$Row", name := "add", desc := "(I)Z" } : Jvm.MethodName) ({ cls := "HoleWater$Row", name := "add", desc := "(I)Z" } : Jvm.MethodName)) ∈ mh_T := mh_T_in (List.mem_append_right _ (List.mem_of_getElem? (i := 777) (by decide +kernel))) (by decide +kernel)
set_option maxRecDepth 100000 in
theorem wd_778 : (Jvm.Cond.code ({ cls := "HoleWater$Row", name := "add", desc := "(I)Z" } : Jvm.MethodName) prog_8_method_2_code (2 : Nat) (Option.some Jvm.ClassFile.FieldType.boolean)) ∈ mh_T := mh_T_in (List.mem_append_right _ (List.mem_of_getElem? (i := 778) (by decide +kernel))) (by decide +kernel)
set_option maxRecDepth 100000 in
theorem wd_779 : (Jvm.Cond.methodLink "HoleWaterLaw" (99 : Nat) ({ cls := "HoleWater", name := "text", desc := "(I)I" } : Jvm.MethodName)) ∈ mh_T := mh_T_in (List.mem_append_right _ (List.mem_of_getElem? (i := 779) (by decide +kernel))) (by decide +kernel)
set_option maxRecDepth 100000 in
theorem wd_780 : (Jvm.Cond.instanceMethod ({ cls := "HoleWater", name := "text", desc := "(I)I" } : Jvm.MethodName)) ∈ mh_T := mh_T_in (List.mem_append_right _ (List.mem_of_getElem? (i := 780) (by decide +kernel))) (by decide +kernel)
set_option maxRecDepth 100000 in
theorem wd_781 : (Jvm.Cond.selects "HoleWater" ({ cls := "HoleWater", name := "text", desc := "(I)I" } : Jvm.MethodName) ({ cls := "HoleWater", name := "text", desc := "(I)I" } : Jvm.MethodName)) ∈ mh_T := mh_T_in (List.mem_append_right _ (List.mem_of_getElem? (i := 781) (by decide +kernel))) (by decide +kernel)
set_option maxRecDepth 100000 in
theorem wd_782 : (Jvm.Cond.code ({ cls := "HoleWater", name := "text", desc := "(I)I" } : Jvm.MethodName) prog_1_method_21_code (4 : Nat) (Option.some Jvm.ClassFile.FieldType.int)) ∈ mh_T := mh_T_in (List.mem_append_right _ (List.mem_of_getElem? (i := 782) (by decide +kernel))) (by decide +kernel)
set_option maxRecDepth 100000 in
theorem wd_785 : (Jvm.Cond.methodLink "HoleWater" (243 : Nat) ({ cls := "HoleWater$Reader", name := "casesOf", desc := "(LHoleWater$Row;Ljava/lang/String;)I" } : Jvm.MethodName)) ∈ mh_T := mh_T_in (List.mem_append_right _ (List.mem_of_getElem? (i := 785) (by decide +kernel))) (by decide +kernel)
set_option maxRecDepth 100000 in
theorem wd_786 : (Jvm.Cond.instanceMethod ({ cls := "HoleWater$Reader", name := "casesOf", desc := "(LHoleWater$Row;Ljava/lang/String;)I" } : Jvm.MethodName)) ∈ mh_T := mh_T_in (List.mem_append_right _ (List.mem_of_getElem? (i := 786) (by decide +kernel))) (by decide +kernel)
set_option maxRecDepth 100000 in
theorem wd_787 : (Jvm.Cond.selects "HoleWater$Reader" ({ cls := "HoleWater$Reader", name := "casesOf", desc := "(LHoleWater$Row;Ljava/lang/String;)I" } : Jvm.MethodName) ({ cls := "HoleWater$Reader", name := "casesOf", desc := "(LHoleWater$Row;Ljava/lang/String;)I" } : Jvm.MethodName)) ∈ mh_T := mh_T_in (List.mem_append_right _ (List.mem_of_getElem? (i := 787) (by decide +kernel))) (by decide +kernel)
set_option maxRecDepth 100000 in
theorem wd_788 : (Jvm.Cond.code ({ cls := "HoleWater$Reader", name := "casesOf", desc := "(LHoleWater$Row;Ljava/lang/String;)I" } : Jvm.MethodName) prog_7_method_2_code (4 : Nat) (Option.some Jvm.ClassFile.FieldType.int)) ∈ mh_T := mh_T_in (List.mem_append_right _ (List.mem_of_getElem? (i := 788) (by decide +kernel))) (by decide +kernel)
set_option maxRecDepth 100000 in
theorem wd_789 : (Jvm.Cond.methodLink "HoleWater" (253 : Nat) ({ cls := "HoleWater$Row", name := "copyOf", desc := "(LHoleWater$Row;)V" } : Jvm.MethodName)) ∈ mh_T := mh_T_in (List.mem_append_right _ (List.mem_of_getElem? (i := 789) (by decide +kernel))) (by decide +kernel)
set_option maxRecDepth 100000 in
theorem wd_790 : (Jvm.Cond.instanceMethod ({ cls := "HoleWater$Row", name := "copyOf", desc := "(LHoleWater$Row;)V" } : Jvm.MethodName)) ∈ mh_T := mh_T_in (List.mem_append_right _ (List.mem_of_getElem? (i := 790) (by decide +kernel))) (by decide +kernel)
set_option maxRecDepth 100000 in
theorem wd_791 : (Jvm.Cond.selects "HoleWater$Row" ({ cls := "HoleWater$Row", name := "copyOf", desc := "(LHoleWater$Row;)V" } : Jvm.MethodName) ({ cls := "HoleWater$Row", name := "copyOf", desc := "(LHoleWater$Row;)V" } : Jvm.MethodName)) ∈ mh_T := mh_T_in (List.mem_append_right _ (List.mem_of_getElem? (i := 791) (by decide +kernel))) (by decide +kernel)
set_option maxRecDepth 100000 in
theorem wd_792 : (Jvm.Cond.code ({ cls := "HoleWater$Row", name := "copyOf", desc := "(LHoleWater$Row;)V" } : Jvm.MethodName) prog_8_method_4_code (2 : Nat) (Option.none : Option Jvm.ClassFile.FieldType)) ∈ mh_T := mh_T_in (List.mem_append_right _ (List.mem_of_getElem? (i := 792) (by decide +kernel))) (by decide +kernel)
set_option maxRecDepth 100000 in
theorem wd_793 : (Jvm.Cond.methodLink "HoleWater$Row" (23 : Nat) ({ cls := "java/lang/Math", name := "min", desc := "(II)I" } : Jvm.MethodName)) ∈ mh_T := mh_T_in (List.mem_append_right _ (List.mem_of_getElem? (i := 793) (by decide +kernel))) (by decide +kernel)
set_option maxRecDepth 100000 in
theorem wd_794 : (Jvm.Cond.methodLink "HoleWater$Row" (26 : Nat) ({ cls := "java/lang/System", name := "arraycopy", desc := "(Ljava/lang/Object;ILjava/lang/Object;II)V" } : Jvm.MethodName)) ∈ mh_T := mh_T_in (List.mem_append_right _ (List.mem_of_getElem? (i := 794) (by decide +kernel))) (by decide +kernel)
set_option maxRecDepth 100000 in
theorem wd_795 : (Jvm.Cond.methodLink "HoleWaterLaw" (103 : Nat) ({ cls := "HoleWater", name := "rain", desc := "(I)I" } : Jvm.MethodName)) ∈ mh_T := mh_T_in (List.mem_append_right _ (List.mem_of_getElem? (i := 795) (by decide +kernel))) (by decide +kernel)
set_option maxRecDepth 100000 in
theorem wd_796 : (Jvm.Cond.instanceMethod ({ cls := "HoleWater", name := "rain", desc := "(I)I" } : Jvm.MethodName)) ∈ mh_T := mh_T_in (List.mem_append_right _ (List.mem_of_getElem? (i := 796) (by decide +kernel))) (by decide +kernel)
set_option maxRecDepth 100000 in
theorem wd_797 : (Jvm.Cond.selects "HoleWater" ({ cls := "HoleWater", name := "rain", desc := "(I)I" } : Jvm.MethodName) ({ cls := "HoleWater", name := "rain", desc := "(I)I" } : Jvm.MethodName)) ∈ mh_T := mh_T_in (List.mem_append_right _ (List.mem_of_getElem? (i := 797) (by decide +kernel))) (by decide +kernel)
set_option maxRecDepth 100000 in
theorem wd_798 : (Jvm.Cond.code ({ cls := "HoleWater", name := "rain", desc := "(I)I" } : Jvm.MethodName) prog_1_method_22_code (2 : Nat) (Option.some Jvm.ClassFile.FieldType.int)) ∈ mh_T := mh_T_in (List.mem_append_right _ (List.mem_of_getElem? (i := 798) (by decide +kernel))) (by decide +kernel)
set_option maxRecDepth 100000 in
theorem wd_799 : (Jvm.Cond.methodLink "HoleWater" (257 : Nat) ({ cls := "HoleWater$World", name := "rainOn", desc := "(ILHoleWater$Water;LHoleWater$Reader;)I" } : Jvm.MethodName)) ∈ mh_T := mh_T_in (List.mem_append_right _ (List.mem_of_getElem? (i := 799) (by decide +kernel))) (by decide +kernel)
set_option maxRecDepth 100000 in
theorem wd_800 : (Jvm.Cond.methodLink "HoleWaterLaw" (107 : Nat) ({ cls := "HoleWater", name := "seen", desc := "(III)I" } : Jvm.MethodName)) ∈ mh_T := mh_T_in (List.mem_append_right _ (List.mem_of_getElem? (i := 800) (by decide +kernel))) (by decide +kernel)
set_option maxRecDepth 100000 in
theorem wd_801 : (Jvm.Cond.instanceMethod ({ cls := "HoleWater", name := "seen", desc := "(III)I" } : Jvm.MethodName)) ∈ mh_T := mh_T_in (List.mem_append_right _ (List.mem_of_getElem? (i := 801) (by decide +kernel))) (by decide +kernel)
set_option maxRecDepth 100000 in
theorem wd_802 : (Jvm.Cond.selects "HoleWater" ({ cls := "HoleWater", name := "seen", desc := "(III)I" } : Jvm.MethodName) ({ cls := "HoleWater", name := "seen", desc := "(III)I" } : Jvm.MethodName)) ∈ mh_T := mh_T_in (List.mem_append_right _ (List.mem_of_getElem? (i := 802) (by decide +kernel))) (by decide +kernel)
set_option maxRecDepth 100000 in
theorem wd_803 : (Jvm.Cond.code ({ cls := "HoleWater", name := "seen", desc := "(III)I" } : Jvm.MethodName) prog_1_method_23_code (4 : Nat) (Option.some Jvm.ClassFile.FieldType.int)) ∈ mh_T := mh_T_in (List.mem_append_right _ (List.mem_of_getElem? (i := 803) (by decide +kernel))) (by decide +kernel)
set_option maxRecDepth 100000 in
theorem wd_804 : (Jvm.Cond.methodLink "HoleWater" (261 : Nat) ({ cls := "HoleWater$World", name := "seenAt", desc := "(IIILHoleWater$Reader;)I" } : Jvm.MethodName)) ∈ mh_T := mh_T_in (List.mem_append_right _ (List.mem_of_getElem? (i := 804) (by decide +kernel))) (by decide +kernel)
set_option maxRecDepth 100000 in
theorem wd_805 : (Jvm.Cond.instanceMethod ({ cls := "HoleWater$World", name := "seenAt", desc := "(IIILHoleWater$Reader;)I" } : Jvm.MethodName)) ∈ mh_T := mh_T_in (List.mem_append_right _ (List.mem_of_getElem? (i := 805) (by decide +kernel))) (by decide +kernel)
set_option maxRecDepth 100000 in
theorem wd_806 : (Jvm.Cond.selects "HoleWater$World" ({ cls := "HoleWater$World", name := "seenAt", desc := "(IIILHoleWater$Reader;)I" } : Jvm.MethodName) ({ cls := "HoleWater$World", name := "seenAt", desc := "(IIILHoleWater$Reader;)I" } : Jvm.MethodName)) ∈ mh_T := mh_T_in (List.mem_append_right _ (List.mem_of_getElem? (i := 806) (by decide +kernel))) (by decide +kernel)
set_option maxRecDepth 100000 in
theorem wd_807 : (Jvm.Cond.code ({ cls := "HoleWater$World", name := "seenAt", desc := "(IIILHoleWater$Reader;)I" } : Jvm.MethodName) prog_12_method_13_code (5 : Nat) (Option.some Jvm.ClassFile.FieldType.int)) ∈ mh_T := mh_T_in (List.mem_append_right _ (List.mem_of_getElem? (i := 807) (by decide +kernel))) (by decide +kernel)
set_option maxRecDepth 100000 in
theorem wd_809 : (Jvm.Cond.methodLink "HoleWaterLaw" (111 : Nat) ({ cls := "HoleWater", name := "bottle", desc := "(II)I" } : Jvm.MethodName)) ∈ mh_T := mh_T_in (List.mem_append_right _ (List.mem_of_getElem? (i := 809) (by decide +kernel))) (by decide +kernel)
set_option maxRecDepth 100000 in
theorem wd_810 : (Jvm.Cond.instanceMethod ({ cls := "HoleWater", name := "bottle", desc := "(II)I" } : Jvm.MethodName)) ∈ mh_T := mh_T_in (List.mem_append_right _ (List.mem_of_getElem? (i := 810) (by decide +kernel))) (by decide +kernel)
set_option maxRecDepth 100000 in
theorem wd_811 : (Jvm.Cond.selects "HoleWater" ({ cls := "HoleWater", name := "bottle", desc := "(II)I" } : Jvm.MethodName) ({ cls := "HoleWater", name := "bottle", desc := "(II)I" } : Jvm.MethodName)) ∈ mh_T := mh_T_in (List.mem_append_right _ (List.mem_of_getElem? (i := 811) (by decide +kernel))) (by decide +kernel)
set_option maxRecDepth 100000 in
theorem wd_812 : (Jvm.Cond.code ({ cls := "HoleWater", name := "bottle", desc := "(II)I" } : Jvm.MethodName) prog_1_method_24_code (5 : Nat) (Option.some Jvm.ClassFile.FieldType.int)) ∈ mh_T := mh_T_in (List.mem_append_right _ (List.mem_of_getElem? (i := 812) (by decide +kernel))) (by decide +kernel)
set_option maxRecDepth 100000 in
theorem wd_813 : (Jvm.Cond.methodLink "HoleWater" (265 : Nat) ({ cls := "HoleWater", name := "lookError", desc := "(II)I" } : Jvm.MethodName)) ∈ mh_T := mh_T_in (List.mem_append_right _ (List.mem_of_getElem? (i := 813) (by decide +kernel))) (by decide +kernel)
set_option maxRecDepth 100000 in
theorem wd_815 : (Jvm.Cond.instanceMethod ({ cls := "HoleWater", name := "lookError", desc := "(II)I" } : Jvm.MethodName)) ∈ mh_T := mh_T_in (List.mem_append_right _ (List.mem_of_getElem? (i := 815) (by decide +kernel))) (by decide +kernel)
set_option maxRecDepth 100000 in
theorem wd_816 : (Jvm.Cond.code ({ cls := "HoleWater", name := "lookError", desc := "(II)I" } : Jvm.MethodName) prog_1_method_59_code (3 : Nat) (Option.some Jvm.ClassFile.FieldType.int)) ∈ mh_T := mh_T_in (List.mem_append_right _ (List.mem_of_getElem? (i := 816) (by decide +kernel))) (by decide +kernel)
set_option maxRecDepth 100000 in
theorem wd_817 : (Jvm.Cond.methodLink "HoleWater" (268 : Nat) ({ cls := "HoleWater", name := "lookSees", desc := "(IIII)Z" } : Jvm.MethodName)) ∈ mh_T := mh_T_in (List.mem_append_right _ (List.mem_of_getElem? (i := 817) (by decide +kernel))) (by decide +kernel)
set_option maxRecDepth 100000 in
theorem wd_819 : (Jvm.Cond.instanceMethod ({ cls := "HoleWater", name := "lookSees", desc := "(IIII)Z" } : Jvm.MethodName)) ∈ mh_T := mh_T_in (List.mem_append_right _ (List.mem_of_getElem? (i := 819) (by decide +kernel))) (by decide +kernel)
set_option maxRecDepth 100000 in
theorem wd_820 : (Jvm.Cond.code ({ cls := "HoleWater", name := "lookSees", desc := "(IIII)Z" } : Jvm.MethodName) prog_1_method_61_code (6 : Nat) (Option.some Jvm.ClassFile.FieldType.boolean)) ∈ mh_T := mh_T_in (List.mem_append_right _ (List.mem_of_getElem? (i := 820) (by decide +kernel))) (by decide +kernel)
set_option maxRecDepth 100000 in
theorem wd_821 : (Jvm.Cond.methodLink "HoleWater" (395 : Nat) ({ cls := "HoleWater$Looks", name := "addLook", desc := "(IIIIZLHoleWater$Water;)V" } : Jvm.MethodName)) ∈ mh_T := mh_T_in (List.mem_append_right _ (List.mem_of_getElem? (i := 821) (by decide +kernel))) (by decide +kernel)
set_option maxRecDepth 100000 in
theorem wd_822 : (Jvm.Cond.instanceMethod ({ cls := "HoleWater$Looks", name := "addLook", desc := "(IIIIZLHoleWater$Water;)V" } : Jvm.MethodName)) ∈ mh_T := mh_T_in (List.mem_append_right _ (List.mem_of_getElem? (i := 822) (by decide +kernel))) (by decide +kernel)
set_option maxRecDepth 100000 in
theorem wd_823 : (Jvm.Cond.selects "HoleWater$Looks" ({ cls := "HoleWater$Looks", name := "addLook", desc := "(IIIIZLHoleWater$Water;)V" } : Jvm.MethodName) ({ cls := "HoleWater$Looks", name := "addLook", desc := "(IIIIZLHoleWater$Water;)V" } : Jvm.MethodName)) ∈ mh_T := mh_T_in (List.mem_append_right _ (List.mem_of_getElem? (i := 823) (by decide +kernel))) (by decide +kernel)
set_option maxRecDepth 100000 in
theorem wd_824 : (Jvm.Cond.code ({ cls := "HoleWater$Looks", name := "addLook", desc := "(IIIIZLHoleWater$Water;)V" } : Jvm.MethodName) prog_3_method_6_code (8 : Nat) (Option.none : Option Jvm.ClassFile.FieldType)) ∈ mh_T := mh_T_in (List.mem_append_right _ (List.mem_of_getElem? (i := 824) (by decide +kernel))) (by decide +kernel)
set_option maxRecDepth 100000 in
theorem wd_825 : (Jvm.Cond.methodLink "HoleWater$Looks" (52 : Nat) ({ cls := "HoleWater$Looks", name := "holesOf", desc := "(I)I" } : Jvm.MethodName)) ∈ mh_T := mh_T_in (List.mem_append_right _ (List.mem_of_getElem? (i := 825) (by decide +kernel))) (by decide +kernel)
set_option maxRecDepth 100000 in
theorem wd_827 : (Jvm.Cond.instanceMethod ({ cls := "HoleWater$Looks", name := "holesOf", desc := "(I)I" } : Jvm.MethodName)) ∈ mh_T := mh_T_in (List.mem_append_right _ (List.mem_of_getElem? (i := 827) (by decide +kernel))) (by decide +kernel)
set_option maxRecDepth 100000 in
theorem wd_828 : (Jvm.Cond.code ({ cls := "HoleWater$Looks", name := "holesOf", desc := "(I)I" } : Jvm.MethodName) prog_3_method_7_code (4 : Nat) (Option.some Jvm.ClassFile.FieldType.int)) ∈ mh_T := mh_T_in (List.mem_append_right _ (List.mem_of_getElem? (i := 828) (by decide +kernel))) (by decide +kernel)
set_option maxRecDepth 100000 in
theorem wd_829 : (Jvm.Cond.methodLink "HoleWater$Looks" (56 : Nat) ({ cls := "HoleWater$Looks", name := "putPart", desc := "(II)I" } : Jvm.MethodName)) ∈ mh_T := mh_T_in (List.mem_append_right _ (List.mem_of_getElem? (i := 829) (by decide +kernel))) (by decide +kernel)
set_option maxRecDepth 100000 in
theorem wd_830 : (Jvm.Cond.instanceMethod ({ cls := "HoleWater$Looks", name := "putPart", desc := "(II)I" } : Jvm.MethodName)) ∈ mh_T := mh_T_in (List.mem_append_right _ (List.mem_of_getElem? (i := 830) (by decide +kernel))) (by decide +kernel)
set_option maxRecDepth 100000 in
theorem wd_831 : (Jvm.Cond.selects "HoleWater$Looks" ({ cls := "HoleWater$Looks", name := "putPart", desc := "(II)I" } : Jvm.MethodName) ({ cls := "HoleWater$Looks", name := "putPart", desc := "(II)I" } : Jvm.MethodName)) ∈ mh_T := mh_T_in (List.mem_append_right _ (List.mem_of_getElem? (i := 831) (by decide +kernel))) (by decide +kernel)
set_option maxRecDepth 100000 in
theorem wd_832 : (Jvm.Cond.code ({ cls := "HoleWater$Looks", name := "putPart", desc := "(II)I" } : Jvm.MethodName) prog_3_method_3_code (3 : Nat) (Option.some Jvm.ClassFile.FieldType.int)) ∈ mh_T := mh_T_in (List.mem_append_right _ (List.mem_of_getElem? (i := 832) (by decide +kernel))) (by decide +kernel)
set_option maxRecDepth 100000 in
theorem wd_833 : (Jvm.Cond.methodLink "HoleWaterLaw" (115 : Nat) ({ cls := "HoleWater", name := "bag", desc := "(III)I" } : Jvm.MethodName)) ∈ mh_T := mh_T_in (List.mem_append_right _ (List.mem_of_getElem? (i := 833) (by decide +kernel))) (by decide +kernel)
set_option maxRecDepth 100000 in
theorem wd_834 : (Jvm.Cond.instanceMethod ({ cls := "HoleWater", name := "bag", desc := "(III)I" } : Jvm.MethodName)) ∈ mh_T := mh_T_in (List.mem_append_right _ (List.mem_of_getElem? (i := 834) (by decide +kernel))) (by decide +kernel)
set_option maxRecDepth 100000 in
theorem wd_835 : (Jvm.Cond.selects "HoleWater" ({ cls := "HoleWater", name := "bag", desc := "(III)I" } : Jvm.MethodName) ({ cls := "HoleWater", name := "bag", desc := "(III)I" } : Jvm.MethodName)) ∈ mh_T := mh_T_in (List.mem_append_right _ (List.mem_of_getElem? (i := 835) (by decide +kernel))) (by decide +kernel)
set_option maxRecDepth 100000 in
theorem wd_836 : (Jvm.Cond.code ({ cls := "HoleWater", name := "bag", desc := "(III)I" } : Jvm.MethodName) prog_1_method_25_code (7 : Nat) (Option.some Jvm.ClassFile.FieldType.int)) ∈ mh_T := mh_T_in (List.mem_append_right _ (List.mem_of_getElem? (i := 836) (by decide +kernel))) (by decide +kernel)
set_option maxRecDepth 100000 in
theorem wd_837 : (Jvm.Cond.methodLink "HoleWaterLaw" (119 : Nat) ({ cls := "HoleWater", name := "lookIs", desc := "(II)I" } : Jvm.MethodName)) ∈ mh_T := mh_T_in (List.mem_append_right _ (List.mem_of_getElem? (i := 837) (by decide +kernel))) (by decide +kernel)
