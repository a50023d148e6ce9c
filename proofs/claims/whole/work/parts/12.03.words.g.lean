set_option maxRecDepth 100000 in
theorem wd_631 : (Jvm.Cond.code ({ cls := "HoleWater", name := "putIs", desc := "(II)I" } : Jvm.MethodName) prog_1_method_13_code (3 : Nat) (Option.some Jvm.ClassFile.FieldType.int)) ∈ mh_T := mh_T_in (List.mem_append_right _ (List.mem_of_getElem? (i := 631) (by decide +kernel))) (by decide +kernel)
set_option maxRecDepth 100000 in
theorem wd_632 : (Jvm.Cond.methodLink "HoleWaterLaw" (67 : Nat) ({ cls := "HoleWater", name := "pours", desc := "(IIIII)I" } : Jvm.MethodName)) ∈ mh_T := mh_T_in (List.mem_append_right _ (List.mem_of_getElem? (i := 632) (by decide +kernel))) (by decide +kernel)
set_option maxRecDepth 100000 in
theorem wd_633 : (Jvm.Cond.instanceMethod ({ cls := "HoleWater", name := "pours", desc := "(IIIII)I" } : Jvm.MethodName)) ∈ mh_T := mh_T_in (List.mem_append_right _ (List.mem_of_getElem? (i := 633) (by decide +kernel))) (by decide +kernel)
set_option maxRecDepth 100000 in
theorem wd_634 : (Jvm.Cond.selects "HoleWater" ({ cls := "HoleWater", name := "pours", desc := "(IIIII)I" } : Jvm.MethodName) ({ cls := "HoleWater", name := "pours", desc := "(IIIII)I" } : Jvm.MethodName)) ∈ mh_T := mh_T_in (List.mem_append_right _ (List.mem_of_getElem? (i := 634) (by decide +kernel))) (by decide +kernel)
set_option maxRecDepth 100000 in
theorem wd_635 : (Jvm.Cond.code ({ cls := "HoleWater", name := "pours", desc := "(IIIII)I" } : Jvm.MethodName) prog_1_method_14_code (9 : Nat) (Option.some Jvm.ClassFile.FieldType.int)) ∈ mh_T := mh_T_in (List.mem_append_right _ (List.mem_of_getElem? (i := 635) (by decide +kernel))) (by decide +kernel)
set_option maxRecDepth 100000 in
theorem wd_636 : (Jvm.Cond.methodLink "HoleWater" (211 : Nat) ({ cls := "HoleWater", name := "isSheet", desc := "(I)Z" } : Jvm.MethodName)) ∈ mh_T := mh_T_in (List.mem_append_right _ (List.mem_of_getElem? (i := 636) (by decide +kernel))) (by decide +kernel)
set_option maxRecDepth 100000 in
theorem wd_637 : (Jvm.Cond.static ({ cls := "HoleWater", name := "isSheet", desc := "(I)Z" } : Jvm.MethodName)) ∈ mh_T := mh_T_in (List.mem_append_right _ (List.mem_of_getElem? (i := 637) (by decide +kernel))) (by decide +kernel)
set_option maxRecDepth 100000 in
theorem wd_638 : (Jvm.Cond.code ({ cls := "HoleWater", name := "isSheet", desc := "(I)Z" } : Jvm.MethodName) prog_1_method_50_code (1 : Nat) (Option.some Jvm.ClassFile.FieldType.boolean)) ∈ mh_T := mh_T_in (List.mem_append_right _ (List.mem_of_getElem? (i := 638) (by decide +kernel))) (by decide +kernel)
set_option maxRecDepth 100000 in
theorem wd_639 : (Jvm.Cond.methodLink "HoleWaterLaw" (72 : Nat) ({ cls := "HoleWater", name := "grains", desc := "(II)I" } : Jvm.MethodName)) ∈ mh_T := mh_T_in (List.mem_append_right _ (List.mem_of_getElem? (i := 639) (by decide +kernel))) (by decide +kernel)
set_option maxRecDepth 100000 in
theorem wd_640 : (Jvm.Cond.instanceMethod ({ cls := "HoleWater", name := "grains", desc := "(II)I" } : Jvm.MethodName)) ∈ mh_T := mh_T_in (List.mem_append_right _ (List.mem_of_getElem? (i := 640) (by decide +kernel))) (by decide +kernel)
set_option maxRecDepth 100000 in
theorem wd_641 : (Jvm.Cond.selects "HoleWater" ({ cls := "HoleWater", name := "grains", desc := "(II)I" } : Jvm.MethodName) ({ cls := "HoleWater", name := "grains", desc := "(II)I" } : Jvm.MethodName)) ∈ mh_T := mh_T_in (List.mem_append_right _ (List.mem_of_getElem? (i := 641) (by decide +kernel))) (by decide +kernel)
set_option maxRecDepth 100000 in
theorem wd_642 : (Jvm.Cond.code ({ cls := "HoleWater", name := "grains", desc := "(II)I" } : Jvm.MethodName) prog_1_method_15_code (3 : Nat) (Option.some Jvm.ClassFile.FieldType.int)) ∈ mh_T := mh_T_in (List.mem_append_right _ (List.mem_of_getElem? (i := 642) (by decide +kernel))) (by decide +kernel)
set_option maxRecDepth 100000 in
theorem wd_643 : (Jvm.Cond.methodLink "HoleWaterLaw" (76 : Nat) ({ cls := "HoleWater", name := "stuff", desc := "(II)I" } : Jvm.MethodName)) ∈ mh_T := mh_T_in (List.mem_append_right _ (List.mem_of_getElem? (i := 643) (by decide +kernel))) (by decide +kernel)
set_option maxRecDepth 100000 in
theorem wd_644 : (Jvm.Cond.instanceMethod ({ cls := "HoleWater", name := "stuff", desc := "(II)I" } : Jvm.MethodName)) ∈ mh_T := mh_T_in (List.mem_append_right _ (List.mem_of_getElem? (i := 644) (by decide +kernel))) (by decide +kernel)
set_option maxRecDepth 100000 in
theorem wd_645 : (Jvm.Cond.selects "HoleWater" ({ cls := "HoleWater", name := "stuff", desc := "(II)I" } : Jvm.MethodName) ({ cls := "HoleWater", name := "stuff", desc := "(II)I" } : Jvm.MethodName)) ∈ mh_T := mh_T_in (List.mem_append_right _ (List.mem_of_getElem? (i := 645) (by decide +kernel))) (by decide +kernel)
set_option maxRecDepth 100000 in
theorem wd_646 : (Jvm.Cond.code ({ cls := "HoleWater", name := "stuff", desc := "(II)I" } : Jvm.MethodName) prog_1_method_16_code (3 : Nat) (Option.some Jvm.ClassFile.FieldType.int)) ∈ mh_T := mh_T_in (List.mem_append_right _ (List.mem_of_getElem? (i := 646) (by decide +kernel))) (by decide +kernel)
set_option maxRecDepth 100000 in
theorem wd_647 : (Jvm.Cond.methodLink "HoleWater" (214 : Nat) ({ cls := "HoleWater$World", name := "allBelow", desc := "(I)I" } : Jvm.MethodName)) ∈ mh_T := mh_T_in (List.mem_append_right _ (List.mem_of_getElem? (i := 647) (by decide +kernel))) (by decide +kernel)
set_option maxRecDepth 100000 in
theorem wd_648 : (Jvm.Cond.instanceMethod ({ cls := "HoleWater$World", name := "allBelow", desc := "(I)I" } : Jvm.MethodName)) ∈ mh_T := mh_T_in (List.mem_append_right _ (List.mem_of_getElem? (i := 648) (by decide +kernel))) (by decide +kernel)
set_option maxRecDepth 100000 in
theorem wd_649 : (Jvm.Cond.selects "HoleWater$World" ({ cls := "HoleWater$World", name := "allBelow", desc := "(I)I" } : Jvm.MethodName) ({ cls := "HoleWater$World", name := "allBelow", desc := "(I)I" } : Jvm.MethodName)) ∈ mh_T := mh_T_in (List.mem_append_right _ (List.mem_of_getElem? (i := 649) (by decide +kernel))) (by decide +kernel)
set_option maxRecDepth 100000 in
theorem wd_650 : (Jvm.Cond.code ({ cls := "HoleWater$World", name := "allBelow", desc := "(I)I" } : Jvm.MethodName) prog_12_method_11_code (4 : Nat) (Option.some Jvm.ClassFile.FieldType.int)) ∈ mh_T := mh_T_in (List.mem_append_right _ (List.mem_of_getElem? (i := 650) (by decide +kernel))) (by decide +kernel)
set_option maxRecDepth 100000 in
theorem wd_651 : (Jvm.Cond.methodLink "HoleWater$World" (109 : Nat) ({ cls := "HoleWater$Water", name := "inWay", desc := "(II)I" } : Jvm.MethodName)) ∈ mh_T := mh_T_in (List.mem_append_right _ (List.mem_of_getElem? (i := 651) (by decide +kernel))) (by decide +kernel)
set_option maxRecDepth 100000 in
theorem wd_652 : (Jvm.Cond.methodLink "HoleWaterLaw" (80 : Nat) ({ cls := "HoleWater", name := "out", desc := "(III)I" } : Jvm.MethodName)) ∈ mh_T := mh_T_in (List.mem_append_right _ (List.mem_of_getElem? (i := 652) (by decide +kernel))) (by decide +kernel)
set_option maxRecDepth 100000 in
theorem wd_653 : (Jvm.Cond.instanceMethod ({ cls := "HoleWater", name := "out", desc := "(III)I" } : Jvm.MethodName)) ∈ mh_T := mh_T_in (List.mem_append_right _ (List.mem_of_getElem? (i := 653) (by decide +kernel))) (by decide +kernel)
set_option maxRecDepth 100000 in
theorem wd_654 : (Jvm.Cond.selects "HoleWater" ({ cls := "HoleWater", name := "out", desc := "(III)I" } : Jvm.MethodName) ({ cls := "HoleWater", name := "out", desc := "(III)I" } : Jvm.MethodName)) ∈ mh_T := mh_T_in (List.mem_append_right _ (List.mem_of_getElem? (i := 654) (by decide +kernel))) (by decide +kernel)
set_option maxRecDepth 100000 in
theorem wd_655 : (Jvm.Cond.code ({ cls := "HoleWater", name := "out", desc := "(III)I" } : Jvm.MethodName) prog_1_method_17_code (4 : Nat) (Option.some Jvm.ClassFile.FieldType.int)) ∈ mh_T := mh_T_in (List.mem_append_right _ (List.mem_of_getElem? (i := 655) (by decide +kernel))) (by decide +kernel)
set_option maxRecDepth 100000 in
theorem wd_656 : (Jvm.Cond.methodLink "HoleWater" (220 : Nat) ({ cls := "HoleWater$Water", name := "cameOut", desc := "(III)I" } : Jvm.MethodName)) ∈ mh_T := mh_T_in (List.mem_append_right _ (List.mem_of_getElem? (i := 656) (by decide +kernel))) (by decide +kernel)
set_option maxRecDepth 100000 in
theorem wd_657 : (Jvm.Cond.instanceMethod ({ cls := "HoleWater$Water", name := "cameOut", desc := "(III)I" } : Jvm.MethodName)) ∈ mh_T := mh_T_in (List.mem_append_right _ (List.mem_of_getElem? (i := 657) (by decide +kernel))) (by decide +kernel)
set_option maxRecDepth 100000 in
theorem wd_658 : (Jvm.Cond.selects "HoleWater$Water" ({ cls := "HoleWater$Water", name := "cameOut", desc := "(III)I" } : Jvm.MethodName) ({ cls := "HoleWater$Water", name := "cameOut", desc := "(III)I" } : Jvm.MethodName)) ∈ mh_T := mh_T_in (List.mem_append_right _ (List.mem_of_getElem? (i := 658) (by decide +kernel))) (by decide +kernel)
set_option maxRecDepth 100000 in
theorem wd_659 : (Jvm.Cond.code ({ cls := "HoleWater$Water", name := "cameOut", desc := "(III)I" } : Jvm.MethodName) prog_10_method_5_code (5 : Nat) (Option.some Jvm.ClassFile.FieldType.int)) ∈ mh_T := mh_T_in (List.mem_append_right _ (List.mem_of_getElem? (i := 659) (by decide +kernel))) (by decide +kernel)
set_option maxRecDepth 100000 in
theorem wd_660 : (Jvm.Cond.methodLink "HoleWaterLaw" (84 : Nat) ({ cls := "HoleWater", name := "spill", desc := "(IIII)I" } : Jvm.MethodName)) ∈ mh_T := mh_T_in (List.mem_append_right _ (List.mem_of_getElem? (i := 660) (by decide +kernel))) (by decide +kernel)
set_option maxRecDepth 100000 in
theorem wd_661 : (Jvm.Cond.instanceMethod ({ cls := "HoleWater", name := "spill", desc := "(IIII)I" } : Jvm.MethodName)) ∈ mh_T := mh_T_in (List.mem_append_right _ (List.mem_of_getElem? (i := 661) (by decide +kernel))) (by decide +kernel)
set_option maxRecDepth 100000 in
theorem wd_662 : (Jvm.Cond.selects "HoleWater" ({ cls := "HoleWater", name := "spill", desc := "(IIII)I" } : Jvm.MethodName) ({ cls := "HoleWater", name := "spill", desc := "(IIII)I" } : Jvm.MethodName)) ∈ mh_T := mh_T_in (List.mem_append_right _ (List.mem_of_getElem? (i := 662) (by decide +kernel))) (by decide +kernel)
set_option maxRecDepth 100000 in
theorem wd_663 : (Jvm.Cond.code ({ cls := "HoleWater", name := "spill", desc := "(IIII)I" } : Jvm.MethodName) prog_1_method_18_code (8 : Nat) (Option.some Jvm.ClassFile.FieldType.int)) ∈ mh_T := mh_T_in (List.mem_append_right _ (List.mem_of_getElem? (i := 663) (by decide +kernel))) (by decide +kernel)
set_option maxRecDepth 100000 in
theorem wd_664 : (Jvm.Cond.methodLink "HoleWater" (223 : Nat) ({ cls := "HoleWater", name := "spillError", desc := "(III)I" } : Jvm.MethodName)) ∈ mh_T := mh_T_in (List.mem_append_right _ (List.mem_of_getElem? (i := 664) (by decide +kernel))) (by decide +kernel)
set_option maxRecDepth 100000 in
theorem wd_666 : (Jvm.Cond.instanceMethod ({ cls := "HoleWater", name := "spillError", desc := "(III)I" } : Jvm.MethodName)) ∈ mh_T := mh_T_in (List.mem_append_right _ (List.mem_of_getElem? (i := 666) (by decide +kernel))) (by decide +kernel)
set_option maxRecDepth 100000 in
theorem wd_667 : (Jvm.Cond.code ({ cls := "HoleWater", name := "spillError", desc := "(III)I" } : Jvm.MethodName) prog_1_method_58_code (4 : Nat) (Option.some Jvm.ClassFile.FieldType.int)) ∈ mh_T := mh_T_in (List.mem_append_right _ (List.mem_of_getElem? (i := 667) (by decide +kernel))) (by decide +kernel)
set_option maxRecDepth 100000 in
theorem wd_668 : (Jvm.Cond.methodLink "HoleWater" (226 : Nat) ({ cls := "HoleWater$Water", name := "startSpill", desc := "(LHoleWater$Water;II)V" } : Jvm.MethodName)) ∈ mh_T := mh_T_in (List.mem_append_right _ (List.mem_of_getElem? (i := 668) (by decide +kernel))) (by decide +kernel)
set_option maxRecDepth 100000 in
theorem wd_669 : (Jvm.Cond.instanceMethod ({ cls := "HoleWater$Water", name := "startSpill", desc := "(LHoleWater$Water;II)V" } : Jvm.MethodName)) ∈ mh_T := mh_T_in (List.mem_append_right _ (List.mem_of_getElem? (i := 669) (by decide +kernel))) (by decide +kernel)
set_option maxRecDepth 100000 in
theorem wd_670 : (Jvm.Cond.selects "HoleWater$Water" ({ cls := "HoleWater$Water", name := "startSpill", desc := "(LHoleWater$Water;II)V" } : Jvm.MethodName) ({ cls := "HoleWater$Water", name := "startSpill", desc := "(LHoleWater$Water;II)V" } : Jvm.MethodName)) ∈ mh_T := mh_T_in (List.mem_append_right _ (List.mem_of_getElem? (i := 670) (by decide +kernel))) (by decide +kernel)
set_option maxRecDepth 100000 in
theorem wd_671 : (Jvm.Cond.code ({ cls := "HoleWater$Water", name := "startSpill", desc := "(LHoleWater$Water;II)V" } : Jvm.MethodName) prog_10_method_3_code (6 : Nat) (Option.none : Option Jvm.ClassFile.FieldType)) ∈ mh_T := mh_T_in (List.mem_append_right _ (List.mem_of_getElem? (i := 671) (by decide +kernel))) (by decide +kernel)
set_option maxRecDepth 100000 in
theorem wd_672 : (Jvm.Cond.methodLink "HoleWater$Water" (56 : Nat) ({ cls := "HoleWater$Water", name := "copyOf", desc := "(LHoleWater$Water;)V" } : Jvm.MethodName)) ∈ mh_T := mh_T_in (List.mem_append_right _ (List.mem_of_getElem? (i := 672) (by decide +kernel))) (by decide +kernel)
set_option maxRecDepth 100000 in
theorem wd_673 : (Jvm.Cond.instanceMethod ({ cls := "HoleWater$Water", name := "copyOf", desc := "(LHoleWater$Water;)V" } : Jvm.MethodName)) ∈ mh_T := mh_T_in (List.mem_append_right _ (List.mem_of_getElem? (i := 673) (by decide +kernel))) (by decide +kernel)
set_option maxRecDepth 100000 in
theorem wd_674 : (Jvm.Cond.selects "HoleWater$Water" ({ cls := "HoleWater$Water", name := "copyOf", desc := "(LHoleWater$Water;)V" } : Jvm.MethodName) ({ cls := "HoleWater$Water", name := "copyOf", desc := "(LHoleWater$Water;)V" } : Jvm.MethodName)) ∈ mh_T := mh_T_in (List.mem_append_right _ (List.mem_of_getElem? (i := 674) (by decide +kernel))) (by decide +kernel)
set_option maxRecDepth 100000 in
theorem wd_675 : (Jvm.Cond.code ({ cls := "HoleWater$Water", name := "copyOf", desc := "(LHoleWater$Water;)V" } : Jvm.MethodName) prog_10_method_2_code (2 : Nat) (Option.none : Option Jvm.ClassFile.FieldType)) ∈ mh_T := mh_T_in (List.mem_append_right _ (List.mem_of_getElem? (i := 675) (by decide +kernel))) (by decide +kernel)
set_option maxRecDepth 100000 in
theorem wd_676 : (Jvm.Cond.methodLink "HoleWater$Water" (50 : Nat) ({ cls := "java/lang/System", name := "arraycopy", desc := "(Ljava/lang/Object;ILjava/lang/Object;II)V" } : Jvm.MethodName)) ∈ mh_T := mh_T_in (List.mem_append_right _ (List.mem_of_getElem? (i := 676) (by decide +kernel))) (by decide +kernel)
set_option maxRecDepth 100000 in
theorem wd_677 : (Jvm.Cond.static ({ cls := "java/lang/System", name := "arraycopy", desc := "(Ljava/lang/Object;ILjava/lang/Object;II)V" } : Jvm.MethodName)) ∈ mh_T := mh_T_in (List.mem_append_right _ (List.mem_of_getElem? (i := 677) (by decide +kernel))) (by decide +kernel)
set_option maxRecDepth 100000 in
theorem wd_678 : (Jvm.Cond.native ({ cls := "java/lang/System", name := "arraycopy", desc := "(Ljava/lang/Object;ILjava/lang/Object;II)V" } : Jvm.MethodName)) ∈ mh_T := mh_T_in (List.mem_append_right _ (List.mem_of_getElem? (i := 678) (by decide +kernel))) (by decide +kernel)
set_option maxRecDepth 100000 in
theorem wd_679 : (Jvm.Cond.methodLink "HoleWaterLaw" (88 : Nat) ({ cls := "HoleWater", name := "first", desc := "(III)I" } : Jvm.MethodName)) ∈ mh_T := mh_T_in (List.mem_append_right _ (List.mem_of_getElem? (i := 679) (by decide +kernel))) (by decide +kernel)
set_option maxRecDepth 100000 in
theorem wd_680 : (Jvm.Cond.instanceMethod ({ cls := "HoleWater", name := "first", desc := "(III)I" } : Jvm.MethodName)) ∈ mh_T := mh_T_in (List.mem_append_right _ (List.mem_of_getElem? (i := 680) (by decide +kernel))) (by decide +kernel)
set_option maxRecDepth 100000 in
theorem wd_681 : (Jvm.Cond.selects "HoleWater" ({ cls := "HoleWater", name := "first", desc := "(III)I" } : Jvm.MethodName) ({ cls := "HoleWater", name := "first", desc := "(III)I" } : Jvm.MethodName)) ∈ mh_T := mh_T_in (List.mem_append_right _ (List.mem_of_getElem? (i := 681) (by decide +kernel))) (by decide +kernel)
set_option maxRecDepth 100000 in
theorem wd_682 : (Jvm.Cond.code ({ cls := "HoleWater", name := "first", desc := "(III)I" } : Jvm.MethodName) prog_1_method_19_code (6 : Nat) (Option.some Jvm.ClassFile.FieldType.int)) ∈ mh_T := mh_T_in (List.mem_append_right _ (List.mem_of_getElem? (i := 682) (by decide +kernel))) (by decide +kernel)
set_option maxRecDepth 100000 in
theorem wd_683 : (Jvm.Cond.methodLink "HoleWaterLaw" (94 : Nat) ({ cls := "HoleWater", name := "feed", desc := "(JI)I" } : Jvm.MethodName)) ∈ mh_T := mh_T_in (List.mem_append_right _ (List.mem_of_getElem? (i := 683) (by decide +kernel))) (by decide +kernel)
set_option maxRecDepth 100000 in
theorem wd_684 : (Jvm.Cond.instanceMethod ({ cls := "HoleWater", name := "feed", desc := "(JI)I" } : Jvm.MethodName)) ∈ mh_T := mh_T_in (List.mem_append_right _ (List.mem_of_getElem? (i := 684) (by decide +kernel))) (by decide +kernel)
set_option maxRecDepth 100000 in
theorem wd_685 : (Jvm.Cond.selects "HoleWater" ({ cls := "HoleWater", name := "feed", desc := "(JI)I" } : Jvm.MethodName) ({ cls := "HoleWater", name := "feed", desc := "(JI)I" } : Jvm.MethodName)) ∈ mh_T := mh_T_in (List.mem_append_right _ (List.mem_of_getElem? (i := 685) (by decide +kernel))) (by decide +kernel)
set_option maxRecDepth 100000 in
theorem wd_686 : (Jvm.Cond.code ({ cls := "HoleWater", name := "feed", desc := "(JI)I" } : Jvm.MethodName) prog_1_method_20_code (5 : Nat) (Option.some Jvm.ClassFile.FieldType.int)) ∈ mh_T := mh_T_in (List.mem_append_right _ (List.mem_of_getElem? (i := 686) (by decide +kernel))) (by decide +kernel)
set_option maxRecDepth 100000 in
theorem wd_687 : (Jvm.Cond.methodLink "HoleWater" (236 : Nat) ({ cls := "HoleWater$Row", name := "add", desc := "(I)Z" } : Jvm.MethodName)) ∈ mh_T := mh_T_in (List.mem_append_right _ (List.mem_of_getElem? (i := 687) (by decide +kernel))) (by decide +kernel)
set_option maxRecDepth 100000 in
theorem wd_688 : (Jvm.Cond.instanceMethod ({ cls := "HoleWater$Row", name := "add", desc := "(I)Z" } : Jvm.MethodName)) ∈ mh_T := mh_T_in (List.mem_append_right _ (List.mem_of_getElem? (i := 688) (by decide +kernel))) (by decide +kernel)
set_option maxRecDepth 100000 in
theorem wd_689 : (Jvm.Cond.selects "HoleWater$Row" ({ cls := "HoleWater$Row", name := "add", desc := "(I)Z" } : Jvm.MethodName) ({ cls := "HoleWater$Row", name := "add", desc := "(I)Z" } : Jvm.MethodName)) ∈ mh_T := mh_T_in (List.mem_append_right _ (List.mem_of_getElem? (i := 689) (by decide +kernel))) (by decide +kernel)
set_option maxRecDepth 100000 in
theorem wd_690 : (Jvm.Cond.code ({ cls := "HoleWater$Row", name := "add", desc := "(I)Z" } : Jvm.MethodName) prog_8_method_2_code (2 : Nat) (Option.some Jvm.ClassFile.FieldType.boolean)) ∈ mh_T := mh_T_in (List.mem_append_right _ (List.mem_of_getElem? (i := 690) (by decide +kernel))) (by decide +kernel)
set_option maxRecDepth 100000 in
theorem wd_691 : (Jvm.Cond.methodLink "HoleWaterLaw" (99 : Nat) ({ cls := "HoleWater", name := "text", desc := "(I)I" } : Jvm.MethodName)) ∈ mh_T := mh_T_in (List.mem_append_right _ (List.mem_of_getElem? (i := 691) (by decide +kernel))) (by decide +kernel)
set_option maxRecDepth 100000 in
theorem wd_692 : (Jvm.Cond.instanceMethod ({ cls := "HoleWater", name := "text", desc := "(I)I" } : Jvm.MethodName)) ∈ mh_T := mh_T_in (List.mem_append_right _ (List.mem_of_getElem? (i := 692) (by decide +kernel))) (by decide +kernel)
set_option maxRecDepth 100000 in
theorem wd_693 : (Jvm.Cond.selects "HoleWater" ({ cls := "HoleWater", name := "text", desc := "(I)I" } : Jvm.MethodName) ({ cls := "HoleWater", name := "text", desc := "(I)I" } : Jvm.MethodName)) ∈ mh_T := mh_T_in (List.mem_append_right _ (List.mem_of_getElem? (i := 693) (by decide +kernel))) (by decide +kernel)
set_option maxRecDepth 100000 in
theorem wd_694 : (Jvm.Cond.code ({ cls := "HoleWater", name := "text", desc := "(I)I" } : Jvm.MethodName) prog_1_method_21_code (4 : Nat) (Option.some Jvm.ClassFile.FieldType.int)) ∈ mh_T := mh_T_in (List.mem_append_right _ (List.mem_of_getElem? (i := 694) (by decide +kernel))) (by decide +kernel)
set_option maxRecDepth 100000 in
theorem wd_697 : (Jvm.Cond.methodLink "HoleWater" (243 : Nat) ({ cls := "HoleWater$Reader", name := "casesOf", desc := "(LHoleWater$Row;Ljava/lang/String;)I" } : Jvm.MethodName)) ∈ mh_T := mh_T_in (List.mem_append_right _ (List.mem_of_getElem? (i := 697) (by decide +kernel))) (by decide +kernel)
set_option maxRecDepth 100000 in
theorem wd_698 : (Jvm.Cond.instanceMethod ({ cls := "HoleWater$Reader", name := "casesOf", desc := "(LHoleWater$Row;Ljava/lang/String;)I" } : Jvm.MethodName)) ∈ mh_T := mh_T_in (List.mem_append_right _ (List.mem_of_getElem? (i := 698) (by decide +kernel))) (by decide +kernel)
set_option maxRecDepth 100000 in
theorem wd_699 : (Jvm.Cond.selects "HoleWater$Reader" ({ cls := "HoleWater$Reader", name := "casesOf", desc := "(LHoleWater$Row;Ljava/lang/String;)I" } : Jvm.MethodName) ({ cls := "HoleWater$Reader", name := "casesOf", desc := "(LHoleWater$Row;Ljava/lang/String;)I" } : Jvm.MethodName)) ∈ mh_T := mh_T_in (List.mem_append_right _ (List.mem_of_getElem? (i := 699) (by decide +kernel))) (by decide +kernel)
set_option maxRecDepth 100000 in
theorem wd_700 : (Jvm.Cond.code ({ cls := "HoleWater$Reader", name := "casesOf", desc := "(LHoleWater$Row;Ljava/lang/String;)I" } : Jvm.MethodName) prog_7_method_2_code (4 : Nat) (Option.some Jvm.ClassFile.FieldType.int)) ∈ mh_T := mh_T_in (List.mem_append_right _ (List.mem_of_getElem? (i := 700) (by decide +kernel))) (by decide +kernel)
set_option maxRecDepth 100000 in
theorem wd_701 : (Jvm.Cond.methodLink "HoleWater$Reader" (50 : Nat) ({ cls := "HoleWater$Reader", name := "begin", desc := "(LHoleWater$Row;Ljava/lang/String;)V" } : Jvm.MethodName)) ∈ mh_T := mh_T_in (List.mem_append_right _ (List.mem_of_getElem? (i := 701) (by decide +kernel))) (by decide +kernel)
set_option maxRecDepth 100000 in
theorem wd_703 : (Jvm.Cond.instanceMethod ({ cls := "HoleWater$Reader", name := "begin", desc := "(LHoleWater$Row;Ljava/lang/String;)V" } : Jvm.MethodName)) ∈ mh_T := mh_T_in (List.mem_append_right _ (List.mem_of_getElem? (i := 703) (by decide +kernel))) (by decide +kernel)
set_option maxRecDepth 100000 in
theorem wd_704 : (Jvm.Cond.code ({ cls := "HoleWater$Reader", name := "begin", desc := "(LHoleWater$Row;Ljava/lang/String;)V" } : Jvm.MethodName) prog_7_method_3_code (3 : Nat) (Option.none : Option Jvm.ClassFile.FieldType)) ∈ mh_T := mh_T_in (List.mem_append_right _ (List.mem_of_getElem? (i := 704) (by decide +kernel))) (by decide +kernel)
set_option maxRecDepth 100000 in
theorem wd_705 : (Jvm.Cond.methodLink "HoleWater$Reader" (71 : Nat) ({ cls := "java/lang/Math", name := "min", desc := "(II)I" } : Jvm.MethodName)) ∈ mh_T := mh_T_in (List.mem_append_right _ (List.mem_of_getElem? (i := 705) (by decide +kernel))) (by decide +kernel)
set_option maxRecDepth 100000 in
theorem wd_706 : (Jvm.Cond.methodLink "HoleWater$Reader" (54 : Nat) ({ cls := "HoleWater$Reader", name := "sum", desc := "(I)V" } : Jvm.MethodName)) ∈ mh_T := mh_T_in (List.mem_append_right _ (List.mem_of_getElem? (i := 706) (by decide +kernel))) (by decide +kernel)
set_option maxRecDepth 100000 in
theorem wd_708 : (Jvm.Cond.instanceMethod ({ cls := "HoleWater$Reader", name := "sum", desc := "(I)V" } : Jvm.MethodName)) ∈ mh_T := mh_T_in (List.mem_append_right _ (List.mem_of_getElem? (i := 708) (by decide +kernel))) (by decide +kernel)
set_option maxRecDepth 100000 in
theorem wd_709 : (Jvm.Cond.code ({ cls := "HoleWater$Reader", name := "sum", desc := "(I)V" } : Jvm.MethodName) prog_7_method_7_code (4 : Nat) (Option.none : Option Jvm.ClassFile.FieldType)) ∈ mh_T := mh_T_in (List.mem_append_right _ (List.mem_of_getElem? (i := 709) (by decide +kernel))) (by decide +kernel)
set_option maxRecDepth 100000 in
theorem wd_710 : (Jvm.Cond.methodLink "HoleWater$Reader" (81 : Nat) ({ cls := "HoleWater$Reader", name := "term", desc := "(I)V" } : Jvm.MethodName)) ∈ mh_T := mh_T_in (List.mem_append_right _ (List.mem_of_getElem? (i := 710) (by decide +kernel))) (by decide +kernel)
set_option maxRecDepth 100000 in
theorem wd_712 : (Jvm.Cond.instanceMethod ({ cls := "HoleWater$Reader", name := "term", desc := "(I)V" } : Jvm.MethodName)) ∈ mh_T := mh_T_in (List.mem_append_right _ (List.mem_of_getElem? (i := 712) (by decide +kernel))) (by decide +kernel)
set_option maxRecDepth 100000 in
theorem wd_713 : (Jvm.Cond.code ({ cls := "HoleWater$Reader", name := "term", desc := "(I)V" } : Jvm.MethodName) prog_7_method_8_code (4 : Nat) (Option.none : Option Jvm.ClassFile.FieldType)) ∈ mh_T := mh_T_in (List.mem_append_right _ (List.mem_of_getElem? (i := 713) (by decide +kernel))) (by decide +kernel)
set_option maxRecDepth 100000 in
theorem wd_714 : (Jvm.Cond.methodLink "HoleWater$Reader" (84 : Nat) ({ cls := "HoleWater$Reader", name := "one", desc := "(I)V" } : Jvm.MethodName)) ∈ mh_T := mh_T_in (List.mem_append_right _ (List.mem_of_getElem? (i := 714) (by decide +kernel))) (by decide +kernel)
set_option maxRecDepth 100000 in
theorem wd_716 : (Jvm.Cond.instanceMethod ({ cls := "HoleWater$Reader", name := "one", desc := "(I)V" } : Jvm.MethodName)) ∈ mh_T := mh_T_in (List.mem_append_right _ (List.mem_of_getElem? (i := 716) (by decide +kernel))) (by decide +kernel)
set_option maxRecDepth 100000 in
theorem wd_717 : (Jvm.Cond.code ({ cls := "HoleWater$Reader", name := "one", desc := "(I)V" } : Jvm.MethodName) prog_7_method_9_code (3 : Nat) (Option.none : Option Jvm.ClassFile.FieldType)) ∈ mh_T := mh_T_in (List.mem_append_right _ (List.mem_of_getElem? (i := 717) (by decide +kernel))) (by decide +kernel)
set_option maxRecDepth 100000 in
theorem wd_718 : (Jvm.Cond.methodLink "HoleWater$Reader" (77 : Nat) ({ cls := "HoleWater$Reader", name := "next", desc := "()I" } : Jvm.MethodName)) ∈ mh_T := mh_T_in (List.mem_append_right _ (List.mem_of_getElem? (i := 718) (by decide +kernel))) (by decide +kernel)
set_option maxRecDepth 100000 in
theorem wd_720 : (Jvm.Cond.instanceMethod ({ cls := "HoleWater$Reader", name := "next", desc := "()I" } : Jvm.MethodName)) ∈ mh_T := mh_T_in (List.mem_append_right _ (List.mem_of_getElem? (i := 720) (by decide +kernel))) (by decide +kernel)
set_option maxRecDepth 100000 in
theorem wd_721 : (Jvm.Cond.code ({ cls := "HoleWater$Reader", name := "next", desc := "()I" } : Jvm.MethodName) prog_7_method_4_code (1 : Nat) (Option.some Jvm.ClassFile.FieldType.int)) ∈ mh_T := mh_T_in (List.mem_append_right _ (List.mem_of_getElem? (i := 721) (by decide +kernel))) (by decide +kernel)
set_option maxRecDepth 100000 in
theorem wd_722 : (Jvm.Cond.methodLink "HoleWater$Reader" (87 : Nat) ({ cls := "HoleWater$Reader", name := "isDigit", desc := "(I)Z" } : Jvm.MethodName)) ∈ mh_T := mh_T_in (List.mem_append_right _ (List.mem_of_getElem? (i := 722) (by decide +kernel))) (by decide +kernel)
set_option maxRecDepth 100000 in
theorem wd_723 : (Jvm.Cond.static ({ cls := "HoleWater$Reader", name := "isDigit", desc := "(I)Z" } : Jvm.MethodName)) ∈ mh_T := mh_T_in (List.mem_append_right _ (List.mem_of_getElem? (i := 723) (by decide +kernel))) (by decide +kernel)
set_option maxRecDepth 100000 in
theorem wd_724 : (Jvm.Cond.code ({ cls := "HoleWater$Reader", name := "isDigit", desc := "(I)Z" } : Jvm.MethodName) prog_7_method_11_code (1 : Nat) (Option.some Jvm.ClassFile.FieldType.boolean)) ∈ mh_T := mh_T_in (List.mem_append_right _ (List.mem_of_getElem? (i := 724) (by decide +kernel))) (by decide +kernel)
set_option maxRecDepth 100000 in
theorem wd_725 : (Jvm.Cond.methodLink "HoleWater$Reader" (90 : Nat) ({ cls := "HoleWater$Reader", name := "number", desc := "()I" } : Jvm.MethodName)) ∈ mh_T := mh_T_in (List.mem_append_right _ (List.mem_of_getElem? (i := 725) (by decide +kernel))) (by decide +kernel)
set_option maxRecDepth 100000 in
theorem wd_727 : (Jvm.Cond.instanceMethod ({ cls := "HoleWater$Reader", name := "number", desc := "()I" } : Jvm.MethodName)) ∈ mh_T := mh_T_in (List.mem_append_right _ (List.mem_of_getElem? (i := 727) (by decide +kernel))) (by decide +kernel)
set_option maxRecDepth 100000 in
theorem wd_728 : (Jvm.Cond.code ({ cls := "HoleWater$Reader", name := "number", desc := "()I" } : Jvm.MethodName) prog_7_method_10_code (3 : Nat) (Option.some Jvm.ClassFile.FieldType.int)) ∈ mh_T := mh_T_in (List.mem_append_right _ (List.mem_of_getElem? (i := 728) (by decide +kernel))) (by decide +kernel)
set_option maxRecDepth 100000 in
theorem wd_729 : (Jvm.Cond.methodLink "HoleWater$Reader" (60 : Nat) ({ cls := "HoleWater$Row", name := "add", desc := "(I)Z" } : Jvm.MethodName)) ∈ mh_T := mh_T_in (List.mem_append_right _ (List.mem_of_getElem? (i := 729) (by decide +kernel))) (by decide +kernel)
set_option maxRecDepth 100000 in
theorem wd_730 : (Jvm.Cond.methodLink "HoleWater$Reader" (64 : Nat) ({ cls := "HoleWater$Reader", name := "take", desc := "(I)Z" } : Jvm.MethodName)) ∈ mh_T := mh_T_in (List.mem_append_right _ (List.mem_of_getElem? (i := 730) (by decide +kernel))) (by decide +kernel)
set_option maxRecDepth 100000 in
theorem wd_732 : (Jvm.Cond.instanceMethod ({ cls := "HoleWater$Reader", name := "take", desc := "(I)Z" } : Jvm.MethodName)) ∈ mh_T := mh_T_in (List.mem_append_right _ (List.mem_of_getElem? (i := 732) (by decide +kernel))) (by decide +kernel)
set_option maxRecDepth 100000 in
theorem wd_733 : (Jvm.Cond.code ({ cls := "HoleWater$Reader", name := "take", desc := "(I)Z" } : Jvm.MethodName) prog_7_method_5_code (2 : Nat) (Option.some Jvm.ClassFile.FieldType.boolean)) ∈ mh_T := mh_T_in (List.mem_append_right _ (List.mem_of_getElem? (i := 733) (by decide +kernel))) (by decide +kernel)
set_option maxRecDepth 100000 in
theorem wd_734 : (Jvm.Cond.methodLink "HoleWater$Reader" (93 : Nat) ({ cls := "java/lang/String", name := "indexOf", desc := "(I)I" } : Jvm.MethodName)) ∈ mh_T := mh_T_in (List.mem_append_right _ (List.mem_of_getElem? (i := 734) (by decide +kernel))) (by decide +kernel)
set_option maxRecDepth 100000 in
theorem wd_735 : (Jvm.Cond.instanceMethod ({ cls := "java/lang/String", name := "indexOf", desc := "(I)I" } : Jvm.MethodName)) ∈ mh_T := mh_T_in (List.mem_append_right _ (List.mem_of_getElem? (i := 735) (by decide +kernel))) (by decide +kernel)
set_option maxRecDepth 100000 in
theorem wd_736 : (Jvm.Cond.selects "java/lang/String" ({ cls := "java/lang/String", name := "indexOf", desc := "(I)I" } : Jvm.MethodName) ({ cls := "java/lang/String", name := "indexOf", desc := "(I)I" } : Jvm.MethodName)) ∈ mh_T := mh_T_in (List.mem_append_right _ (List.mem_of_getElem? (i := 736) (by decide +kernel))) (by decide +kernel)
set_option maxRecDepth 100000 in
theorem wd_737 : (Jvm.Cond.code ({ cls := "java/lang/String", name := "indexOf", desc := "(I)I" } : Jvm.MethodName) prog_18_method_79_code (2 : Nat) (Option.some Jvm.ClassFile.FieldType.int)) ∈ mh_T := mh_T_in (List.mem_append_right _ (List.mem_of_getElem? (i := 737) (by decide +kernel))) (by decide +kernel)
set_option maxRecDepth 100000 in
theorem wd_738 : (Jvm.Cond.methodLink "java/lang/String" (633 : Nat) ({ cls := "java/lang/String", name := "indexOf", desc := "(II)I" } : Jvm.MethodName)) ∈ mh_T := mh_T_in (List.mem_append_right _ (List.mem_of_getElem? (i := 738) (by decide +kernel))) (by decide +kernel)
set_option maxRecDepth 100000 in
theorem wd_739 : (Jvm.Cond.instanceMethod ({ cls := "java/lang/String", name := "indexOf", desc := "(II)I" } : Jvm.MethodName)) ∈ mh_T := mh_T_in (List.mem_append_right _ (List.mem_of_getElem? (i := 739) (by decide +kernel))) (by decide +kernel)
set_option maxRecDepth 100000 in
theorem wd_740 : (Jvm.Cond.selects "java/lang/String" ({ cls := "java/lang/String", name := "indexOf", desc := "(II)I" } : Jvm.MethodName) ({ cls := "java/lang/String", name := "indexOf", desc := "(II)I" } : Jvm.MethodName)) ∈ mh_T := mh_T_in (List.mem_append_right _ (List.mem_of_getElem? (i := 740) (by decide +kernel))) (by decide +kernel)
set_option maxRecDepth 100000 in
theorem wd_741 : (Jvm.Cond.code ({ cls := "java/lang/String", name := "indexOf", desc := "(II)I" } : Jvm.MethodName) prog_18_method_80_code (3 : Nat) (Option.some Jvm.ClassFile.FieldType.int)) ∈ mh_T := mh_T_in (List.mem_append_right _ (List.mem_of_getElem? (i := 741) (by decide +kernel))) (by decide +kernel)
set_option maxRecDepth 100000 in
theorem wd_742 : (Jvm.Cond.methodLink "java/lang/String" (492 : Nat) ({ cls := "java/lang/String", name := "isLatin1", desc := "()Z" } : Jvm.MethodName)) ∈ mh_T := mh_T_in (List.mem_append_right _ (List.mem_of_getElem? (i := 742) (by decide +kernel))) (by decide +kernel)
set_option maxRecDepth 100000 in
theorem wd_743 : (Jvm.Cond.instanceMethod ({ cls := "java/lang/String", name := "isLatin1", desc := "()Z" } : Jvm.MethodName)) ∈ mh_T := mh_T_in (List.mem_append_right _ (List.mem_of_getElem? (i := 743) (by decide +kernel))) (by decide +kernel)
set_option maxRecDepth 100000 in
theorem wd_744 : (Jvm.Cond.selects "java/lang/String" ({ cls := "java/lang/String", name := "isLatin1", desc := "()Z" } : Jvm.MethodName) ({ cls := "java/lang/String", name := "isLatin1", desc := "()Z" } : Jvm.MethodName)) ∈ mh_T := mh_T_in (List.mem_append_right _ (List.mem_of_getElem? (i := 744) (by decide +kernel))) (by decide +kernel)
set_option maxRecDepth 100000 in
theorem wd_745 : (Jvm.Cond.code ({ cls := "java/lang/String", name := "isLatin1", desc := "()Z" } : Jvm.MethodName) prog_18_method_154_code (1 : Nat) (Option.some Jvm.ClassFile.FieldType.boolean)) ∈ mh_T := mh_T_in (List.mem_append_right _ (List.mem_of_getElem? (i := 745) (by decide +kernel))) (by decide +kernel)
set_option maxRecDepth 100000 in
theorem wd_746 : (Jvm.Cond.fieldLink "java/lang/String" (38 : Nat) "java/lang/String" "COMPACT_STRINGS" "Z") ∈ mh_T := mh_T_in (List.mem_append_right _ (List.mem_of_getElem? (i := 746) (by decide +kernel))) (by decide +kernel)
set_option maxRecDepth 100000 in
theorem wd_748 : (Jvm.Cond.methodLink "java/lang/String" (505 : Nat) ({ cls := "java/lang/String", name := "length", desc := "()I" } : Jvm.MethodName)) ∈ mh_T := mh_T_in (List.mem_append_right _ (List.mem_of_getElem? (i := 748) (by decide +kernel))) (by decide +kernel)
set_option maxRecDepth 100000 in
theorem wd_749 : (Jvm.Cond.instanceMethod ({ cls := "java/lang/String", name := "length", desc := "()I" } : Jvm.MethodName)) ∈ mh_T := mh_T_in (List.mem_append_right _ (List.mem_of_getElem? (i := 749) (by decide +kernel))) (by decide +kernel)
set_option maxRecDepth 100000 in
theorem wd_750 : (Jvm.Cond.selects "java/lang/String" ({ cls := "java/lang/String", name := "length", desc := "()I" } : Jvm.MethodName) ({ cls := "java/lang/String", name := "length", desc := "()I" } : Jvm.MethodName)) ∈ mh_T := mh_T_in (List.mem_append_right _ (List.mem_of_getElem? (i := 750) (by decide +kernel))) (by decide +kernel)
set_option maxRecDepth 100000 in
theorem wd_751 : (Jvm.Cond.code ({ cls := "java/lang/String", name := "length", desc := "()I" } : Jvm.MethodName) prog_18_method_54_code (1 : Nat) (Option.some Jvm.ClassFile.FieldType.int)) ∈ mh_T := mh_T_in (List.mem_append_right _ (List.mem_of_getElem? (i := 751) (by decide +kernel))) (by decide +kernel)
set_option maxRecDepth 100000 in
theorem wd_752 : (Jvm.Cond.methodLink "java/lang/String" (335 : Nat) ({ cls := "java/lang/String", name := "coder", desc := "()B" } : Jvm.MethodName)) ∈ mh_T := mh_T_in (List.mem_append_right _ (List.mem_of_getElem? (i := 752) (by decide +kernel))) (by decide +kernel)
set_option maxRecDepth 100000 in
theorem wd_753 : (Jvm.Cond.instanceMethod ({ cls := "java/lang/String", name := "coder", desc := "()B" } : Jvm.MethodName)) ∈ mh_T := mh_T_in (List.mem_append_right _ (List.mem_of_getElem? (i := 753) (by decide +kernel))) (by decide +kernel)
set_option maxRecDepth 100000 in
theorem wd_754 : (Jvm.Cond.selects "java/lang/String" ({ cls := "java/lang/String", name := "coder", desc := "()B" } : Jvm.MethodName) ({ cls := "java/lang/String", name := "coder", desc := "()B" } : Jvm.MethodName)) ∈ mh_T := mh_T_in (List.mem_append_right _ (List.mem_of_getElem? (i := 754) (by decide +kernel))) (by decide +kernel)
set_option maxRecDepth 100000 in
theorem wd_755 : (Jvm.Cond.code ({ cls := "java/lang/String", name := "coder", desc := "()B" } : Jvm.MethodName) prog_18_method_152_code (1 : Nat) (Option.some Jvm.ClassFile.FieldType.byte)) ∈ mh_T := mh_T_in (List.mem_append_right _ (List.mem_of_getElem? (i := 755) (by decide +kernel))) (by decide +kernel)
set_option maxRecDepth 100000 in
theorem wd_756 : (Jvm.Cond.methodLink "java/lang/String" (637 : Nat) ({ cls := "java/lang/StringLatin1", name := "indexOf", desc := "([BIII)I" } : Jvm.MethodName)) ∈ mh_T := mh_T_in (List.mem_append_right _ (List.mem_of_getElem? (i := 756) (by decide +kernel))) (by decide +kernel)
set_option maxRecDepth 100000 in
theorem wd_757 : (Jvm.Cond.static ({ cls := "java/lang/StringLatin1", name := "indexOf", desc := "([BIII)I" } : Jvm.MethodName)) ∈ mh_T := mh_T_in (List.mem_append_right _ (List.mem_of_getElem? (i := 757) (by decide +kernel))) (by decide +kernel)
set_option maxRecDepth 100000 in
theorem wd_758 : (Jvm.Cond.code ({ cls := "java/lang/StringLatin1", name := "indexOf", desc := "([BIII)I" } : Jvm.MethodName) prog_19_method_22_code (4 : Nat) (Option.some Jvm.ClassFile.FieldType.int)) ∈ mh_T := mh_T_in (List.mem_append_right _ (List.mem_of_getElem? (i := 758) (by decide +kernel))) (by decide +kernel)
set_option maxRecDepth 100000 in
theorem wd_759 : (Jvm.Cond.methodLink "java/lang/StringLatin1" (88 : Nat) ({ cls := "java/lang/StringLatin1", name := "canEncode", desc := "(I)Z" } : Jvm.MethodName)) ∈ mh_T := mh_T_in (List.mem_append_right _ (List.mem_of_getElem? (i := 759) (by decide +kernel))) (by decide +kernel)
set_option maxRecDepth 100000 in
theorem wd_760 : (Jvm.Cond.static ({ cls := "java/lang/StringLatin1", name := "canEncode", desc := "(I)Z" } : Jvm.MethodName)) ∈ mh_T := mh_T_in (List.mem_append_right _ (List.mem_of_getElem? (i := 760) (by decide +kernel))) (by decide +kernel)
set_option maxRecDepth 100000 in
theorem wd_761 : (Jvm.Cond.code ({ cls := "java/lang/StringLatin1", name := "canEncode", desc := "(I)Z" } : Jvm.MethodName) prog_19_method_4_code (1 : Nat) (Option.some Jvm.ClassFile.FieldType.boolean)) ∈ mh_T := mh_T_in (List.mem_append_right _ (List.mem_of_getElem? (i := 761) (by decide +kernel))) (by decide +kernel)
set_option maxRecDepth 100000 in
theorem wd_762 : (Jvm.Cond.methodLink "java/lang/StringLatin1" (92 : Nat) ({ cls := "java/lang/Math", name := "max", desc := "(II)I" } : Jvm.MethodName)) ∈ mh_T := mh_T_in (List.mem_append_right _ (List.mem_of_getElem? (i := 762) (by decide +kernel))) (by decide +kernel)
set_option maxRecDepth 100000 in
theorem wd_763 : (Jvm.Cond.methodLink "java/lang/StringLatin1" (38 : Nat) ({ cls := "java/lang/Math", name := "min", desc := "(II)I" } : Jvm.MethodName)) ∈ mh_T := mh_T_in (List.mem_append_right _ (List.mem_of_getElem? (i := 763) (by decide +kernel))) (by decide +kernel)
set_option maxRecDepth 100000 in
theorem wd_764 : (Jvm.Cond.methodLink "java/lang/StringLatin1" (95 : Nat) ({ cls := "java/lang/StringLatin1", name := "indexOfChar", desc := "([BIII)I" } : Jvm.MethodName)) ∈ mh_T := mh_T_in (List.mem_append_right _ (List.mem_of_getElem? (i := 764) (by decide +kernel))) (by decide +kernel)
set_option maxRecDepth 100000 in
theorem wd_765 : (Jvm.Cond.static ({ cls := "java/lang/StringLatin1", name := "indexOfChar", desc := "([BIII)I" } : Jvm.MethodName)) ∈ mh_T := mh_T_in (List.mem_append_right _ (List.mem_of_getElem? (i := 765) (by decide +kernel))) (by decide +kernel)
set_option maxRecDepth 100000 in
theorem wd_766 : (Jvm.Cond.code ({ cls := "java/lang/StringLatin1", name := "indexOfChar", desc := "([BIII)I" } : Jvm.MethodName) prog_19_method_23_code (6 : Nat) (Option.some Jvm.ClassFile.FieldType.int)) ∈ mh_T := mh_T_in (List.mem_append_right _ (List.mem_of_getElem? (i := 766) (by decide +kernel))) (by decide +kernel)
set_option maxRecDepth 100000 in
theorem wd_816 : (Jvm.Cond.methodLink "HoleWater$Reader" (57 : Nat) ({ cls := "HoleWater$Reader", name := "tests", desc := "()V" } : Jvm.MethodName)) ∈ mh_T := mh_T_in (List.mem_append_right _ (List.mem_of_getElem? (i := 816) (by decide +kernel))) (by decide +kernel)
set_option maxRecDepth 100000 in
theorem wd_818 : (Jvm.Cond.instanceMethod ({ cls := "HoleWater$Reader", name := "tests", desc := "()V" } : Jvm.MethodName)) ∈ mh_T := mh_T_in (List.mem_append_right _ (List.mem_of_getElem? (i := 818) (by decide +kernel))) (by decide +kernel)
set_option maxRecDepth 100000 in
theorem wd_819 : (Jvm.Cond.code ({ cls := "HoleWater$Reader", name := "tests", desc := "()V" } : Jvm.MethodName) prog_7_method_6_code (4 : Nat) (Option.none : Option Jvm.ClassFile.FieldType)) ∈ mh_T := mh_T_in (List.mem_append_right _ (List.mem_of_getElem? (i := 819) (by decide +kernel))) (by decide +kernel)
set_option maxRecDepth 100000 in
theorem wd_820 : (Jvm.Cond.methodLink "HoleWater" (256 : Nat) ({ cls := "HoleWater$Row", name := "copyOf", desc := "(LHoleWater$Row;)V" } : Jvm.MethodName)) ∈ mh_T := mh_T_in (List.mem_append_right _ (List.mem_of_getElem? (i := 820) (by decide +kernel))) (by decide +kernel)
set_option maxRecDepth 100000 in
theorem wd_821 : (Jvm.Cond.instanceMethod ({ cls := "HoleWater$Row", name := "copyOf", desc := "(LHoleWater$Row;)V" } : Jvm.MethodName)) ∈ mh_T := mh_T_in (List.mem_append_right _ (List.mem_of_getElem? (i := 821) (by decide +kernel))) (by decide +kernel)
set_option maxRecDepth 100000 in
theorem wd_822 : (Jvm.Cond.selects "HoleWater$Row" ({ cls := "HoleWater$Row", name := "copyOf", desc := "(LHoleWater$Row;)V" } : Jvm.MethodName) ({ cls := "HoleWater$Row", name := "copyOf", desc := "(LHoleWater$Row;)V" } : Jvm.MethodName)) ∈ mh_T := mh_T_in (List.mem_append_right _ (List.mem_of_getElem? (i := 822) (by decide +kernel))) (by decide +kernel)
set_option maxRecDepth 100000 in
theorem wd_823 : (Jvm.Cond.code ({ cls := "HoleWater$Row", name := "copyOf", desc := "(LHoleWater$Row;)V" } : Jvm.MethodName) prog_8_method_4_code (2 : Nat) (Option.none : Option Jvm.ClassFile.FieldType)) ∈ mh_T := mh_T_in (List.mem_append_right _ (List.mem_of_getElem? (i := 823) (by decide +kernel))) (by decide +kernel)
set_option maxRecDepth 100000 in
theorem wd_824 : (Jvm.Cond.methodLink "HoleWater$Row" (23 : Nat) ({ cls := "java/lang/Math", name := "min", desc := "(II)I" } : Jvm.MethodName)) ∈ mh_T := mh_T_in (List.mem_append_right _ (List.mem_of_getElem? (i := 824) (by decide +kernel))) (by decide +kernel)
set_option maxRecDepth 100000 in
theorem wd_825 : (Jvm.Cond.methodLink "HoleWater$Row" (26 : Nat) ({ cls := "java/lang/System", name := "arraycopy", desc := "(Ljava/lang/Object;ILjava/lang/Object;II)V" } : Jvm.MethodName)) ∈ mh_T := mh_T_in (List.mem_append_right _ (List.mem_of_getElem? (i := 825) (by decide +kernel))) (by decide +kernel)
set_option maxRecDepth 100000 in
theorem wd_826 : (Jvm.Cond.methodLink "HoleWaterLaw" (103 : Nat) ({ cls := "HoleWater", name := "rain", desc := "(I)I" } : Jvm.MethodName)) ∈ mh_T := mh_T_in (List.mem_append_right _ (List.mem_of_getElem? (i := 826) (by decide +kernel))) (by decide +kernel)
set_option maxRecDepth 100000 in
theorem wd_827 : (Jvm.Cond.instanceMethod ({ cls := "HoleWater", name := "rain", desc := "(I)I" } : Jvm.MethodName)) ∈ mh_T := mh_T_in (List.mem_append_right _ (List.mem_of_getElem? (i := 827) (by decide +kernel))) (by decide +kernel)
set_option maxRecDepth 100000 in
theorem wd_828 : (Jvm.Cond.selects "HoleWater" ({ cls := "HoleWater", name := "rain", desc := "(I)I" } : Jvm.MethodName) ({ cls := "HoleWater", name := "rain", desc := "(I)I" } : Jvm.MethodName)) ∈ mh_T := mh_T_in (List.mem_append_right _ (List.mem_of_getElem? (i := 828) (by decide +kernel))) (by decide +kernel)
set_option maxRecDepth 100000 in
theorem wd_829 : (Jvm.Cond.code ({ cls := "HoleWater", name := "rain", desc := "(I)I" } : Jvm.MethodName) prog_1_method_22_code (2 : Nat) (Option.some Jvm.ClassFile.FieldType.int)) ∈ mh_T := mh_T_in (List.mem_append_right _ (List.mem_of_getElem? (i := 829) (by decide +kernel))) (by decide +kernel)
set_option maxRecDepth 100000 in
theorem wd_830 : (Jvm.Cond.methodLink "HoleWater" (260 : Nat) ({ cls := "HoleWater$World", name := "rainOn", desc := "(ILHoleWater$Water;LHoleWater$Reader;)I" } : Jvm.MethodName)) ∈ mh_T := mh_T_in (List.mem_append_right _ (List.mem_of_getElem? (i := 830) (by decide +kernel))) (by decide +kernel)
set_option maxRecDepth 100000 in
theorem wd_831 : (Jvm.Cond.methodLink "HoleWaterLaw" (107 : Nat) ({ cls := "HoleWater", name := "seen", desc := "(III)I" } : Jvm.MethodName)) ∈ mh_T := mh_T_in (List.mem_append_right _ (List.mem_of_getElem? (i := 831) (by decide +kernel))) (by decide +kernel)
set_option maxRecDepth 100000 in
theorem wd_832 : (Jvm.Cond.instanceMethod ({ cls := "HoleWater", name := "seen", desc := "(III)I" } : Jvm.MethodName)) ∈ mh_T := mh_T_in (List.mem_append_right _ (List.mem_of_getElem? (i := 832) (by decide +kernel))) (by decide +kernel)
set_option maxRecDepth 100000 in
theorem wd_833 : (Jvm.Cond.selects "HoleWater" ({ cls := "HoleWater", name := "seen", desc := "(III)I" } : Jvm.MethodName) ({ cls := "HoleWater", name := "seen", desc := "(III)I" } : Jvm.MethodName)) ∈ mh_T := mh_T_in (List.mem_append_right _ (List.mem_of_getElem? (i := 833) (by decide +kernel))) (by decide +kernel)
set_option maxRecDepth 100000 in
theorem wd_834 : (Jvm.Cond.code ({ cls := "HoleWater", name := "seen", desc := "(III)I" } : Jvm.MethodName) prog_1_method_23_code (4 : Nat) (Option.some Jvm.ClassFile.FieldType.int)) ∈ mh_T := mh_T_in (List.mem_append_right _ (List.mem_of_getElem? (i := 834) (by decide +kernel))) (by decide +kernel)
set_option maxRecDepth 100000 in
theorem wd_835 : (Jvm.Cond.methodLink "HoleWater" (264 : Nat) ({ cls := "HoleWater$World", name := "seenAt", desc := "(IIILHoleWater$Reader;)I" } : Jvm.MethodName)) ∈ mh_T := mh_T_in (List.mem_append_right _ (List.mem_of_getElem? (i := 835) (by decide +kernel))) (by decide +kernel)
set_option maxRecDepth 100000 in
theorem wd_836 : (Jvm.Cond.instanceMethod ({ cls := "HoleWater$World", name := "seenAt", desc := "(IIILHoleWater$Reader;)I" } : Jvm.MethodName)) ∈ mh_T := mh_T_in (List.mem_append_right _ (List.mem_of_getElem? (i := 836) (by decide +kernel))) (by decide +kernel)
set_option maxRecDepth 100000 in
theorem wd_837 : (Jvm.Cond.selects "HoleWater$World" ({ cls := "HoleWater$World", name := "seenAt", desc := "(IIILHoleWater$Reader;)I" } : Jvm.MethodName) ({ cls := "HoleWater$World", name := "seenAt", desc := "(IIILHoleWater$Reader;)I" } : Jvm.MethodName)) ∈ mh_T := mh_T_in (List.mem_append_right _ (List.mem_of_getElem? (i := 837) (by decide +kernel))) (by decide +kernel)
set_option maxRecDepth 100000 in
theorem wd_838 : (Jvm.Cond.code ({ cls := "HoleWater$World", name := "seenAt", desc := "(IIILHoleWater$Reader;)I" } : Jvm.MethodName) prog_12_method_13_code (5 : Nat) (Option.some Jvm.ClassFile.FieldType.int)) ∈ mh_T := mh_T_in (List.mem_append_right _ (List.mem_of_getElem? (i := 838) (by decide +kernel))) (by decide +kernel)
set_option maxRecDepth 100000 in
theorem wd_839 : (Jvm.Cond.methodLink "HoleWaterLaw" (111 : Nat) ({ cls := "HoleWater", name := "bottle", desc := "(II)I" } : Jvm.MethodName)) ∈ mh_T := mh_T_in (List.mem_append_right _ (List.mem_of_getElem? (i := 839) (by decide +kernel))) (by decide +kernel)
set_option maxRecDepth 100000 in
theorem wd_840 : (Jvm.Cond.instanceMethod ({ cls := "HoleWater", name := "bottle", desc := "(II)I" } : Jvm.MethodName)) ∈ mh_T := mh_T_in (List.mem_append_right _ (List.mem_of_getElem? (i := 840) (by decide +kernel))) (by decide +kernel)
set_option maxRecDepth 100000 in
theorem wd_841 : (Jvm.Cond.selects "HoleWater" ({ cls := "HoleWater", name := "bottle", desc := "(II)I" } : Jvm.MethodName) ({ cls := "HoleWater", name := "bottle", desc := "(II)I" } : Jvm.MethodName)) ∈ mh_T := mh_T_in (List.mem_append_right _ (List.mem_of_getElem? (i := 841) (by decide +kernel))) (by decide +kernel)
