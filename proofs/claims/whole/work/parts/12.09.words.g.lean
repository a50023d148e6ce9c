set_option maxRecDepth 100000 in
theorem wd_1733 : (Jvm.Cond.constantLong "HoleWaterLaw" (92 : Nat) (4294967295 : Int64)) ∈ mh_T := mh_T_in (List.mem_append_right _ (List.mem_of_getElem? (i := 1733) (by decide +kernel))) (by decide +kernel)
set_option maxRecDepth 100000 in
theorem wd_1734 : (Jvm.Cond.sameMethod "HoleWater$Open" "HoleWater$Open" "runs" "(ILHoleWater$Row;)I") ∈ mh_T := mh_T_in (List.mem_append_right _ (List.mem_of_getElem? (i := 1734) (by decide +kernel))) (by decide +kernel)
set_option maxRecDepth 100000 in
theorem wd_1735 : (Jvm.Cond.selects "HoleWater$Open" ({ cls := "HoleWater$Open", name := "runs", desc := "(ILHoleWater$Row;)I" } : Jvm.MethodName) ({ cls := "HoleWater$Open", name := "runs", desc := "(ILHoleWater$Row;)I" } : Jvm.MethodName)) ∈ mh_T := mh_T_in (List.mem_append_right _ (List.mem_of_getElem? (i := 1735) (by decide +kernel))) (by decide +kernel)
set_option maxRecDepth 100000 in
theorem wd_1736 : (Jvm.Cond.selects "HoleWater$Overflow" ({ cls := "HoleWater$Open", name := "runs", desc := "(ILHoleWater$Row;)I" } : Jvm.MethodName) ({ cls := "HoleWater$Overflow", name := "runs", desc := "(ILHoleWater$Row;)I" } : Jvm.MethodName)) ∈ mh_T := mh_T_in (List.mem_append_right _ (List.mem_of_getElem? (i := 1736) (by decide +kernel))) (by decide +kernel)
set_option maxRecDepth 100000 in
theorem wd_1738 : (Jvm.Cond.selects "HoleWater$Blind" ({ cls := "HoleWater$Way", name := "isParted", desc := "()Z" } : Jvm.MethodName) ({ cls := "HoleWater$Way", name := "isParted", desc := "()Z" } : Jvm.MethodName)) ∈ mh_T := mh_T_in (List.mem_append_right _ (List.mem_of_getElem? (i := 1738) (by decide +kernel))) (by decide +kernel)
set_option maxRecDepth 100000 in
theorem wd_1739 : (Jvm.Cond.selects "HoleWater$Open" ({ cls := "HoleWater$Way", name := "isParted", desc := "()Z" } : Jvm.MethodName) ({ cls := "HoleWater$Way", name := "isParted", desc := "()Z" } : Jvm.MethodName)) ∈ mh_T := mh_T_in (List.mem_append_right _ (List.mem_of_getElem? (i := 1739) (by decide +kernel))) (by decide +kernel)
set_option maxRecDepth 100000 in
theorem wd_1740 : (Jvm.Cond.selects "HoleWater$Overflow" ({ cls := "HoleWater$Way", name := "isParted", desc := "()Z" } : Jvm.MethodName) ({ cls := "HoleWater$Way", name := "isParted", desc := "()Z" } : Jvm.MethodName)) ∈ mh_T := mh_T_in (List.mem_append_right _ (List.mem_of_getElem? (i := 1740) (by decide +kernel))) (by decide +kernel)
set_option maxRecDepth 100000 in
theorem wd_1741 : (Jvm.Cond.selects "HoleWater$Pool" ({ cls := "HoleWater$Way", name := "isParted", desc := "()Z" } : Jvm.MethodName) ({ cls := "HoleWater$Way", name := "isParted", desc := "()Z" } : Jvm.MethodName)) ∈ mh_T := mh_T_in (List.mem_append_right _ (List.mem_of_getElem? (i := 1741) (by decide +kernel))) (by decide +kernel)
set_option maxRecDepth 100000 in
theorem wd_1742 : (Jvm.Cond.selects "HoleWater$Sieve" ({ cls := "HoleWater$Way", name := "isParted", desc := "()Z" } : Jvm.MethodName) ({ cls := "HoleWater$Way", name := "isParted", desc := "()Z" } : Jvm.MethodName)) ∈ mh_T := mh_T_in (List.mem_append_right _ (List.mem_of_getElem? (i := 1742) (by decide +kernel))) (by decide +kernel)
set_option maxRecDepth 100000 in
theorem wd_1743 : (Jvm.Cond.selects "HoleWater$Way" ({ cls := "HoleWater$Way", name := "isParted", desc := "()Z" } : Jvm.MethodName) ({ cls := "HoleWater$Way", name := "isParted", desc := "()Z" } : Jvm.MethodName)) ∈ mh_T := mh_T_in (List.mem_append_right _ (List.mem_of_getElem? (i := 1743) (by decide +kernel))) (by decide +kernel)
set_option maxRecDepth 100000 in
theorem wd_1751 : (Jvm.Cond.fieldLink "java/lang/String" (15 : Nat) "java/lang/String" "coder" "B") ∈ mh_T := mh_T_in (List.mem_append_right _ (List.mem_of_getElem? (i := 1751) (by decide +kernel))) (by decide +kernel)
set_option maxRecDepth 100000 in
theorem wd_1752 : (Jvm.Cond.fieldLink "java/lang/String" (9 : Nat) "java/lang/String" "value" "[B") ∈ mh_T := mh_T_in (List.mem_append_right _ (List.mem_of_getElem? (i := 1752) (by decide +kernel))) (by decide +kernel)
set_option maxRecDepth 100000 in
theorem wn_41 : (Jvm.Cond.methodLinkNest "HoleWater$World" (39 : Nat) ({ cls := "HoleWater$Water", name := "<init>", desc := "()V" } : Jvm.MethodName) "HoleWater") ∈ mh_nest := List.mem_filter.mpr ⟨List.mem_append_right _ (List.mem_of_getElem? (i := 41) (by decide +kernel)), rfl⟩
set_option maxRecDepth 100000 in
theorem wn_100 : (Jvm.Cond.methodLinkNest "HoleWater$World" (46 : Nat) ({ cls := "HoleWater$Looks", name := "<init>", desc := "()V" } : Jvm.MethodName) "HoleWater") ∈ mh_nest := List.mem_filter.mpr ⟨List.mem_append_right _ (List.mem_of_getElem? (i := 100) (by decide +kernel)), rfl⟩
set_option maxRecDepth 100000 in
theorem wn_242 : (Jvm.Cond.methodLinkNest "HoleWater" (21 : Nat) ({ cls := "HoleWater$Water", name := "<init>", desc := "()V" } : Jvm.MethodName) "HoleWater") ∈ mh_nest := List.mem_filter.mpr ⟨List.mem_append_right _ (List.mem_of_getElem? (i := 242) (by decide +kernel)), rfl⟩
set_option maxRecDepth 100000 in
theorem wn_245 : (Jvm.Cond.methodLinkNest "HoleWater" (28 : Nat) ({ cls := "HoleWater$Reader", name := "<init>", desc := "()V" } : Jvm.MethodName) "HoleWater") ∈ mh_nest := List.mem_filter.mpr ⟨List.mem_append_right _ (List.mem_of_getElem? (i := 245) (by decide +kernel)), rfl⟩
set_option maxRecDepth 100000 in
theorem wn_538 : (Jvm.Cond.methodLinkNest "HoleWater$Pool" (13 : Nat) ({ cls := "HoleWater", name := "by", desc := "(II)I" } : Jvm.MethodName) "HoleWater") ∈ mh_nest := List.mem_filter.mpr ⟨List.mem_append_right _ (List.mem_of_getElem? (i := 538) (by decide +kernel)), rfl⟩
set_option maxRecDepth 100000 in
theorem wn_569 : (Jvm.Cond.methodLinkNest "HoleWater$Reader" (115 : Nat) ({ cls := "HoleWater", name := "by", desc := "(II)I" } : Jvm.MethodName) "HoleWater") ∈ mh_nest := List.mem_filter.mpr ⟨List.mem_append_right _ (List.mem_of_getElem? (i := 569) (by decide +kernel)), rfl⟩
set_option maxRecDepth 100000 in
theorem wn_570 : (Jvm.Cond.methodLinkNest "HoleWater$World" (129 : Nat) ({ cls := "HoleWater", name := "held", desc := "(III)I" } : Jvm.MethodName) "HoleWater") ∈ mh_nest := List.mem_filter.mpr ⟨List.mem_append_right _ (List.mem_of_getElem? (i := 570) (by decide +kernel)), rfl⟩
set_option maxRecDepth 100000 in
theorem wn_590 : (Jvm.Cond.methodLinkNest "HoleWater$Water" (150 : Nat) ({ cls := "HoleWater", name := "by", desc := "(II)I" } : Jvm.MethodName) "HoleWater") ∈ mh_nest := List.mem_filter.mpr ⟨List.mem_append_right _ (List.mem_of_getElem? (i := 590) (by decide +kernel)), rfl⟩
set_option maxRecDepth 100000 in
theorem wn_602 : (Jvm.Cond.methodLinkNest "HoleWater$Sieve" (17 : Nat) ({ cls := "HoleWater", name := "by", desc := "(II)I" } : Jvm.MethodName) "HoleWater") ∈ mh_nest := List.mem_filter.mpr ⟨List.mem_append_right _ (List.mem_of_getElem? (i := 602) (by decide +kernel)), rfl⟩
set_option maxRecDepth 100000 in
theorem wn_891 : (Jvm.Cond.methodLinkNest "HoleWater$Looks" (63 : Nat) ({ cls := "HoleWater", name := "bit", desc := "(II)I" } : Jvm.MethodName) "HoleWater") ∈ mh_nest := List.mem_filter.mpr ⟨List.mem_append_right _ (List.mem_of_getElem? (i := 891) (by decide +kernel)), rfl⟩
set_option maxRecDepth 100000 in
theorem wn_1104 : (Jvm.Cond.methodLinkNest "HoleWater$Way" (35 : Nat) ({ cls := "HoleWater", name := "by", desc := "(II)I" } : Jvm.MethodName) "HoleWater") ∈ mh_nest := List.mem_filter.mpr ⟨List.mem_append_right _ (List.mem_of_getElem? (i := 1104) (by decide +kernel)), rfl⟩
set_option maxRecDepth 100000 in
theorem wp_0 : Cond.selects "HoleWater" ⟨"HoleWater", "error", "(I)I"⟩ ⟨"HoleWater", "error", "(I)I"⟩ ∈ mh_T := mh_T_in (List.mem_append_left _ (List.mem_of_getElem? (i := 0) (by decide +kernel))) (by decide +kernel)
set_option maxRecDepth 100000 in
theorem wp_1 : Cond.selects "HoleWater" ⟨"HoleWater", "goAlong", "(LHoleWater$Way;)V"⟩ ⟨"HoleWater", "goAlong", "(LHoleWater$Way;)V"⟩ ∈ mh_T := mh_T_in (List.mem_append_left _ (List.mem_of_getElem? (i := 1) (by decide +kernel))) (by decide +kernel)
set_option maxRecDepth 100000 in
theorem wp_2 : Cond.selects "HoleWater$Water" ⟨"HoleWater$Water", "leave", "(ILHoleWater$Way;)V"⟩ ⟨"HoleWater$Water", "leave", "(ILHoleWater$Way;)V"⟩ ∈ mh_T := mh_T_in (List.mem_append_left _ (List.mem_of_getElem? (i := 2) (by decide +kernel))) (by decide +kernel)
set_option maxRecDepth 100000 in
theorem wp_3 : Cond.selects "HoleWater$Water" ⟨"HoleWater$Water", "slotNow", "(II)I"⟩ ⟨"HoleWater$Water", "slotNow", "(II)I"⟩ ∈ mh_T := mh_T_in (List.mem_append_left _ (List.mem_of_getElem? (i := 3) (by decide +kernel))) (by decide +kernel)
set_option maxRecDepth 100000 in
theorem wp_4 : Cond.selects "HoleWater$Water" ⟨"HoleWater$Water", "fadeAway", "(III)I"⟩ ⟨"HoleWater$Water", "fadeAway", "(III)I"⟩ ∈ mh_T := mh_T_in (List.mem_append_left _ (List.mem_of_getElem? (i := 4) (by decide +kernel))) (by decide +kernel)
set_option maxRecDepth 100000 in
theorem wp_5 : Cond.selects "HoleWater$Reader" ⟨"HoleWater$Reader", "valueOf", "(I)I"⟩ ⟨"HoleWater$Reader", "valueOf", "(I)I"⟩ ∈ mh_T := mh_T_in (List.mem_append_left _ (List.mem_of_getElem? (i := 5) (by decide +kernel))) (by decide +kernel)
set_option maxRecDepth 100000 in
theorem wp_6 : Cond.selects "HoleWater$Reader" ⟨"HoleWater$Reader", "push", "(I)V"⟩ ⟨"HoleWater$Reader", "push", "(I)V"⟩ ∈ mh_T := mh_T_in (List.mem_append_left _ (List.mem_of_getElem? (i := 6) (by decide +kernel))) (by decide +kernel)
set_option maxRecDepth 100000 in
theorem wp_7 : Cond.selects "HoleWater$Reader" ⟨"HoleWater$Reader", "pop", "()I"⟩ ⟨"HoleWater$Reader", "pop", "()I"⟩ ∈ mh_T := mh_T_in (List.mem_append_left _ (List.mem_of_getElem? (i := 7) (by decide +kernel))) (by decide +kernel)
set_option maxRecDepth 100000 in
theorem wp_8 : Cond.selects "HoleWater$Water" ⟨"HoleWater$Water", "comeOut", "(II)V"⟩ ⟨"HoleWater$Water", "comeOut", "(II)V"⟩ ∈ mh_T := mh_T_in (List.mem_append_left _ (List.mem_of_getElem? (i := 8) (by decide +kernel))) (by decide +kernel)
set_option maxRecDepth 100000 in
theorem wp_9 : Cond.selects "HoleWater$Water" ⟨"HoleWater$Water", "sendOff", "(ILHoleWater$World;)V"⟩ ⟨"HoleWater$Water", "sendOff", "(ILHoleWater$World;)V"⟩ ∈ mh_T := mh_T_in (List.mem_append_left _ (List.mem_of_getElem? (i := 9) (by decide +kernel))) (by decide +kernel)
set_option maxRecDepth 100000 in
theorem wp_10 : Cond.selects "HoleWater$Water" ⟨"HoleWater$Water", "shareOut", "(IILHoleWater$World;)I"⟩ ⟨"HoleWater$Water", "shareOut", "(IILHoleWater$World;)I"⟩ ∈ mh_T := mh_T_in (List.mem_append_left _ (List.mem_of_getElem? (i := 10) (by decide +kernel))) (by decide +kernel)
set_option maxRecDepth 100000 in
theorem wp_11 : Cond.selects "HoleWater$Water" ⟨"HoleWater$Water", "enter", "(ILHoleWater$Way;II)V"⟩ ⟨"HoleWater$Water", "enter", "(ILHoleWater$Way;II)V"⟩ ∈ mh_T := mh_T_in (List.mem_append_left _ (List.mem_of_getElem? (i := 11) (by decide +kernel))) (by decide +kernel)
set_option maxRecDepth 100000 in
theorem wp_12 : Cond.selects "HoleWater$Water" ⟨"HoleWater$Water", "sendGrains", "(IIIILHoleWater$World;)V"⟩ ⟨"HoleWater$Water", "sendGrains", "(IIIILHoleWater$World;)V"⟩ ∈ mh_T := mh_T_in (List.mem_append_left _ (List.mem_of_getElem? (i := 12) (by decide +kernel))) (by decide +kernel)
set_option maxRecDepth 100000 in
theorem wp_13 : Cond.selects "HoleWater" ⟨"HoleWater", "spillError", "(III)I"⟩ ⟨"HoleWater", "spillError", "(III)I"⟩ ∈ mh_T := mh_T_in (List.mem_append_left _ (List.mem_of_getElem? (i := 13) (by decide +kernel))) (by decide +kernel)
set_option maxRecDepth 100000 in
theorem wp_14 : Cond.selects "HoleWater$Reader" ⟨"HoleWater$Reader", "begin", "(LHoleWater$Row;Ljava/lang/String;)V"⟩ ⟨"HoleWater$Reader", "begin", "(LHoleWater$Row;Ljava/lang/String;)V"⟩ ∈ mh_T := mh_T_in (List.mem_append_left _ (List.mem_of_getElem? (i := 14) (by decide +kernel))) (by decide +kernel)
set_option maxRecDepth 100000 in
theorem wp_15 : Cond.selects "HoleWater$Reader" ⟨"HoleWater$Reader", "sum", "(I)V"⟩ ⟨"HoleWater$Reader", "sum", "(I)V"⟩ ∈ mh_T := mh_T_in (List.mem_append_left _ (List.mem_of_getElem? (i := 15) (by decide +kernel))) (by decide +kernel)
set_option maxRecDepth 100000 in
theorem wp_16 : Cond.selects "HoleWater$Reader" ⟨"HoleWater$Reader", "term", "(I)V"⟩ ⟨"HoleWater$Reader", "term", "(I)V"⟩ ∈ mh_T := mh_T_in (List.mem_append_left _ (List.mem_of_getElem? (i := 16) (by decide +kernel))) (by decide +kernel)
set_option maxRecDepth 100000 in
theorem wp_17 : Cond.selects "HoleWater$Reader" ⟨"HoleWater$Reader", "one", "(I)V"⟩ ⟨"HoleWater$Reader", "one", "(I)V"⟩ ∈ mh_T := mh_T_in (List.mem_append_left _ (List.mem_of_getElem? (i := 17) (by decide +kernel))) (by decide +kernel)
set_option maxRecDepth 100000 in
theorem wp_18 : Cond.selects "HoleWater$Reader" ⟨"HoleWater$Reader", "next", "()I"⟩ ⟨"HoleWater$Reader", "next", "()I"⟩ ∈ mh_T := mh_T_in (List.mem_append_left _ (List.mem_of_getElem? (i := 18) (by decide +kernel))) (by decide +kernel)
set_option maxRecDepth 100000 in
theorem wp_19 : Cond.selects "HoleWater$Reader" ⟨"HoleWater$Reader", "number", "()I"⟩ ⟨"HoleWater$Reader", "number", "()I"⟩ ∈ mh_T := mh_T_in (List.mem_append_left _ (List.mem_of_getElem? (i := 19) (by decide +kernel))) (by decide +kernel)
set_option maxRecDepth 100000 in
theorem wp_20 : Cond.selects "HoleWater$Reader" ⟨"HoleWater$Reader", "take", "(I)Z"⟩ ⟨"HoleWater$Reader", "take", "(I)Z"⟩ ∈ mh_T := mh_T_in (List.mem_append_left _ (List.mem_of_getElem? (i := 20) (by decide +kernel))) (by decide +kernel)
set_option maxRecDepth 100000 in
theorem wp_21 : Cond.selects "HoleWater$Reader" ⟨"HoleWater$Reader", "tests", "()V"⟩ ⟨"HoleWater$Reader", "tests", "()V"⟩ ∈ mh_T := mh_T_in (List.mem_append_left _ (List.mem_of_getElem? (i := 21) (by decide +kernel))) (by decide +kernel)
set_option maxRecDepth 100000 in
theorem wp_22 : Cond.selects "HoleWater" ⟨"HoleWater", "lookError", "(II)I"⟩ ⟨"HoleWater", "lookError", "(II)I"⟩ ∈ mh_T := mh_T_in (List.mem_append_left _ (List.mem_of_getElem? (i := 22) (by decide +kernel))) (by decide +kernel)
set_option maxRecDepth 100000 in
theorem wp_23 : Cond.selects "HoleWater" ⟨"HoleWater", "lookSees", "(IIII)Z"⟩ ⟨"HoleWater", "lookSees", "(IIII)Z"⟩ ∈ mh_T := mh_T_in (List.mem_append_left _ (List.mem_of_getElem? (i := 23) (by decide +kernel))) (by decide +kernel)
set_option maxRecDepth 100000 in
theorem wp_24 : Cond.selects "HoleWater$Looks" ⟨"HoleWater$Looks", "holesOf", "(I)I"⟩ ⟨"HoleWater$Looks", "holesOf", "(I)I"⟩ ∈ mh_T := mh_T_in (List.mem_append_left _ (List.mem_of_getElem? (i := 24) (by decide +kernel))) (by decide +kernel)
set_option maxRecDepth 100000 in
theorem wp_25 : Cond.selects "HoleWater" ⟨"HoleWater", "pairError", "(II)I"⟩ ⟨"HoleWater", "pairError", "(II)I"⟩ ∈ mh_T := mh_T_in (List.mem_append_left _ (List.mem_of_getElem? (i := 25) (by decide +kernel))) (by decide +kernel)
set_option maxRecDepth 100000 in
theorem wp_26 : Cond.selects "HoleWater$Looks" ⟨"HoleWater$Looks", "isAbout", "(III)Z"⟩ ⟨"HoleWater$Looks", "isAbout", "(III)Z"⟩ ∈ mh_T := mh_T_in (List.mem_append_left _ (List.mem_of_getElem? (i := 26) (by decide +kernel))) (by decide +kernel)
set_option maxRecDepth 100000 in
theorem wp_27 : Cond.selects "HoleWater$Looks" ⟨"HoleWater$Looks", "saw", "(I)Z"⟩ ⟨"HoleWater$Looks", "saw", "(I)Z"⟩ ∈ mh_T := mh_T_in (List.mem_append_left _ (List.mem_of_getElem? (i := 27) (by decide +kernel))) (by decide +kernel)
set_option maxRecDepth 100000 in
theorem wp_28 : Cond.selects "HoleWater" ⟨"HoleWater", "isMust", "(II)Z"⟩ ⟨"HoleWater", "isMust", "(II)Z"⟩ ∈ mh_T := mh_T_in (List.mem_append_left _ (List.mem_of_getElem? (i := 28) (by decide +kernel))) (by decide +kernel)
set_option maxRecDepth 100000 in
theorem wp_29 : Cond.selects "HoleWater$World" ⟨"HoleWater$World", "side", "(III)I"⟩ ⟨"HoleWater$World", "side", "(III)I"⟩ ∈ mh_T := mh_T_in (List.mem_append_left _ (List.mem_of_getElem? (i := 29) (by decide +kernel))) (by decide +kernel)
set_option maxRecDepth 100000 in
theorem wp_30 : Cond.selects "HoleWater$Looks" ⟨"HoleWater$Looks", "findSides", "(II)I"⟩ ⟨"HoleWater$Looks", "findSides", "(II)I"⟩ ∈ mh_T := mh_T_in (List.mem_append_left _ (List.mem_of_getElem? (i := 30) (by decide +kernel))) (by decide +kernel)
set_option maxRecDepth 100000 in
theorem wp_31 : Cond.selects "HoleWater$Looks" ⟨"HoleWater$Looks", "coverOf", "(II)I"⟩ ⟨"HoleWater$Looks", "coverOf", "(II)I"⟩ ∈ mh_T := mh_T_in (List.mem_append_left _ (List.mem_of_getElem? (i := 31) (by decide +kernel))) (by decide +kernel)
set_option maxRecDepth 100000 in
theorem wp_32 : Cond.selects "HoleWater$Looks" ⟨"HoleWater$Looks", "canCover", "(II)Z"⟩ ⟨"HoleWater$Looks", "canCover", "(II)Z"⟩ ∈ mh_T := mh_T_in (List.mem_append_left _ (List.mem_of_getElem? (i := 32) (by decide +kernel))) (by decide +kernel)
set_option maxRecDepth 100000 in
theorem wp_33 : Cond.selects "HoleWater$Looks" ⟨"HoleWater$Looks", "holesLookedFor", "(I)I"⟩ ⟨"HoleWater$Looks", "holesLookedFor", "(I)I"⟩ ∈ mh_T := mh_T_in (List.mem_append_left _ (List.mem_of_getElem? (i := 33) (by decide +kernel))) (by decide +kernel)
set_option maxRecDepth 100000 in
theorem wp_34 : Cond.selects "HoleWater$Looks" ⟨"HoleWater$Looks", "planSprings", "(III)V"⟩ ⟨"HoleWater$Looks", "planSprings", "(III)V"⟩ ∈ mh_T := mh_T_in (List.mem_append_left _ (List.mem_of_getElem? (i := 34) (by decide +kernel))) (by decide +kernel)
set_option maxRecDepth 100000 in
theorem wp_35 : Cond.selects "HoleWater$Looks" ⟨"HoleWater$Looks", "isFullBottle", "(II)Z"⟩ ⟨"HoleWater$Looks", "isFullBottle", "(II)Z"⟩ ∈ mh_T := mh_T_in (List.mem_append_left _ (List.mem_of_getElem? (i := 35) (by decide +kernel))) (by decide +kernel)
set_option maxRecDepth 100000 in
theorem wp_36 : Cond.selects "HoleWater$Looks" ⟨"HoleWater$Looks", "wasSeenAhead", "(II)Z"⟩ ⟨"HoleWater$Looks", "wasSeenAhead", "(II)Z"⟩ ∈ mh_T := mh_T_in (List.mem_append_left _ (List.mem_of_getElem? (i := 36) (by decide +kernel))) (by decide +kernel)
set_option maxRecDepth 100000 in
theorem wp_37 : Cond.selects "HoleWaterModel" ⟨"HoleWaterModel", "error", "(I)I"⟩ ⟨"HoleWaterModel", "error", "(I)I"⟩ ∈ mh_T := mh_T_in (List.mem_append_left _ (List.mem_of_getElem? (i := 37) (by decide +kernel))) (by decide +kernel)
set_option maxRecDepth 100000 in
theorem wp_38 : Cond.selects "HoleWaterModel" ⟨"HoleWaterModel", "isJoint", "(I)Z"⟩ ⟨"HoleWaterModel", "isJoint", "(I)Z"⟩ ∈ mh_T := mh_T_in (List.mem_append_left _ (List.mem_of_getElem? (i := 38) (by decide +kernel))) (by decide +kernel)
set_option maxRecDepth 100000 in
theorem wp_39 : Cond.selects "HoleWaterModel" ⟨"HoleWaterModel", "isEnd", "(I)Z"⟩ ⟨"HoleWaterModel", "isEnd", "(I)Z"⟩ ∈ mh_T := mh_T_in (List.mem_append_left _ (List.mem_of_getElem? (i := 39) (by decide +kernel))) (by decide +kernel)
set_option maxRecDepth 100000 in
theorem wp_40 : Cond.selects "HoleWaterModel" ⟨"HoleWaterModel", "sort", "(I)I"⟩ ⟨"HoleWaterModel", "sort", "(I)I"⟩ ∈ mh_T := mh_T_in (List.mem_append_left _ (List.mem_of_getElem? (i := 40) (by decide +kernel))) (by decide +kernel)
set_option maxRecDepth 100000 in
theorem wp_41 : Cond.selects "HoleWaterModel" ⟨"HoleWaterModel", "isHole", "(I)Z"⟩ ⟨"HoleWaterModel", "isHole", "(I)Z"⟩ ∈ mh_T := mh_T_in (List.mem_append_left _ (List.mem_of_getElem? (i := 41) (by decide +kernel))) (by decide +kernel)
set_option maxRecDepth 100000 in
theorem wp_42 : Cond.selects "HoleWaterModel" ⟨"HoleWaterModel", "isWay", "(I)Z"⟩ ⟨"HoleWaterModel", "isWay", "(I)Z"⟩ ∈ mh_T := mh_T_in (List.mem_append_left _ (List.mem_of_getElem? (i := 42) (by decide +kernel))) (by decide +kernel)
set_option maxRecDepth 100000 in
theorem wp_43 : Cond.selects "HoleWaterModel" ⟨"HoleWaterModel", "takes", "(I)I"⟩ ⟨"HoleWaterModel", "takes", "(I)I"⟩ ∈ mh_T := mh_T_in (List.mem_append_left _ (List.mem_of_getElem? (i := 43) (by decide +kernel))) (by decide +kernel)
set_option maxRecDepth 100000 in
theorem wp_44 : Cond.selects "HoleWaterModel" ⟨"HoleWaterModel", "inWay", "(II)I"⟩ ⟨"HoleWaterModel", "inWay", "(II)I"⟩ ∈ mh_T := mh_T_in (List.mem_append_left _ (List.mem_of_getElem? (i := 44) (by decide +kernel))) (by decide +kernel)
set_option maxRecDepth 100000 in
theorem wp_45 : Cond.selects "HoleWaterModel" ⟨"HoleWaterModel", "findFar", "(IZ)V"⟩ ⟨"HoleWaterModel", "findFar", "(IZ)V"⟩ ∈ mh_T := mh_T_in (List.mem_append_left _ (List.mem_of_getElem? (i := 45) (by decide +kernel))) (by decide +kernel)
set_option maxRecDepth 100000 in
theorem wp_46 : Cond.selects "HoleWaterModel" ⟨"HoleWaterModel", "hour", "()V"⟩ ⟨"HoleWaterModel", "hour", "()V"⟩ ∈ mh_T := mh_T_in (List.mem_append_left _ (List.mem_of_getElem? (i := 46) (by decide +kernel))) (by decide +kernel)
set_option maxRecDepth 100000 in
theorem wp_47 : Cond.selects "HoleWaterModel" ⟨"HoleWaterModel", "comesOut", "(I)V"⟩ ⟨"HoleWaterModel", "comesOut", "(I)V"⟩ ∈ mh_T := mh_T_in (List.mem_append_left _ (List.mem_of_getElem? (i := 47) (by decide +kernel))) (by decide +kernel)
set_option maxRecDepth 100000 in
theorem wp_48 : Cond.selects "HoleWaterModel" ⟨"HoleWaterModel", "rainOf", "(I)I"⟩ ⟨"HoleWaterModel", "rainOf", "(I)I"⟩ ∈ mh_T := mh_T_in (List.mem_append_left _ (List.mem_of_getElem? (i := 48) (by decide +kernel))) (by decide +kernel)
set_option maxRecDepth 100000 in
theorem wp_49 : Cond.selects "HoleWaterModel" ⟨"HoleWaterModel", "says", "(I)I"⟩ ⟨"HoleWaterModel", "says", "(I)I"⟩ ∈ mh_T := mh_T_in (List.mem_append_left _ (List.mem_of_getElem? (i := 49) (by decide +kernel))) (by decide +kernel)
set_option maxRecDepth 100000 in
theorem wp_50 : Cond.selects "HoleWaterModel" ⟨"HoleWaterModel", "goes", "(III)I"⟩ ⟨"HoleWaterModel", "goes", "(III)I"⟩ ∈ mh_T := mh_T_in (List.mem_append_left _ (List.mem_of_getElem? (i := 50) (by decide +kernel))) (by decide +kernel)
set_option maxRecDepth 100000 in
theorem wp_51 : Cond.selects "HoleWaterModel" ⟨"HoleWaterModel", "rises", "(I)V"⟩ ⟨"HoleWaterModel", "rises", "(I)V"⟩ ∈ mh_T := mh_T_in (List.mem_append_left _ (List.mem_of_getElem? (i := 51) (by decide +kernel))) (by decide +kernel)
set_option maxRecDepth 100000 in
theorem wp_52 : Cond.selects "HoleWaterModel" ⟨"HoleWaterModel", "isSpring", "(I)Z"⟩ ⟨"HoleWaterModel", "isSpring", "(I)Z"⟩ ∈ mh_T := mh_T_in (List.mem_append_left _ (List.mem_of_getElem? (i := 52) (by decide +kernel))) (by decide +kernel)
set_option maxRecDepth 100000 in
theorem wp_53 : Cond.selects "HoleWaterModel" ⟨"HoleWaterModel", "flows", "(I)V"⟩ ⟨"HoleWaterModel", "flows", "(I)V"⟩ ∈ mh_T := mh_T_in (List.mem_append_left _ (List.mem_of_getElem? (i := 53) (by decide +kernel))) (by decide +kernel)
set_option maxRecDepth 100000 in
theorem wp_54 : Cond.selects "HoleWaterModel" ⟨"HoleWaterModel", "parts", "(I)I"⟩ ⟨"HoleWaterModel", "parts", "(I)I"⟩ ∈ mh_T := mh_T_in (List.mem_append_left _ (List.mem_of_getElem? (i := 54) (by decide +kernel))) (by decide +kernel)
set_option maxRecDepth 100000 in
theorem wp_55 : Cond.selects "HoleWaterModel" ⟨"HoleWaterModel", "isFrom", "(II)Z"⟩ ⟨"HoleWaterModel", "isFrom", "(II)Z"⟩ ∈ mh_T := mh_T_in (List.mem_append_left _ (List.mem_of_getElem? (i := 55) (by decide +kernel))) (by decide +kernel)
set_option maxRecDepth 100000 in
theorem wp_56 : Cond.selects "HoleWaterModel" ⟨"HoleWaterModel", "isOverflow", "(I)Z"⟩ ⟨"HoleWaterModel", "isOverflow", "(I)Z"⟩ ∈ mh_T := mh_T_in (List.mem_append_left _ (List.mem_of_getElem? (i := 56) (by decide +kernel))) (by decide +kernel)
set_option maxRecDepth 100000 in
theorem wp_57 : Cond.selects "HoleWaterModel" ⟨"HoleWaterModel", "goesIn", "(III)V"⟩ ⟨"HoleWaterModel", "goesIn", "(III)V"⟩ ∈ mh_T := mh_T_in (List.mem_append_left _ (List.mem_of_getElem? (i := 57) (by decide +kernel))) (by decide +kernel)
set_option maxRecDepth 100000 in
theorem wp_58 : Cond.selects "HoleWaterModel" ⟨"HoleWaterModel", "puts", "(III)I"⟩ ⟨"HoleWaterModel", "puts", "(III)I"⟩ ∈ mh_T := mh_T_in (List.mem_append_left _ (List.mem_of_getElem? (i := 58) (by decide +kernel))) (by decide +kernel)
set_option maxRecDepth 100000 in
theorem wp_59 : Cond.selects "HoleWaterModel" ⟨"HoleWaterModel", "about", "(I)I"⟩ ⟨"HoleWaterModel", "about", "(I)I"⟩ ∈ mh_T := mh_T_in (List.mem_append_left _ (List.mem_of_getElem? (i := 59) (by decide +kernel))) (by decide +kernel)
set_option maxRecDepth 100000 in
theorem wp_60 : Cond.selects "HoleWaterModel" ⟨"HoleWaterModel", "outAgo", "(III)I"⟩ ⟨"HoleWaterModel", "outAgo", "(III)I"⟩ ∈ mh_T := mh_T_in (List.mem_append_left _ (List.mem_of_getElem? (i := 60) (by decide +kernel))) (by decide +kernel)
set_option maxRecDepth 100000 in
theorem wp_61 : Cond.selects "HoleWaterModel" ⟨"HoleWaterModel", "isWrongSpill", "(III)I"⟩ ⟨"HoleWaterModel", "isWrongSpill", "(III)I"⟩ ∈ mh_T := mh_T_in (List.mem_append_left _ (List.mem_of_getElem? (i := 61) (by decide +kernel))) (by decide +kernel)
set_option maxRecDepth 100000 in
theorem wp_62 : Cond.selects "HoleWaterModel" ⟨"HoleWaterModel", "laysAside", "()V"⟩ ⟨"HoleWaterModel", "laysAside", "()V"⟩ ∈ mh_T := mh_T_in (List.mem_append_left _ (List.mem_of_getElem? (i := 62) (by decide +kernel))) (by decide +kernel)
set_option maxRecDepth 100000 in
theorem wp_63 : Cond.selects "HoleWaterModel" ⟨"HoleWaterModel", "spills", "(II)V"⟩ ⟨"HoleWaterModel", "spills", "(II)V"⟩ ∈ mh_T := mh_T_in (List.mem_append_left _ (List.mem_of_getElem? (i := 63) (by decide +kernel))) (by decide +kernel)
set_option maxRecDepth 100000 in
theorem wp_64 : Cond.selects "HoleWaterModel" ⟨"HoleWaterModel", "laysBack", "()V"⟩ ⟨"HoleWaterModel", "laysBack", "()V"⟩ ∈ mh_T := mh_T_in (List.mem_append_left _ (List.mem_of_getElem? (i := 64) (by decide +kernel))) (by decide +kernel)
set_option maxRecDepth 100000 in
theorem wp_65 : Cond.selects "HoleWaterModel" ⟨"HoleWaterModel", "reads", "()V"⟩ ⟨"HoleWaterModel", "reads", "()V"⟩ ∈ mh_T := mh_T_in (List.mem_append_left _ (List.mem_of_getElem? (i := 65) (by decide +kernel))) (by decide +kernel)
set_option maxRecDepth 100000 in
theorem wp_66 : Cond.selects "HoleWaterModel" ⟨"HoleWaterModel", "sum", "()V"⟩ ⟨"HoleWaterModel", "sum", "()V"⟩ ∈ mh_T := mh_T_in (List.mem_append_left _ (List.mem_of_getElem? (i := 66) (by decide +kernel))) (by decide +kernel)
set_option maxRecDepth 100000 in
theorem wp_67 : Cond.selects "HoleWaterModel" ⟨"HoleWaterModel", "term", "()V"⟩ ⟨"HoleWaterModel", "term", "()V"⟩ ∈ mh_T := mh_T_in (List.mem_append_left _ (List.mem_of_getElem? (i := 67) (by decide +kernel))) (by decide +kernel)
set_option maxRecDepth 100000 in
theorem wp_68 : Cond.selects "HoleWaterModel" ⟨"HoleWaterModel", "one", "()V"⟩ ⟨"HoleWaterModel", "one", "()V"⟩ ∈ mh_T := mh_T_in (List.mem_append_left _ (List.mem_of_getElem? (i := 68) (by decide +kernel))) (by decide +kernel)
set_option maxRecDepth 100000 in
theorem wp_69 : Cond.selects "HoleWaterModel" ⟨"HoleWaterModel", "here", "()I"⟩ ⟨"HoleWaterModel", "here", "()I"⟩ ∈ mh_T := mh_T_in (List.mem_append_left _ (List.mem_of_getElem? (i := 69) (by decide +kernel))) (by decide +kernel)
set_option maxRecDepth 100000 in
theorem wp_70 : Cond.selects "HoleWaterModel" ⟨"HoleWaterModel", "puts", "(I)V"⟩ ⟨"HoleWaterModel", "puts", "(I)V"⟩ ∈ mh_T := mh_T_in (List.mem_append_left _ (List.mem_of_getElem? (i := 70) (by decide +kernel))) (by decide +kernel)
set_option maxRecDepth 100000 in
theorem wp_71 : Cond.selects "HoleWaterModel" ⟨"HoleWaterModel", "takes", "(C)Z"⟩ ⟨"HoleWaterModel", "takes", "(C)Z"⟩ ∈ mh_T := mh_T_in (List.mem_append_left _ (List.mem_of_getElem? (i := 71) (by decide +kernel))) (by decide +kernel)
set_option maxRecDepth 100000 in
theorem wp_72 : Cond.selects "HoleWaterModel" ⟨"HoleWaterModel", "test", "()V"⟩ ⟨"HoleWaterModel", "test", "()V"⟩ ∈ mh_T := mh_T_in (List.mem_append_left _ (List.mem_of_getElem? (i := 72) (by decide +kernel))) (by decide +kernel)
set_option maxRecDepth 100000 in
theorem wp_73 : Cond.selects "HoleWaterModel" ⟨"HoleWaterModel", "seenOf", "(III)I"⟩ ⟨"HoleWaterModel", "seenOf", "(III)I"⟩ ∈ mh_T := mh_T_in (List.mem_append_left _ (List.mem_of_getElem? (i := 73) (by decide +kernel))) (by decide +kernel)
set_option maxRecDepth 100000 in
theorem wp_74 : Cond.selects "HoleWaterModel" ⟨"HoleWaterModel", "looks", "(IIII)Z"⟩ ⟨"HoleWaterModel", "looks", "(IIII)Z"⟩ ∈ mh_T := mh_T_in (List.mem_append_left _ (List.mem_of_getElem? (i := 74) (by decide +kernel))) (by decide +kernel)
set_option maxRecDepth 100000 in
theorem wp_75 : Cond.selects "HoleWaterModel" ⟨"HoleWaterModel", "look", "(II)I"⟩ ⟨"HoleWaterModel", "look", "(II)I"⟩ ∈ mh_T := mh_T_in (List.mem_append_left _ (List.mem_of_getElem? (i := 75) (by decide +kernel))) (by decide +kernel)
set_option maxRecDepth 100000 in
theorem wp_76 : Cond.selects "HoleWaterModel" ⟨"HoleWaterModel", "isWrongPair", "(II)I"⟩ ⟨"HoleWaterModel", "isWrongPair", "(II)I"⟩ ∈ mh_T := mh_T_in (List.mem_append_left _ (List.mem_of_getElem? (i := 76) (by decide +kernel))) (by decide +kernel)
set_option maxRecDepth 100000 in
theorem wp_77 : Cond.selects "HoleWaterModel" ⟨"HoleWaterModel", "said", "(III)I"⟩ ⟨"HoleWaterModel", "said", "(III)I"⟩ ∈ mh_T := mh_T_in (List.mem_append_left _ (List.mem_of_getElem? (i := 77) (by decide +kernel))) (by decide +kernel)
set_option maxRecDepth 100000 in
theorem wp_78 : Cond.selects "HoleWaterModel" ⟨"HoleWaterModel", "wasPut", "(IIZ)Z"⟩ ⟨"HoleWaterModel", "wasPut", "(IIZ)Z"⟩ ∈ mh_T := mh_T_in (List.mem_append_left _ (List.mem_of_getElem? (i := 78) (by decide +kernel))) (by decide +kernel)
set_option maxRecDepth 100000 in
theorem wp_79 : Cond.selects "HoleWaterModel" ⟨"HoleWaterModel", "side", "(III)I"⟩ ⟨"HoleWaterModel", "side", "(III)I"⟩ ∈ mh_T := mh_T_in (List.mem_append_left _ (List.mem_of_getElem? (i := 79) (by decide +kernel))) (by decide +kernel)
set_option maxRecDepth 100000 in
theorem wp_80 : Cond.selects "HoleWaterModel" ⟨"HoleWaterModel", "isWrongSet", "(II)I"⟩ ⟨"HoleWaterModel", "isWrongSet", "(II)I"⟩ ∈ mh_T := mh_T_in (List.mem_append_left _ (List.mem_of_getElem? (i := 80) (by decide +kernel))) (by decide +kernel)
set_option maxRecDepth 100000 in
theorem wp_81 : Cond.selects "HoleWaterModel" ⟨"HoleWaterModel", "lists", "(I[I)I"⟩ ⟨"HoleWaterModel", "lists", "(I[I)I"⟩ ∈ mh_T := mh_T_in (List.mem_append_left _ (List.mem_of_getElem? (i := 81) (by decide +kernel))) (by decide +kernel)
set_option maxRecDepth 100000 in
theorem wp_82 : Cond.selects "HoleWaterModel" ⟨"HoleWaterModel", "canHold", "(III)Z"⟩ ⟨"HoleWaterModel", "canHold", "(III)Z"⟩ ∈ mh_T := mh_T_in (List.mem_append_left _ (List.mem_of_getElem? (i := 82) (by decide +kernel))) (by decide +kernel)
set_option maxRecDepth 100000 in
theorem wp_83 : Cond.selects "HoleWaterModel" ⟨"HoleWaterModel", "mayBe", "(I)Z"⟩ ⟨"HoleWaterModel", "mayBe", "(I)Z"⟩ ∈ mh_T := mh_T_in (List.mem_append_left _ (List.mem_of_getElem? (i := 83) (by decide +kernel))) (by decide +kernel)
set_option maxRecDepth 100000 in
theorem wp_84 : Cond.selects "HoleWaterModel" ⟨"HoleWaterModel", "runs", "(I)I"⟩ ⟨"HoleWaterModel", "runs", "(I)I"⟩ ∈ mh_T := mh_T_in (List.mem_append_left _ (List.mem_of_getElem? (i := 84) (by decide +kernel))) (by decide +kernel)
set_option maxRecDepth 100000 in
theorem wp_85 : Cond.selects "HoleWaterModel" ⟨"HoleWaterModel", "begins", "(I)V"⟩ ⟨"HoleWaterModel", "begins", "(I)V"⟩ ∈ mh_T := mh_T_in (List.mem_append_left _ (List.mem_of_getElem? (i := 85) (by decide +kernel))) (by decide +kernel)
set_option maxRecDepth 100000 in
theorem wp_86 : Cond.selects "HoleWaterModel" ⟨"HoleWaterModel", "openRuns", "(I)I"⟩ ⟨"HoleWaterModel", "openRuns", "(I)I"⟩ ∈ mh_T := mh_T_in (List.mem_append_left _ (List.mem_of_getElem? (i := 86) (by decide +kernel))) (by decide +kernel)
set_option maxRecDepth 100000 in
theorem wp_87 : Cond.selects "HoleWaterModel" ⟨"HoleWaterModel", "plainRuns", "(I)I"⟩ ⟨"HoleWaterModel", "plainRuns", "(I)I"⟩ ∈ mh_T := mh_T_in (List.mem_append_left _ (List.mem_of_getElem? (i := 87) (by decide +kernel))) (by decide +kernel)
set_option maxRecDepth 100000 in
theorem wp_88 : Cond.selects "HoleWaterModel" ⟨"HoleWaterModel", "holds", "(I)I"⟩ ⟨"HoleWaterModel", "holds", "(I)I"⟩ ∈ mh_T := mh_T_in (List.mem_append_left _ (List.mem_of_getElem? (i := 88) (by decide +kernel))) (by decide +kernel)
set_option maxRecDepth 100000 in
theorem wp_89 : Cond.selects "HoleWaterModel" ⟨"HoleWaterModel", "plainHolds", "(I)I"⟩ ⟨"HoleWaterModel", "plainHolds", "(I)I"⟩ ∈ mh_T := mh_T_in (List.mem_append_left _ (List.mem_of_getElem? (i := 89) (by decide +kernel))) (by decide +kernel)
set_option maxRecDepth 100000 in
theorem wp_90 : Cond.selects "HoleWaterModel" ⟨"HoleWaterModel", "spills", "(I)I"⟩ ⟨"HoleWaterModel", "spills", "(I)I"⟩ ∈ mh_T := mh_T_in (List.mem_append_left _ (List.mem_of_getElem? (i := 90) (by decide +kernel))) (by decide +kernel)
set_option maxRecDepth 100000 in
theorem wp_91 : Cond.selects "HoleWaterModel" ⟨"HoleWaterModel", "plainSpills", "(I)I"⟩ ⟨"HoleWaterModel", "plainSpills", "(I)I"⟩ ∈ mh_T := mh_T_in (List.mem_append_left _ (List.mem_of_getElem? (i := 91) (by decide +kernel))) (by decide +kernel)
set_option maxRecDepth 100000 in
theorem wp_92 : Cond.selects "HoleWaterModel" ⟨"HoleWaterModel", "tells", "(I)I"⟩ ⟨"HoleWaterModel", "tells", "(I)I"⟩ ∈ mh_T := mh_T_in (List.mem_append_left _ (List.mem_of_getElem? (i := 92) (by decide +kernel))) (by decide +kernel)
set_option maxRecDepth 100000 in
theorem wp_93 : Cond.selects "HoleWaterModel" ⟨"HoleWaterModel", "plainTells", "(I)I"⟩ ⟨"HoleWaterModel", "plainTells", "(I)I"⟩ ∈ mh_T := mh_T_in (List.mem_append_left _ (List.mem_of_getElem? (i := 93) (by decide +kernel))) (by decide +kernel)
set_option maxRecDepth 100000 in
theorem wp_94 : Cond.selects "HoleWaterModel" ⟨"HoleWaterModel", "sawMany", "()I"⟩ ⟨"HoleWaterModel", "sawMany", "()I"⟩ ∈ mh_T := mh_T_in (List.mem_append_left _ (List.mem_of_getElem? (i := 94) (by decide +kernel))) (by decide +kernel)
set_option maxRecDepth 100000 in
theorem wp_95 : Cond.selects "HoleWaterModel" ⟨"HoleWaterModel", "water", "()I"⟩ ⟨"HoleWaterModel", "water", "()I"⟩ ∈ mh_T := mh_T_in (List.mem_append_left _ (List.mem_of_getElem? (i := 95) (by decide +kernel))) (by decide +kernel)
