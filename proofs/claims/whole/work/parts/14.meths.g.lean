abbrev mX6_init : mh_M := (yX6_init, cX6_init, 2, none)
theorem okX6_init : mh_mok mX6_init := ⟨wd_138, wd_5, by decide, ⟨by decide, by decide⟩, by decide⟩
theorem pdX6_init : (parseMethodDescriptor yX6_init.desc).map (fun d => d.parameters.length) = some 1 := by decide +kernel
abbrev mX5_init : mh_M := (yX5_init, cX5_init, 1, none)
theorem okX5_init : mh_mok mX5_init := ⟨wd_247, wd_8, by decide, ⟨by decide, by decide⟩, by decide⟩
theorem pdX5_init : (parseMethodDescriptor yX5_init.desc).map (fun d => d.parameters.length) = some 0 := by decide +kernel
abbrev mX8_init : mh_M := (yX8_init, cX8_init, 1, none)
theorem okX8_init : mh_mok mX8_init := ⟨wd_43, wd_3, by decide, ⟨by decide, by decide⟩, by decide⟩
theorem pdX8_init : (parseMethodDescriptor yX8_init.desc).map (fun d => d.parameters.length) = some 0 := by decide +kernel
abbrev mX1_init : mh_M := (yX1_init, cX1_init, 1, none)
theorem okX1_init : mh_mok mX1_init := ⟨wd_102, wd_4, by decide, ⟨by decide, by decide⟩, by decide⟩
theorem pdX1_init : (parseMethodDescriptor yX1_init.desc).map (fun d => d.parameters.length) = some 0 := by decide +kernel
abbrev mX9_init : mh_M := (yX9_init, cX9_init, 5, none)
theorem okX9_init : mh_mok mX9_init := ⟨wd_157, wd_7, by decide, ⟨by decide, by decide⟩, by decide⟩
theorem pdX9_init : (parseMethodDescriptor yX9_init.desc).map (fun d => d.parameters.length) = some 4 := by decide +kernel
abbrev mX10_init : mh_M := (yX10_init, cX10_init, 3, none)
theorem okX10_init : mh_mok mX10_init := ⟨wd_35, wd_2, by decide, ⟨by decide, by decide⟩, by decide⟩
theorem pdX10_init : (parseMethodDescriptor yX10_init.desc).map (fun d => d.parameters.length) = some 0 := by decide +kernel
abbrev mX11_init : mh_M := (yX11_init, cX11_init, 1, none)
theorem okX11_init : mh_mok mX11_init := ⟨wd_27, wd_1, by decide, ⟨by decide, by decide⟩, by decide⟩
theorem pdX11_init : (parseMethodDescriptor yX11_init.desc).map (fun d => d.parameters.length) = some 0 := by decide +kernel
abbrev mX11_within : mh_M := (yX11_within, cX11_within, 3, some .boolean)
theorem okX11_within : mh_mok mX11_within := ⟨wd_325, wd_1, by decide, ⟨by decide, by decide⟩, by decide⟩
theorem pdX11_within : (parseMethodDescriptor yX11_within.desc).map (fun d => d.parameters.length) = some 3 := by decide +kernel
abbrev mX11_error : mh_M := (yX11_error, cX11_error, 2, some .int)
theorem okX11_error : mh_mok mX11_error := ⟨wd_329, wd_1, by decide, ⟨by decide, by decide⟩, by decide⟩
theorem pdX11_error : (parseMethodDescriptor yX11_error.desc).map (fun d => d.parameters.length) = some 1 := by decide +kernel
abbrev mX10_addJoint : mh_M := (yX10_addJoint, cX10_addJoint, 4, some .int)
theorem okX10_addJoint : mh_mok mX10_addJoint := ⟨wd_334, wd_2, by decide, ⟨by decide, by decide⟩, by decide⟩
theorem pdX10_addJoint : (parseMethodDescriptor yX10_addJoint.desc).map (fun d => d.parameters.length) = some 3 := by decide +kernel
abbrev mX11_joint : mh_M := (yX11_joint, cX11_joint, 4, some .int)
theorem okX11_joint : mh_mok mX11_joint := ⟨wd_322, wd_1, by decide, ⟨by decide, by decide⟩, by decide⟩
theorem pdX11_joint : (parseMethodDescriptor yX11_joint.desc).map (fun d => d.parameters.length) = some 3 := by decide +kernel
abbrev mX11_bit : mh_M := (yX11_bit, cX11_bit, 2, some .int)
theorem okX11_bit : mh_mok mX11_bit := ⟨wd_345, wd_1, by decide, ⟨by decide, by decide⟩, by decide⟩
theorem pdX11_bit : (parseMethodDescriptor yX11_bit.desc).map (fun d => d.parameters.length) = some 2 := by decide +kernel
abbrev mX10_isJoint : mh_M := (yX10_isJoint, cX10_isJoint, 2, some .boolean)
theorem okX10_isJoint : mh_mok mX10_isJoint := ⟨wd_342, wd_2, by decide, ⟨by decide, by decide⟩, by decide⟩
theorem pdX10_isJoint : (parseMethodDescriptor yX10_isJoint.desc).map (fun d => d.parameters.length) = some 1 := by decide +kernel
abbrev mX11_jointIs : mh_M := (yX11_jointIs, cX11_jointIs, 3, some .int)
theorem okX11_jointIs : mh_mok mX11_jointIs := ⟨wd_338, wd_1, by decide, ⟨by decide, by decide⟩, by decide⟩
theorem pdX11_jointIs : (parseMethodDescriptor yX11_jointIs.desc).map (fun d => d.parameters.length) = some 2 := by decide +kernel
abbrev mX7_init : mh_M := (yX7_init, cX7_init, 5, none)
theorem okX7_init : mh_mok mX7_init := ⟨wd_378, wd_11, by decide, ⟨by decide, by decide⟩, by decide⟩
theorem pdX7_init : (parseMethodDescriptor yX7_init.desc).map (fun d => d.parameters.length) = some 4 := by decide +kernel
abbrev mX0_init : mh_M := (yX0_init, cX0_init, 5, none)
theorem okX0_init : mh_mok mX0_init := ⟨wd_411, wd_14, by decide, ⟨by decide, by decide⟩, by decide⟩
theorem pdX0_init : (parseMethodDescriptor yX0_init.desc).map (fun d => d.parameters.length) = some 4 := by decide +kernel
abbrev mX2_init : mh_M := (yX2_init, cX2_init, 5, none)
theorem okX2_init : mh_mok mX2_init := ⟨wd_367, wd_10, by decide, ⟨by decide, by decide⟩, by decide⟩
theorem pdX2_init : (parseMethodDescriptor yX2_init.desc).map (fun d => d.parameters.length) = some 4 := by decide +kernel
abbrev mX3_init : mh_M := (yX3_init, cX3_init, 5, none)
theorem okX3_init : mh_mok mX3_init := ⟨wd_389, wd_12, by decide, ⟨by decide, by decide⟩, by decide⟩
theorem pdX3_init : (parseMethodDescriptor yX3_init.desc).map (fun d => d.parameters.length) = some 4 := by decide +kernel
abbrev mX4_init : mh_M := (yX4_init, cX4_init, 5, none)
theorem okX4_init : mh_mok mX4_init := ⟨wd_400, wd_13, by decide, ⟨by decide, by decide⟩, by decide⟩
theorem pdX4_init : (parseMethodDescriptor yX4_init.desc).map (fun d => d.parameters.length) = some 4 := by decide +kernel
abbrev mX11_makeWay : mh_M := (yX11_makeWay, cX11_makeWay, 5, some (.object "HoleWater$Way"))
theorem okX11_makeWay : mh_mok mX11_makeWay := ⟨wd_362, wd_1, by decide, ⟨by decide, by decide⟩, by decide⟩
theorem pdX11_makeWay : (parseMethodDescriptor yX11_makeWay.desc).map (fun d => d.parameters.length) = some 5 := by decide +kernel
abbrev mX10_addWay : mh_M := (yX10_addWay, cX10_addWay, 2, some .int)
theorem okX10_addWay : mh_mok mX10_addWay := ⟨wd_423, wd_2, by decide, ⟨by decide, by decide⟩, by decide⟩
theorem pdX10_addWay : (parseMethodDescriptor yX10_addWay.desc).map (fun d => d.parameters.length) = some 1 := by decide +kernel
abbrev mX10_isOf : mh_M := (yX10_isOf, cX10_isOf, 3, some .boolean)
theorem okX10_isOf : mh_mok mX10_isOf := ⟨wd_357, wd_2, by decide, ⟨by decide, by decide⟩, by decide⟩
theorem pdX10_isOf : (parseMethodDescriptor yX10_isOf.desc).map (fun d => d.parameters.length) = some 2 := by decide +kernel
abbrev mX10_isOutlet : mh_M := (yX10_isOutlet, cX10_isOutlet, 2, some .boolean)
theorem okX10_isOutlet : mh_mok mX10_isOutlet := ⟨wd_353, wd_2, by decide, ⟨by decide, by decide⟩, by decide⟩
theorem pdX10_isOutlet : (parseMethodDescriptor yX10_isOutlet.desc).map (fun d => d.parameters.length) = some 1 := by decide +kernel
abbrev mX11_way : mh_M := (yX11_way, cX11_way, 7, some .int)
theorem okX11_way : mh_mok mX11_way := ⟨wd_349, wd_1, by decide, ⟨by decide, by decide⟩, by decide⟩
theorem pdX11_way : (parseMethodDescriptor yX11_way.desc).map (fun d => d.parameters.length) = some 4 := by decide +kernel
abbrev mX11_isUnder : mh_M := (yX11_isUnder, cX11_isUnder, 2, some .boolean)
theorem okX11_isUnder : mh_mok mX11_isUnder := ⟨wd_434, wd_1, by decide, ⟨by decide, by decide⟩, by decide⟩
theorem pdX11_isUnder : (parseMethodDescriptor yX11_isUnder.desc).map (fun d => d.parameters.length) = some 2 := by decide +kernel
abbrev mX9_takes : mh_M := (yX9_takes, cX9_takes, 1, some .int)
theorem okX9_takes : mh_mok mX9_takes := ⟨wd_450, wd_7, by decide, ⟨by decide, by decide⟩, by decide⟩
theorem pdX9_takes : (parseMethodDescriptor yX9_takes.desc).map (fun d => d.parameters.length) = some 0 := by decide +kernel
abbrev mX2_takes : mh_M := (yX2_takes, cX2_takes, 1, some .int)
theorem okX2_takes : mh_mok mX2_takes := ⟨wd_445, wd_10, by decide, ⟨by decide, by decide⟩, by decide⟩
theorem pdX2_takes : (parseMethodDescriptor yX2_takes.desc).map (fun d => d.parameters.length) = some 0 := by decide +kernel
abbrev mX7_takes : mh_M := (yX7_takes, cX7_takes, 1, some .int)
theorem okX7_takes : mh_mok mX7_takes := ⟨wd_441, wd_11, by decide, ⟨by decide, by decide⟩, by decide⟩
theorem pdX7_takes : (parseMethodDescriptor yX7_takes.desc).map (fun d => d.parameters.length) = some 0 := by decide +kernel
abbrev mX10_isWay : mh_M := (yX10_isWay, cX10_isWay, 2, some .boolean)
theorem okX10_isWay : mh_mok mX10_isWay := ⟨wd_431, wd_2, by decide, ⟨by decide, by decide⟩, by decide⟩
theorem pdX10_isWay : (parseMethodDescriptor yX10_isWay.desc).map (fun d => d.parameters.length) = some 1 := by decide +kernel
abbrev mX11_as : mh_M := (yX11_as, cX11_as, 4, some .int)
theorem okX11_as : mh_mok mX11_as := ⟨wd_427, wd_1, by decide, ⟨by decide, by decide⟩, by decide⟩
theorem pdX11_as : (parseMethodDescriptor yX11_as.desc).map (fun d => d.parameters.length) = some 2 := by decide +kernel
abbrev mX0_kind : mh_M := (yX0_kind, cX0_kind, 1, some .int)
theorem okX0_kind : mh_mok mX0_kind := ⟨wd_461, wd_14, by decide, ⟨by decide, by decide⟩, by decide⟩
theorem pdX0_kind : (parseMethodDescriptor yX0_kind.desc).map (fun d => d.parameters.length) = some 0 := by decide +kernel
abbrev mX2_kind : mh_M := (yX2_kind, cX2_kind, 1, some .int)
theorem okX2_kind : mh_mok mX2_kind := ⟨wd_464, wd_10, by decide, ⟨by decide, by decide⟩, by decide⟩
theorem pdX2_kind : (parseMethodDescriptor yX2_kind.desc).map (fun d => d.parameters.length) = some 0 := by decide +kernel
abbrev mX3_kind : mh_M := (yX3_kind, cX3_kind, 1, some .int)
theorem okX3_kind : mh_mok mX3_kind := ⟨wd_467, wd_12, by decide, ⟨by decide, by decide⟩, by decide⟩
theorem pdX3_kind : (parseMethodDescriptor yX3_kind.desc).map (fun d => d.parameters.length) = some 0 := by decide +kernel
abbrev mX4_kind : mh_M := (yX4_kind, cX4_kind, 1, some .int)
theorem okX4_kind : mh_mok mX4_kind := ⟨wd_470, wd_13, by decide, ⟨by decide, by decide⟩, by decide⟩
theorem pdX4_kind : (parseMethodDescriptor yX4_kind.desc).map (fun d => d.parameters.length) = some 0 := by decide +kernel
abbrev mX7_kind : mh_M := (yX7_kind, cX7_kind, 1, some .int)
theorem okX7_kind : mh_mok mX7_kind := ⟨wd_473, wd_11, by decide, ⟨by decide, by decide⟩, by decide⟩
theorem pdX7_kind : (parseMethodDescriptor yX7_kind.desc).map (fun d => d.parameters.length) = some 0 := by decide +kernel
abbrev mX8_inWay : mh_M := (yX8_inWay, cX8_inWay, 5, some .int)
theorem okX8_inWay : mh_mok mX8_inWay := ⟨wd_478, wd_3, by decide, ⟨by decide, by decide⟩, by decide⟩
theorem pdX8_inWay : (parseMethodDescriptor yX8_inWay.desc).map (fun d => d.parameters.length) = some 2 := by decide +kernel
abbrev mX9_kind : mh_M := (yX9_kind, cX9_kind, 1, some .int)
theorem okX9_kind : mh_mok mX9_kind := ⟨wd_474, wd_7, by decide, ⟨by decide, by decide⟩, by decide⟩
theorem pdX9_kind : (parseMethodDescriptor yX9_kind.desc).map (fun d => d.parameters.length) = some 0 := by decide +kernel
abbrev mX11_wayIs : mh_M := (yX11_wayIs, cX11_wayIs, 4, some .int)
theorem okX11_wayIs : mh_mok mX11_wayIs := ⟨wd_454, wd_1, by decide, ⟨by decide, by decide⟩, by decide⟩
theorem pdX11_wayIs : (parseMethodDescriptor yX11_wayIs.desc).map (fun d => d.parameters.length) = some 2 := by decide +kernel
abbrev mX10_bitsOf : mh_M := (yX10_bitsOf, cX10_bitsOf, 4, some .int)
theorem okX10_bitsOf : mh_mok mX10_bitsOf := ⟨wd_486, wd_2, by decide, ⟨by decide, by decide⟩, by decide⟩
theorem pdX10_bitsOf : (parseMethodDescriptor yX10_bitsOf.desc).map (fun d => d.parameters.length) = some 1 := by decide +kernel
abbrev mX11_hangs : mh_M := (yX11_hangs, cX11_hangs, 8, some .int)
theorem okX11_hangs : mh_mok mX11_hangs := ⟨wd_482, wd_1, by decide, ⟨by decide, by decide⟩, by decide⟩
theorem pdX11_hangs : (parseMethodDescriptor yX11_hangs.desc).map (fun d => d.parameters.length) = some 2 := by decide +kernel
abbrev mX11_goAlong : mh_M := (yX11_goAlong, cX11_goAlong, 3, none)
theorem okX11_goAlong : mh_mok mX11_goAlong := ⟨wd_497, wd_1, by decide, ⟨by decide, by decide⟩, by decide⟩
theorem pdX11_goAlong : (parseMethodDescriptor yX11_goAlong.desc).map (fun d => d.parameters.length) = some 1 := by decide +kernel
abbrev mJ7_fill_53178 : mh_M := (yJ7_fill_53178, cJ7_fill_53178, 4, none)
theorem okJ7_fill_53178 : mh_mok mJ7_fill_53178 := ⟨wd_493, wd_15, by decide, ⟨by decide, by decide⟩, by decide⟩
theorem pdJ7_fill_53178 : (parseMethodDescriptor yJ7_fill_53178.desc).map (fun d => d.parameters.length) = some 2 := by decide +kernel
abbrev mX11_quick : mh_M := (yX11_quick, cX11_quick, 5, some .int)
theorem okX11_quick : mh_mok mX11_quick := ⟨wd_490, wd_1, by decide, ⟨by decide, by decide⟩, by decide⟩
theorem pdX11_quick : (parseMethodDescriptor yX11_quick.desc).map (fun d => d.parameters.length) = some 2 := by decide +kernel
abbrev mX11_flood : mh_M := (yX11_flood, cX11_flood, 3, some .int)
theorem okX11_flood : mh_mok mX11_flood := ⟨wd_501, wd_1, by decide, ⟨by decide, by decide⟩, by decide⟩
theorem pdX11_flood : (parseMethodDescriptor yX11_flood.desc).map (fun d => d.parameters.length) = some 1 := by decide +kernel
abbrev mX11_isColour : mh_M := (yX11_isColour, cX11_isColour, 1, some .boolean)
theorem okX11_isColour : mh_mok mX11_isColour := ⟨wd_508, wd_1, by decide, ⟨by decide, by decide⟩, by decide⟩
theorem pdX11_isColour : (parseMethodDescriptor yX11_isColour.desc).map (fun d => d.parameters.length) = some 1 := by decide +kernel
abbrev mX11_fade : mh_M := (yX11_fade, cX11_fade, 4, some .int)
theorem okX11_fade : mh_mok mX11_fade := ⟨wd_505, wd_1, by decide, ⟨by decide, by decide⟩, by decide⟩
theorem pdX11_fade : (parseMethodDescriptor yX11_fade.desc).map (fun d => d.parameters.length) = some 2 := by decide +kernel
abbrev mX8_comeOut : mh_M := (yX8_comeOut, cX8_comeOut, 5, none)
theorem okX8_comeOut : mh_mok mX8_comeOut := ⟨wd_579, wd_3, by decide, ⟨by decide, by decide⟩, by decide⟩
theorem pdX8_comeOut : (parseMethodDescriptor yX8_comeOut.desc).map (fun d => d.parameters.length) = some 2 := by decide +kernel
abbrev mX11_by : mh_M := (yX11_by, cX11_by, 2, some .int)
theorem okX11_by : mh_mok mX11_by := ⟨wd_540, wd_1, by decide, ⟨by decide, by decide⟩, by decide⟩
theorem pdX11_by : (parseMethodDescriptor yX11_by.desc).map (fun d => d.parameters.length) = some 2 := by decide +kernel
abbrev mX4_lets : mh_M := (yX4_lets, cX4_lets, 3, some .int)
theorem okX4_lets : mh_mok mX4_lets := ⟨wd_537, wd_13, by decide, ⟨by decide, by decide⟩, by decide⟩
theorem pdX4_lets : (parseMethodDescriptor yX4_lets.desc).map (fun d => d.parameters.length) = some 1 := by decide +kernel
abbrev mX8_fadeAway : mh_M := (yX8_fadeAway, cX8_fadeAway, 5, some .int)
theorem okX8_fadeAway : mh_mok mX8_fadeAway := ⟨wd_529, wd_3, by decide, ⟨by decide, by decide⟩, by decide⟩
theorem pdX8_fadeAway : (parseMethodDescriptor yX8_fadeAway.desc).map (fun d => d.parameters.length) = some 3 := by decide +kernel
abbrev mX8_slotNow : mh_M := (yX8_slotNow, cX8_slotNow, 4, some .int)
theorem okX8_slotNow : mh_mok mX8_slotNow := ⟨wd_525, wd_3, by decide, ⟨by decide, by decide⟩, by decide⟩
theorem pdX8_slotNow : (parseMethodDescriptor yX8_slotNow.desc).map (fun d => d.parameters.length) = some 2 := by decide +kernel
abbrev mX8_leave : mh_M := (yX8_leave, cX8_leave, 9, none)
theorem okX8_leave : mh_mok mX8_leave := ⟨wd_520, wd_3, by decide, ⟨by decide, by decide⟩, by decide⟩
theorem pdX8_leave : (parseMethodDescriptor yX8_leave.desc).map (fun d => d.parameters.length) = some 2 := by decide +kernel
abbrev mX7_keeps : mh_M := (yX7_keeps, cX7_keeps, 2, some .int)
theorem okX7_keeps : mh_mok mX7_keeps := ⟨wd_601, wd_11, by decide, ⟨by decide, by decide⟩, by decide⟩
theorem pdX7_keeps : (parseMethodDescriptor yX7_keeps.desc).map (fun d => d.parameters.length) = some 1 := by decide +kernel
abbrev mX9_keeps : mh_M := (yX9_keeps, cX9_keeps, 2, some .int)
theorem okX9_keeps : mh_mok mX9_keeps := ⟨wd_607, wd_7, by decide, ⟨by decide, by decide⟩, by decide⟩
theorem pdX9_keeps : (parseMethodDescriptor yX9_keeps.desc).map (fun d => d.parameters.length) = some 1 := by decide +kernel
abbrev mX8_enter : mh_M := (yX8_enter, cX8_enter, 7, none)
theorem okX8_enter : mh_mok mX8_enter := ⟨wd_594, wd_3, by decide, ⟨by decide, by decide⟩, by decide⟩
theorem pdX8_enter : (parseMethodDescriptor yX8_enter.desc).map (fun d => d.parameters.length) = some 4 := by decide +kernel
abbrev mX8_part : mh_M := (yX8_part, cX8_part, 3, some .int)
theorem okX8_part : mh_mok mX8_part := ⟨wd_615, wd_3, by decide, ⟨by decide, by decide⟩, by decide⟩
theorem pdX8_part : (parseMethodDescriptor yX8_part.desc).map (fun d => d.parameters.length) = some 3 := by decide +kernel
abbrev mX8_sendGrains : mh_M := (yX8_sendGrains, cX8_sendGrains, 10, none)
theorem okX8_sendGrains : mh_mok mX8_sendGrains := ⟨wd_612, wd_3, by decide, ⟨by decide, by decide⟩, by decide⟩
theorem pdX8_sendGrains : (parseMethodDescriptor yX8_sendGrains.desc).map (fun d => d.parameters.length) = some 5 := by decide +kernel
abbrev mX8_shareOut : mh_M := (yX8_shareOut, cX8_shareOut, 10, some .int)
theorem okX8_shareOut : mh_mok mX8_shareOut := ⟨wd_587, wd_3, by decide, ⟨by decide, by decide⟩, by decide⟩
theorem pdX8_shareOut : (parseMethodDescriptor yX8_shareOut.desc).map (fun d => d.parameters.length) = some 3 := by decide +kernel
abbrev mX8_sendOff : mh_M := (yX8_sendOff, cX8_sendOff, 7, none)
theorem okX8_sendOff : mh_mok mX8_sendOff := ⟨wd_583, wd_3, by decide, ⟨by decide, by decide⟩, by decide⟩
theorem pdX8_sendOff : (parseMethodDescriptor yX8_sendOff.desc).map (fun d => d.parameters.length) = some 2 := by decide +kernel
abbrev mX11_held : mh_M := (yX11_held, cX11_held, 3, some .int)
theorem okX11_held : mh_mok mX11_held := ⟨wd_572, wd_1, by decide, ⟨by decide, by decide⟩, by decide⟩
theorem pdX11_held : (parseMethodDescriptor yX11_held.desc).map (fun d => d.parameters.length) = some 3 := by decide +kernel
abbrev mX5_pop : mh_M := (yX5_pop, cX5_pop, 1, some .int)
theorem okX5_pop : mh_mok mX5_pop := ⟨wd_565, wd_8, by decide, ⟨by decide, by decide⟩, by decide⟩
theorem pdX5_pop : (parseMethodDescriptor yX5_pop.desc).map (fun d => d.parameters.length) = some 0 := by decide +kernel
abbrev mX5_push : mh_M := (yX5_push, cX5_push, 2, none)
theorem okX5_push : mh_mok mX5_push := ⟨wd_561, wd_8, by decide, ⟨by decide, by decide⟩, by decide⟩
theorem pdX5_push : (parseMethodDescriptor yX5_push.desc).map (fun d => d.parameters.length) = some 1 := by decide +kernel
abbrev mX5_valueOf : mh_M := (yX5_valueOf, cX5_valueOf, 2, some .int)
theorem okX5_valueOf : mh_mok mX5_valueOf := ⟨wd_557, wd_8, by decide, ⟨by decide, by decide⟩, by decide⟩
theorem pdX5_valueOf : (parseMethodDescriptor yX5_valueOf.desc).map (fun d => d.parameters.length) = some 1 := by decide +kernel
abbrev mX5_workOut : mh_M := (yX5_workOut, cX5_workOut, 3, some .int)
theorem okX5_workOut : mh_mok mX5_workOut := ⟨wd_568, wd_8, by decide, ⟨by decide, by decide⟩, by decide⟩
theorem pdX5_workOut : (parseMethodDescriptor yX5_workOut.desc).map (fun d => d.parameters.length) = some 3 := by decide +kernel
abbrev mX6_get : mh_M := (yX6_get, cX6_get, 2, some .int)
theorem okX6_get : mh_mok mX6_get := ⟨wd_553, wd_5, by decide, ⟨by decide, by decide⟩, by decide⟩
theorem pdX6_get : (parseMethodDescriptor yX6_get.desc).map (fun d => d.parameters.length) = some 1 := by decide +kernel
abbrev mX5_toldBy : mh_M := (yX5_toldBy, cX5_toldBy, 6, some .int)
theorem okX5_toldBy : mh_mok mX5_toldBy := ⟨wd_549, wd_8, by decide, ⟨by decide, by decide⟩, by decide⟩
theorem pdX5_toldBy : (parseMethodDescriptor yX5_toldBy.desc).map (fun d => d.parameters.length) = some 1 := by decide +kernel
abbrev mX10_rainOn : mh_M := (yX10_rainOn, cX10_rainOn, 4, some .int)
theorem okX10_rainOn : mh_mok mX10_rainOn := ⟨wd_545, wd_2, by decide, ⟨by decide, by decide⟩, by decide⟩
theorem pdX10_rainOn : (parseMethodDescriptor yX10_rainOn.desc).map (fun d => d.parameters.length) = some 3 := by decide +kernel
abbrev mX8_passHour : mh_M := (yX8_passHour, cX8_passHour, 4, none)
theorem okX8_passHour : mh_mok mX8_passHour := ⟨wd_516, wd_3, by decide, ⟨by decide, by decide⟩, by decide⟩
theorem pdX8_passHour : (parseMethodDescriptor yX8_passHour.desc).map (fun d => d.parameters.length) = some 2 := by decide +kernel
abbrev mX11_hours : mh_M := (yX11_hours, cX11_hours, 3, some .int)
theorem okX11_hours : mh_mok mX11_hours := ⟨wd_512, wd_1, by decide, ⟨by decide, by decide⟩, by decide⟩
theorem pdX11_hours : (parseMethodDescriptor yX11_hours.desc).map (fun d => d.parameters.length) = some 1 := by decide +kernel
abbrev mX1_addPut : mh_M := (yX1_addPut, cX1_addPut, 6, some .int)
theorem okX1_addPut : mh_mok mX1_addPut := ⟨wd_627, wd_4, by decide, ⟨by decide, by decide⟩, by decide⟩
theorem pdX1_addPut : (parseMethodDescriptor yX1_addPut.desc).map (fun d => d.parameters.length) = some 4 := by decide +kernel
abbrev mX10_putIn : mh_M := (yX10_putIn, cX10_putIn, 4, some .int)
theorem okX10_putIn : mh_mok mX10_putIn := ⟨wd_623, wd_2, by decide, ⟨by decide, by decide⟩, by decide⟩
theorem pdX10_putIn : (parseMethodDescriptor yX10_putIn.desc).map (fun d => d.parameters.length) = some 3 := by decide +kernel
abbrev mX11_put : mh_M := (yX11_put, cX11_put, 4, some .int)
theorem okX11_put : mh_mok mX11_put := ⟨wd_619, wd_1, by decide, ⟨by decide, by decide⟩, by decide⟩
theorem pdX11_put : (parseMethodDescriptor yX11_put.desc).map (fun d => d.parameters.length) = some 3 := by decide +kernel
abbrev mX11_putIs : mh_M := (yX11_putIs, cX11_putIs, 3, some .int)
theorem okX11_putIs : mh_mok mX11_putIs := ⟨wd_631, wd_1, by decide, ⟨by decide, by decide⟩, by decide⟩
theorem pdX11_putIs : (parseMethodDescriptor yX11_putIs.desc).map (fun d => d.parameters.length) = some 2 := by decide +kernel
abbrev mX11_isSheet : mh_M := (yX11_isSheet, cX11_isSheet, 1, some .boolean)
theorem okX11_isSheet : mh_mok mX11_isSheet := ⟨wd_638, wd_1, by decide, ⟨by decide, by decide⟩, by decide⟩
theorem pdX11_isSheet : (parseMethodDescriptor yX11_isSheet.desc).map (fun d => d.parameters.length) = some 1 := by decide +kernel
abbrev mX11_pours : mh_M := (yX11_pours, cX11_pours, 9, some .int)
theorem okX11_pours : mh_mok mX11_pours := ⟨wd_635, wd_1, by decide, ⟨by decide, by decide⟩, by decide⟩
theorem pdX11_pours : (parseMethodDescriptor yX11_pours.desc).map (fun d => d.parameters.length) = some 5 := by decide +kernel
abbrev mX11_grains : mh_M := (yX11_grains, cX11_grains, 3, some .int)
theorem okX11_grains : mh_mok mX11_grains := ⟨wd_642, wd_1, by decide, ⟨by decide, by decide⟩, by decide⟩
theorem pdX11_grains : (parseMethodDescriptor yX11_grains.desc).map (fun d => d.parameters.length) = some 2 := by decide +kernel
abbrev mX10_allBelow : mh_M := (yX10_allBelow, cX10_allBelow, 4, some .int)
theorem okX10_allBelow : mh_mok mX10_allBelow := ⟨wd_650, wd_2, by decide, ⟨by decide, by decide⟩, by decide⟩
theorem pdX10_allBelow : (parseMethodDescriptor yX10_allBelow.desc).map (fun d => d.parameters.length) = some 1 := by decide +kernel
abbrev mX11_stuff : mh_M := (yX11_stuff, cX11_stuff, 3, some .int)
theorem okX11_stuff : mh_mok mX11_stuff := ⟨wd_646, wd_1, by decide, ⟨by decide, by decide⟩, by decide⟩
theorem pdX11_stuff : (parseMethodDescriptor yX11_stuff.desc).map (fun d => d.parameters.length) = some 2 := by decide +kernel
abbrev mX8_cameOut : mh_M := (yX8_cameOut, cX8_cameOut, 5, some .int)
theorem okX8_cameOut : mh_mok mX8_cameOut := ⟨wd_659, wd_3, by decide, ⟨by decide, by decide⟩, by decide⟩
theorem pdX8_cameOut : (parseMethodDescriptor yX8_cameOut.desc).map (fun d => d.parameters.length) = some 3 := by decide +kernel
abbrev mX11_out : mh_M := (yX11_out, cX11_out, 4, some .int)
theorem okX11_out : mh_mok mX11_out := ⟨wd_655, wd_1, by decide, ⟨by decide, by decide⟩, by decide⟩
theorem pdX11_out : (parseMethodDescriptor yX11_out.desc).map (fun d => d.parameters.length) = some 3 := by decide +kernel
abbrev mX11_spillError : mh_M := (yX11_spillError, cX11_spillError, 4, some .int)
theorem okX11_spillError : mh_mok mX11_spillError := ⟨wd_667, wd_1, by decide, ⟨by decide, by decide⟩, by decide⟩
theorem pdX11_spillError : (parseMethodDescriptor yX11_spillError.desc).map (fun d => d.parameters.length) = some 3 := by decide +kernel
abbrev mX8_copyOf : mh_M := (yX8_copyOf, cX8_copyOf, 2, none)
theorem okX8_copyOf : mh_mok mX8_copyOf := ⟨wd_675, wd_3, by decide, ⟨by decide, by decide⟩, by decide⟩
theorem pdX8_copyOf : (parseMethodDescriptor yX8_copyOf.desc).map (fun d => d.parameters.length) = some 1 := by decide +kernel
abbrev mX8_startSpill : mh_M := (yX8_startSpill, cX8_startSpill, 6, none)
theorem okX8_startSpill : mh_mok mX8_startSpill := ⟨wd_671, wd_3, by decide, ⟨by decide, by decide⟩, by decide⟩
theorem pdX8_startSpill : (parseMethodDescriptor yX8_startSpill.desc).map (fun d => d.parameters.length) = some 3 := by decide +kernel
abbrev mX11_spill : mh_M := (yX11_spill, cX11_spill, 8, some .int)
theorem okX11_spill : mh_mok mX11_spill := ⟨wd_663, wd_1, by decide, ⟨by decide, by decide⟩, by decide⟩
theorem pdX11_spill : (parseMethodDescriptor yX11_spill.desc).map (fun d => d.parameters.length) = some 4 := by decide +kernel
abbrev mX11_first : mh_M := (yX11_first, cX11_first, 6, some .int)
theorem okX11_first : mh_mok mX11_first := ⟨wd_682, wd_1, by decide, ⟨by decide, by decide⟩, by decide⟩
theorem pdX11_first : (parseMethodDescriptor yX11_first.desc).map (fun d => d.parameters.length) = some 3 := by decide +kernel
abbrev mX6_add : mh_M := (yX6_add, cX6_add, 2, some .boolean)
theorem okX6_add : mh_mok mX6_add := ⟨wd_690, wd_5, by decide, ⟨by decide, by decide⟩, by decide⟩
theorem pdX6_add : (parseMethodDescriptor yX6_add.desc).map (fun d => d.parameters.length) = some 1 := by decide +kernel
abbrev mX11_feed : mh_M := (yX11_feed, cX11_feed, 5, some .int)
theorem okX11_feed : mh_mok mX11_feed := ⟨wd_686, wd_1, by decide, ⟨by decide, by decide⟩, by decide⟩
theorem pdX11_feed : (parseMethodDescriptor yX11_feed.desc).map (fun d => d.parameters.length) = some 2 := by decide +kernel
abbrev mX5_begin : mh_M := (yX5_begin, cX5_begin, 3, none)
theorem okX5_begin : mh_mok mX5_begin := ⟨wd_704, wd_8, by decide, ⟨by decide, by decide⟩, by decide⟩
theorem pdX5_begin : (parseMethodDescriptor yX5_begin.desc).map (fun d => d.parameters.length) = some 2 := by decide +kernel
abbrev mX5_next : mh_M := (yX5_next, cX5_next, 1, some .int)
theorem okX5_next : mh_mok mX5_next := ⟨wd_721, wd_8, by decide, ⟨by decide, by decide⟩, by decide⟩
theorem pdX5_next : (parseMethodDescriptor yX5_next.desc).map (fun d => d.parameters.length) = some 0 := by decide +kernel
abbrev mX5_take : mh_M := (yX5_take, cX5_take, 2, some .boolean)
theorem okX5_take : mh_mok mX5_take := ⟨wd_733, wd_8, by decide, ⟨by decide, by decide⟩, by decide⟩
theorem pdX5_take : (parseMethodDescriptor yX5_take.desc).map (fun d => d.parameters.length) = some 1 := by decide +kernel
abbrev mX5_isDigit : mh_M := (yX5_isDigit, cX5_isDigit, 1, some .boolean)
theorem okX5_isDigit : mh_mok mX5_isDigit := ⟨wd_724, wd_8, by decide, ⟨by decide, by decide⟩, by decide⟩
theorem pdX5_isDigit : (parseMethodDescriptor yX5_isDigit.desc).map (fun d => d.parameters.length) = some 1 := by decide +kernel
abbrev mX5_number : mh_M := (yX5_number, cX5_number, 3, some .int)
theorem okX5_number : mh_mok mX5_number := ⟨wd_728, wd_8, by decide, ⟨by decide, by decide⟩, by decide⟩
theorem pdX5_number : (parseMethodDescriptor yX5_number.desc).map (fun d => d.parameters.length) = some 0 := by decide +kernel
abbrev mJ0_isLatin1_aae02 : mh_M := (yJ0_isLatin1_aae02, cJ0_isLatin1_aae02, 1, some .boolean)
theorem okJ0_isLatin1_aae02 : mh_mok mJ0_isLatin1_aae02 := ⟨wd_745, wd_17, by decide, ⟨by decide, by decide⟩, by decide⟩
theorem pdJ0_isLatin1_aae02 : (parseMethodDescriptor yJ0_isLatin1_aae02.desc).map (fun d => d.parameters.length) = some 0 := by decide +kernel
abbrev mJ0_coder_7d493 : mh_M := (yJ0_coder_7d493, cJ0_coder_7d493, 1, some .byte)
theorem okJ0_coder_7d493 : mh_mok mJ0_coder_7d493 := ⟨wd_755, wd_17, by decide, ⟨by decide, by decide⟩, by decide⟩
theorem pdJ0_coder_7d493 : (parseMethodDescriptor yJ0_coder_7d493.desc).map (fun d => d.parameters.length) = some 0 := by decide +kernel
abbrev mJ0_length_8abf5 : mh_M := (yJ0_length_8abf5, cJ0_length_8abf5, 1, some .int)
theorem okJ0_length_8abf5 : mh_mok mJ0_length_8abf5 := ⟨wd_751, wd_17, by decide, ⟨by decide, by decide⟩, by decide⟩
theorem pdJ0_length_8abf5 : (parseMethodDescriptor yJ0_length_8abf5.desc).map (fun d => d.parameters.length) = some 0 := by decide +kernel
abbrev mJ1_canEncode_9a6ad : mh_M := (yJ1_canEncode_9a6ad, cJ1_canEncode_9a6ad, 1, some .boolean)
theorem okJ1_canEncode_9a6ad : mh_mok mJ1_canEncode_9a6ad := ⟨wd_761, wd_18, by decide, ⟨by decide, by decide⟩, by decide⟩
theorem pdJ1_canEncode_9a6ad : (parseMethodDescriptor yJ1_canEncode_9a6ad.desc).map (fun d => d.parameters.length) = some 1 := by decide +kernel
abbrev mJ1_indexOfChar_4cfef : mh_M := (yJ1_indexOfChar_4cfef, cJ1_indexOfChar_4cfef, 6, some .int)
theorem okJ1_indexOfChar_4cfef : mh_mok mJ1_indexOfChar_4cfef := ⟨wd_766, wd_18, by decide, ⟨by decide, by decide⟩, by decide⟩
theorem pdJ1_indexOfChar_4cfef : (parseMethodDescriptor yJ1_indexOfChar_4cfef.desc).map (fun d => d.parameters.length) = some 4 := by decide +kernel
abbrev mJ1_indexOf_4cfef : mh_M := (yJ1_indexOf_4cfef, cJ1_indexOf_4cfef, 4, some .int)
theorem okJ1_indexOf_4cfef : mh_mok mJ1_indexOf_4cfef := ⟨wd_758, wd_18, by decide, ⟨by decide, by decide⟩, by decide⟩
theorem pdJ1_indexOf_4cfef : (parseMethodDescriptor yJ1_indexOf_4cfef.desc).map (fun d => d.parameters.length) = some 4 := by decide +kernel
abbrev mJ0_indexOf_7cf53 : mh_M := (yJ0_indexOf_7cf53, cJ0_indexOf_7cf53, 3, some .int)
theorem okJ0_indexOf_7cf53 : mh_mok mJ0_indexOf_7cf53 := ⟨wd_741, wd_17, by decide, ⟨by decide, by decide⟩, by decide⟩
theorem pdJ0_indexOf_7cf53 : (parseMethodDescriptor yJ0_indexOf_7cf53.desc).map (fun d => d.parameters.length) = some 2 := by decide +kernel
abbrev mJ0_indexOf_0f7a4 : mh_M := (yJ0_indexOf_0f7a4, cJ0_indexOf_0f7a4, 2, some .int)
theorem okJ0_indexOf_0f7a4 : mh_mok mJ0_indexOf_0f7a4 := ⟨wd_737, wd_17, by decide, ⟨by decide, by decide⟩, by decide⟩
theorem pdJ0_indexOf_0f7a4 : (parseMethodDescriptor yJ0_indexOf_0f7a4.desc).map (fun d => d.parameters.length) = some 1 := by decide +kernel
abbrev mX5_one : mh_M := (yX5_one, cX5_one, 3, none)
theorem okX5_one : mh_mok mX5_one := ⟨wd_717, wd_8, by decide, ⟨by decide, by decide⟩, by decide⟩
theorem pdX5_one : (parseMethodDescriptor yX5_one.desc).map (fun d => d.parameters.length) = some 1 := by decide +kernel
abbrev mX5_term : mh_M := (yX5_term, cX5_term, 4, none)
theorem okX5_term : mh_mok mX5_term := ⟨wd_713, wd_8, by decide, ⟨by decide, by decide⟩, by decide⟩
theorem pdX5_term : (parseMethodDescriptor yX5_term.desc).map (fun d => d.parameters.length) = some 1 := by decide +kernel
abbrev mX5_sum : mh_M := (yX5_sum, cX5_sum, 4, none)
theorem okX5_sum : mh_mok mX5_sum := ⟨wd_709, wd_8, by decide, ⟨by decide, by decide⟩, by decide⟩
theorem pdX5_sum : (parseMethodDescriptor yX5_sum.desc).map (fun d => d.parameters.length) = some 1 := by decide +kernel
abbrev mX5_tests : mh_M := (yX5_tests, cX5_tests, 4, none)
theorem okX5_tests : mh_mok mX5_tests := ⟨wd_819, wd_8, by decide, ⟨by decide, by decide⟩, by decide⟩
theorem pdX5_tests : (parseMethodDescriptor yX5_tests.desc).map (fun d => d.parameters.length) = some 0 := by decide +kernel
abbrev mX5_casesOf : mh_M := (yX5_casesOf, cX5_casesOf, 4, some .int)
theorem okX5_casesOf : mh_mok mX5_casesOf := ⟨wd_700, wd_8, by decide, ⟨by decide, by decide⟩, by decide⟩
theorem pdX5_casesOf : (parseMethodDescriptor yX5_casesOf.desc).map (fun d => d.parameters.length) = some 2 := by decide +kernel
abbrev mX6_copyOf : mh_M := (yX6_copyOf, cX6_copyOf, 2, none)
theorem okX6_copyOf : mh_mok mX6_copyOf := ⟨wd_823, wd_5, by decide, ⟨by decide, by decide⟩, by decide⟩
theorem pdX6_copyOf : (parseMethodDescriptor yX6_copyOf.desc).map (fun d => d.parameters.length) = some 1 := by decide +kernel
abbrev mX11_text : mh_M := (yX11_text, cX11_text, 4, some .int)
theorem okX11_text : mh_mok mX11_text := ⟨wd_694, wd_1, by decide, ⟨by decide, by decide⟩, by decide⟩
theorem pdX11_text : (parseMethodDescriptor yX11_text.desc).map (fun d => d.parameters.length) = some 1 := by decide +kernel
abbrev mX11_rain : mh_M := (yX11_rain, cX11_rain, 2, some .int)
theorem okX11_rain : mh_mok mX11_rain := ⟨wd_829, wd_1, by decide, ⟨by decide, by decide⟩, by decide⟩
theorem pdX11_rain : (parseMethodDescriptor yX11_rain.desc).map (fun d => d.parameters.length) = some 1 := by decide +kernel
abbrev mX10_seenAt : mh_M := (yX10_seenAt, cX10_seenAt, 5, some .int)
theorem okX10_seenAt : mh_mok mX10_seenAt := ⟨wd_838, wd_2, by decide, ⟨by decide, by decide⟩, by decide⟩
theorem pdX10_seenAt : (parseMethodDescriptor yX10_seenAt.desc).map (fun d => d.parameters.length) = some 4 := by decide +kernel
abbrev mX11_seen : mh_M := (yX11_seen, cX11_seen, 4, some .int)
theorem okX11_seen : mh_mok mX11_seen := ⟨wd_834, wd_1, by decide, ⟨by decide, by decide⟩, by decide⟩
theorem pdX11_seen : (parseMethodDescriptor yX11_seen.desc).map (fun d => d.parameters.length) = some 3 := by decide +kernel
abbrev mX11_lookError : mh_M := (yX11_lookError, cX11_lookError, 3, some .int)
theorem okX11_lookError : mh_mok mX11_lookError := ⟨wd_846, wd_1, by decide, ⟨by decide, by decide⟩, by decide⟩
theorem pdX11_lookError : (parseMethodDescriptor yX11_lookError.desc).map (fun d => d.parameters.length) = some 2 := by decide +kernel
abbrev mX1_putPart : mh_M := (yX1_putPart, cX1_putPart, 3, some .int)
theorem okX1_putPart : mh_mok mX1_putPart := ⟨wd_862, wd_4, by decide, ⟨by decide, by decide⟩, by decide⟩
theorem pdX1_putPart : (parseMethodDescriptor yX1_putPart.desc).map (fun d => d.parameters.length) = some 2 := by decide +kernel
abbrev mX1_holesOf : mh_M := (yX1_holesOf, cX1_holesOf, 4, some .int)
theorem okX1_holesOf : mh_mok mX1_holesOf := ⟨wd_858, wd_4, by decide, ⟨by decide, by decide⟩, by decide⟩
theorem pdX1_holesOf : (parseMethodDescriptor yX1_holesOf.desc).map (fun d => d.parameters.length) = some 1 := by decide +kernel
abbrev mX1_addLook : mh_M := (yX1_addLook, cX1_addLook, 8, none)
theorem okX1_addLook : mh_mok mX1_addLook := ⟨wd_854, wd_4, by decide, ⟨by decide, by decide⟩, by decide⟩
theorem pdX1_addLook : (parseMethodDescriptor yX1_addLook.desc).map (fun d => d.parameters.length) = some 6 := by decide +kernel
abbrev mX11_lookSees : mh_M := (yX11_lookSees, cX11_lookSees, 6, some .boolean)
theorem okX11_lookSees : mh_mok mX11_lookSees := ⟨wd_850, wd_1, by decide, ⟨by decide, by decide⟩, by decide⟩
theorem pdX11_lookSees : (parseMethodDescriptor yX11_lookSees.desc).map (fun d => d.parameters.length) = some 4 := by decide +kernel
abbrev mX11_bottle : mh_M := (yX11_bottle, cX11_bottle, 5, some .int)
theorem okX11_bottle : mh_mok mX11_bottle := ⟨wd_842, wd_1, by decide, ⟨by decide, by decide⟩, by decide⟩
theorem pdX11_bottle : (parseMethodDescriptor yX11_bottle.desc).map (fun d => d.parameters.length) = some 2 := by decide +kernel
abbrev mX11_bag : mh_M := (yX11_bag, cX11_bag, 7, some .int)
theorem okX11_bag : mh_mok mX11_bag := ⟨wd_866, wd_1, by decide, ⟨by decide, by decide⟩, by decide⟩
theorem pdX11_bag : (parseMethodDescriptor yX11_bag.desc).map (fun d => d.parameters.length) = some 3 := by decide +kernel
abbrev mX11_lookIs : mh_M := (yX11_lookIs, cX11_lookIs, 3, some .int)
theorem okX11_lookIs : mh_mok mX11_lookIs := ⟨wd_870, wd_1, by decide, ⟨by decide, by decide⟩, by decide⟩
theorem pdX11_lookIs : (parseMethodDescriptor yX11_lookIs.desc).map (fun d => d.parameters.length) = some 2 := by decide +kernel
abbrev mX11_pairError : mh_M := (yX11_pairError, cX11_pairError, 3, some .int)
theorem okX11_pairError : mh_mok mX11_pairError := ⟨wd_878, wd_1, by decide, ⟨by decide, by decide⟩, by decide⟩
theorem pdX11_pairError : (parseMethodDescriptor yX11_pairError.desc).map (fun d => d.parameters.length) = some 2 := by decide +kernel
abbrev mX1_lookPart : mh_M := (yX1_lookPart, cX1_lookPart, 3, some .int)
theorem okX1_lookPart : mh_mok mX1_lookPart := ⟨wd_886, wd_4, by decide, ⟨by decide, by decide⟩, by decide⟩
theorem pdX1_lookPart : (parseMethodDescriptor yX1_lookPart.desc).map (fun d => d.parameters.length) = some 2 := by decide +kernel
abbrev mX1_isAbout : mh_M := (yX1_isAbout, cX1_isAbout, 4, some .boolean)
theorem okX1_isAbout : mh_mok mX1_isAbout := ⟨wd_890, wd_4, by decide, ⟨by decide, by decide⟩, by decide⟩
theorem pdX1_isAbout : (parseMethodDescriptor yX1_isAbout.desc).map (fun d => d.parameters.length) = some 3 := by decide +kernel
abbrev mX1_saw : mh_M := (yX1_saw, cX1_saw, 2, some .boolean)
theorem okX1_saw : mh_mok mX1_saw := ⟨wd_895, wd_4, by decide, ⟨by decide, by decide⟩, by decide⟩
theorem pdX1_saw : (parseMethodDescriptor yX1_saw.desc).map (fun d => d.parameters.length) = some 1 := by decide +kernel
abbrev mX1_said : mh_M := (yX1_said, cX1_said, 8, some .int)
theorem okX1_said : mh_mok mX1_said := ⟨wd_882, wd_4, by decide, ⟨by decide, by decide⟩, by decide⟩
theorem pdX1_said : (parseMethodDescriptor yX1_said.desc).map (fun d => d.parameters.length) = some 3 := by decide +kernel
abbrev mX11_joined : mh_M := (yX11_joined, cX11_joined, 5, some .int)
theorem okX11_joined : mh_mok mX11_joined := ⟨wd_874, wd_1, by decide, ⟨by decide, by decide⟩, by decide⟩
theorem pdX11_joined : (parseMethodDescriptor yX11_joined.desc).map (fun d => d.parameters.length) = some 3 := by decide +kernel
abbrev mX1_inVain : mh_M := (yX1_inVain, cX1_inVain, 5, some .int)
theorem okX1_inVain : mh_mok mX1_inVain := ⟨wd_904, wd_4, by decide, ⟨by decide, by decide⟩, by decide⟩
theorem pdX1_inVain : (parseMethodDescriptor yX1_inVain.desc).map (fun d => d.parameters.length) = some 2 := by decide +kernel
abbrev mX11_never : mh_M := (yX11_never, cX11_never, 4, some .int)
theorem okX11_never : mh_mok mX11_never := ⟨wd_900, wd_1, by decide, ⟨by decide, by decide⟩, by decide⟩
theorem pdX11_never : (parseMethodDescriptor yX11_never.desc).map (fun d => d.parameters.length) = some 2 := by decide +kernel
abbrev mX1_firstSaw : mh_M := (yX1_firstSaw, cX1_firstSaw, 4, some .int)
theorem okX1_firstSaw : mh_mok mX1_firstSaw := ⟨wd_917, wd_4, by decide, ⟨by decide, by decide⟩, by decide⟩
theorem pdX1_firstSaw : (parseMethodDescriptor yX1_firstSaw.desc).map (fun d => d.parameters.length) = some 2 := by decide +kernel
abbrev mX1_latestVain : mh_M := (yX1_latestVain, cX1_latestVain, 7, some .int)
theorem okX1_latestVain : mh_mok mX1_latestVain := ⟨wd_921, wd_4, by decide, ⟨by decide, by decide⟩, by decide⟩
theorem pdX1_latestVain : (parseMethodDescriptor yX1_latestVain.desc).map (fun d => d.parameters.length) = some 4 := by decide +kernel
abbrev mX1_onlyPut : mh_M := (yX1_onlyPut, cX1_onlyPut, 4, some .int)
theorem okX1_onlyPut : mh_mok mX1_onlyPut := ⟨wd_912, wd_4, by decide, ⟨by decide, by decide⟩, by decide⟩
theorem pdX1_onlyPut : (parseMethodDescriptor yX1_onlyPut.desc).map (fun d => d.parameters.length) = some 1 := by decide +kernel
abbrev mX11_span : mh_M := (yX11_span, cX11_span, 9, some .int)
theorem okX11_span : mh_mok mX11_span := ⟨wd_908, wd_1, by decide, ⟨by decide, by decide⟩, by decide⟩
theorem pdX11_span : (parseMethodDescriptor yX11_span.desc).map (fun d => d.parameters.length) = some 4 := by decide +kernel
abbrev mX11_isMust : mh_M := (yX11_isMust, cX11_isMust, 3, some .boolean)
theorem okX11_isMust : mh_mok mX11_isMust := ⟨wd_930, wd_1, by decide, ⟨by decide, by decide⟩, by decide⟩
theorem pdX11_isMust : (parseMethodDescriptor yX11_isMust.desc).map (fun d => d.parameters.length) = some 2 := by decide +kernel
abbrev mX11_musts : mh_M := (yX11_musts, cX11_musts, 6, some .int)
theorem okX11_musts : mh_mok mX11_musts := ⟨wd_926, wd_1, by decide, ⟨by decide, by decide⟩, by decide⟩
theorem pdX11_musts : (parseMethodDescriptor yX11_musts.desc).map (fun d => d.parameters.length) = some 2 := by decide +kernel
abbrev mX10_side : mh_M := (yX10_side, cX10_side, 4, some .int)
theorem okX10_side : mh_mok mX10_side := ⟨wd_942, wd_2, by decide, ⟨by decide, by decide⟩, by decide⟩
theorem pdX10_side : (parseMethodDescriptor yX10_side.desc).map (fun d => d.parameters.length) = some 3 := by decide +kernel
abbrev mX10_parts : mh_M := (yX10_parts, cX10_parts, 7, some .boolean)
theorem okX10_parts : mh_mok mX10_parts := ⟨wd_938, wd_2, by decide, ⟨by decide, by decide⟩, by decide⟩
theorem pdX10_parts : (parseMethodDescriptor yX10_parts.desc).map (fun d => d.parameters.length) = some 4 := by decide +kernel
abbrev mX11_crosses : mh_M := (yX11_crosses, cX11_crosses, 9, some .int)
theorem okX11_crosses : mh_mok mX11_crosses := ⟨wd_934, wd_1, by decide, ⟨by decide, by decide⟩, by decide⟩
theorem pdX11_crosses : (parseMethodDescriptor yX11_crosses.desc).map (fun d => d.parameters.length) = some 4 := by decide +kernel
abbrev mX1_canCover : mh_M := (yX1_canCover, cX1_canCover, 5, some .boolean)
theorem okX1_canCover : mh_mok mX1_canCover := ⟨wd_971, wd_4, by decide, ⟨by decide, by decide⟩, by decide⟩
theorem pdX1_canCover : (parseMethodDescriptor yX1_canCover.desc).map (fun d => d.parameters.length) = some 2 := by decide +kernel
abbrev mX1_coverOf : mh_M := (yX1_coverOf, cX1_coverOf, 6, some .int)
theorem okX1_coverOf : mh_mok mX1_coverOf := ⟨wd_966, wd_4, by decide, ⟨by decide, by decide⟩, by decide⟩
theorem pdX1_coverOf : (parseMethodDescriptor yX1_coverOf.desc).map (fun d => d.parameters.length) = some 2 := by decide +kernel
abbrev mX1_findSides : mh_M := (yX1_findSides, cX1_findSides, 9, some .int)
theorem okX1_findSides : mh_mok mX1_findSides := ⟨wd_960, wd_4, by decide, ⟨by decide, by decide⟩, by decide⟩
theorem pdX1_findSides : (parseMethodDescriptor yX1_findSides.desc).map (fun d => d.parameters.length) = some 2 := by decide +kernel
abbrev mJ6_bitCount_0f7a4 : mh_M := (yJ6_bitCount_0f7a4, cJ6_bitCount_0f7a4, 1, some .int)
theorem okJ6_bitCount_0f7a4 : mh_mok mJ6_bitCount_0f7a4 := ⟨wd_949, wd_22, by decide, ⟨by decide, by decide⟩, by decide⟩
theorem pdJ6_bitCount_0f7a4 : (parseMethodDescriptor yJ6_bitCount_0f7a4.desc).map (fun d => d.parameters.length) = some 1 := by decide +kernel
abbrev mX1_fewestRooms : mh_M := (yX1_fewestRooms, cX1_fewestRooms, 6, some .int)
theorem okX1_fewestRooms : mh_mok mX1_fewestRooms := ⟨wd_956, wd_4, by decide, ⟨by decide, by decide⟩, by decide⟩
theorem pdX1_fewestRooms : (parseMethodDescriptor yX1_fewestRooms.desc).map (fun d => d.parameters.length) = some 2 := by decide +kernel
abbrev mX11_rooms : mh_M := (yX11_rooms, cX11_rooms, 4, some .int)
theorem okX11_rooms : mh_mok mX11_rooms := ⟨wd_946, wd_1, by decide, ⟨by decide, by decide⟩, by decide⟩
theorem pdX11_rooms : (parseMethodDescriptor yX11_rooms.desc).map (fun d => d.parameters.length) = some 2 := by decide +kernel
abbrev mX11_town : mh_M := (yX11_town, cX11_town, 4, some .int)
theorem okX11_town : mh_mok mX11_town := ⟨wd_975, wd_1, by decide, ⟨by decide, by decide⟩, by decide⟩
theorem pdX11_town : (parseMethodDescriptor yX11_town.desc).map (fun d => d.parameters.length) = some 2 := by decide +kernel
abbrev mX1_holesKnownAt : mh_M := (yX1_holesKnownAt, cX1_holesKnownAt, 4, some .int)
theorem okX1_holesKnownAt : mh_mok mX1_holesKnownAt := ⟨wd_983, wd_4, by decide, ⟨by decide, by decide⟩, by decide⟩
theorem pdX1_holesKnownAt : (parseMethodDescriptor yX1_holesKnownAt.desc).map (fun d => d.parameters.length) = some 1 := by decide +kernel
abbrev mX1_holesLookedFor : mh_M := (yX1_holesLookedFor, cX1_holesLookedFor, 4, some .int)
theorem okX1_holesLookedFor : mh_mok mX1_holesLookedFor := ⟨wd_991, wd_4, by decide, ⟨by decide, by decide⟩, by decide⟩
theorem pdX1_holesLookedFor : (parseMethodDescriptor yX1_holesLookedFor.desc).map (fun d => d.parameters.length) = some 1 := by decide +kernel
abbrev mX1_planSprings : mh_M := (yX1_planSprings, cX1_planSprings, 9, none)
theorem okX1_planSprings : mh_mok mX1_planSprings := ⟨wd_995, wd_4, by decide, ⟨by decide, by decide⟩, by decide⟩
theorem pdX1_planSprings : (parseMethodDescriptor yX1_planSprings.desc).map (fun d => d.parameters.length) = some 3 := by decide +kernel
abbrev mX1_planNight : mh_M := (yX1_planNight, cX1_planNight, 8, none)
theorem okX1_planNight : mh_mok mX1_planNight := ⟨wd_987, wd_4, by decide, ⟨by decide, by decide⟩, by decide⟩
theorem pdX1_planNight : (parseMethodDescriptor yX1_planNight.desc).map (fun d => d.parameters.length) = some 4 := by decide +kernel
abbrev mX11_night : mh_M := (yX11_night, cX11_night, 6, some .int)
theorem okX11_night : mh_mok mX11_night := ⟨wd_979, wd_1, by decide, ⟨by decide, by decide⟩, by decide⟩
theorem pdX11_night : (parseMethodDescriptor yX11_night.desc).map (fun d => d.parameters.length) = some 3 := by decide +kernel
abbrev mX1_isFullBottle : mh_M := (yX1_isFullBottle, cX1_isFullBottle, 3, some .boolean)
theorem okX1_isFullBottle : mh_mok mX1_isFullBottle := ⟨wd_1007, wd_4, by decide, ⟨by decide, by decide⟩, by decide⟩
theorem pdX1_isFullBottle : (parseMethodDescriptor yX1_isFullBottle.desc).map (fun d => d.parameters.length) = some 2 := by decide +kernel
abbrev mX1_wasSeenAhead : mh_M := (yX1_wasSeenAhead, cX1_wasSeenAhead, 4, some .boolean)
theorem okX1_wasSeenAhead : mh_mok mX1_wasSeenAhead := ⟨wd_1011, wd_4, by decide, ⟨by decide, by decide⟩, by decide⟩
theorem pdX1_wasSeenAhead : (parseMethodDescriptor yX1_wasSeenAhead.desc).map (fun d => d.parameters.length) = some 2 := by decide +kernel
abbrev mX1_seenInBottles : mh_M := (yX1_seenInBottles, cX1_seenInBottles, 4, some .int)
theorem okX1_seenInBottles : mh_mok mX1_seenInBottles := ⟨wd_1003, wd_4, by decide, ⟨by decide, by decide⟩, by decide⟩
theorem pdX1_seenInBottles : (parseMethodDescriptor yX1_seenInBottles.desc).map (fun d => d.parameters.length) = some 1 := by decide +kernel
abbrev mX11_share : mh_M := (yX11_share, cX11_share, 2, some .int)
theorem okX11_share : mh_mok mX11_share := ⟨wd_999, wd_1, by decide, ⟨by decide, by decide⟩, by decide⟩
theorem pdX11_share : (parseMethodDescriptor yX11_share.desc).map (fun d => d.parameters.length) = some 1 := by decide +kernel
abbrev mX9_runs : mh_M := (yX9_runs, cX9_runs, 3, some .int)
theorem okX9_runs : mh_mok mX9_runs := ⟨wd_1033, wd_7, by decide, ⟨by decide, by decide⟩, by decide⟩
theorem pdX9_runs : (parseMethodDescriptor yX9_runs.desc).map (fun d => d.parameters.length) = some 2 := by decide +kernel
abbrev mX9_tells : mh_M := (yX9_tells, cX9_tells, 3, some .int)
theorem okX9_tells : mh_mok mX9_tells := ⟨wd_1103, wd_7, by decide, ⟨by decide, by decide⟩, by decide⟩
theorem pdX9_tells : (parseMethodDescriptor yX9_tells.desc).map (fun d => d.parameters.length) = some 2 := by decide +kernel
abbrev mX0_tells : mh_M := (yX0_tells, cX0_tells, 4, some .int)
theorem okX0_tells : mh_mok mX0_tells := ⟨wd_1079, wd_14, by decide, ⟨by decide, by decide⟩, by decide⟩
theorem pdX0_tells : (parseMethodDescriptor yX0_tells.desc).map (fun d => d.parameters.length) = some 2 := by decide +kernel
abbrev mX2_runs : mh_M := (yX2_runs, cX2_runs, 3, some .int)
theorem okX2_runs : mh_mok mX2_runs := ⟨wd_1023, wd_10, by decide, ⟨by decide, by decide⟩, by decide⟩
theorem pdX2_runs : (parseMethodDescriptor yX2_runs.desc).map (fun d => d.parameters.length) = some 2 := by decide +kernel
abbrev mX3_runs : mh_M := (yX3_runs, cX3_runs, 3, some .int)
theorem okX3_runs : mh_mok mX3_runs := ⟨wd_1028, wd_12, by decide, ⟨by decide, by decide⟩, by decide⟩
theorem pdX3_runs : (parseMethodDescriptor yX3_runs.desc).map (fun d => d.parameters.length) = some 2 := by decide +kernel
abbrev mX9_isParted : mh_M := (yX9_isParted, cX9_isParted, 1, some .boolean)
theorem okX9_isParted : mh_mok mX9_isParted := ⟨wd_1098, wd_7, by decide, ⟨by decide, by decide⟩, by decide⟩
theorem pdX9_isParted : (parseMethodDescriptor yX9_isParted.desc).map (fun d => d.parameters.length) = some 0 := by decide +kernel
abbrev mX2_tells : mh_M := (yX2_tells, cX2_tells, 4, some .int)
theorem okX2_tells : mh_mok mX2_tells := ⟨wd_1090, wd_10, by decide, ⟨by decide, by decide⟩, by decide⟩
theorem pdX2_tells : (parseMethodDescriptor yX2_tells.desc).map (fun d => d.parameters.length) = some 2 := by decide +kernel
abbrev mX9_holds : mh_M := (yX9_holds, cX9_holds, 3, some .int)
theorem okX9_holds : mh_mok mX9_holds := ⟨wd_1052, wd_7, by decide, ⟨by decide, by decide⟩, by decide⟩
theorem pdX9_holds : (parseMethodDescriptor yX9_holds.desc).map (fun d => d.parameters.length) = some 2 := by decide +kernel
abbrev mX4_holds : mh_M := (yX4_holds, cX4_holds, 3, some .int)
theorem okX4_holds : mh_mok mX4_holds := ⟨wd_1048, wd_13, by decide, ⟨by decide, by decide⟩, by decide⟩
theorem pdX4_holds : (parseMethodDescriptor yX4_holds.desc).map (fun d => d.parameters.length) = some 2 := by decide +kernel
abbrev mX7_holds : mh_M := (yX7_holds, cX7_holds, 3, some .int)
theorem okX7_holds : mh_mok mX7_holds := ⟨wd_1041, wd_11, by decide, ⟨by decide, by decide⟩, by decide⟩
theorem pdX7_holds : (parseMethodDescriptor yX7_holds.desc).map (fun d => d.parameters.length) = some 2 := by decide +kernel
abbrev mX9_spills : mh_M := (yX9_spills, cX9_spills, 3, some .int)
theorem okX9_spills : mh_mok mX9_spills := ⟨wd_1071, wd_7, by decide, ⟨by decide, by decide⟩, by decide⟩
theorem pdX9_spills : (parseMethodDescriptor yX9_spills.desc).map (fun d => d.parameters.length) = some 2 := by decide +kernel
abbrev mX3_spills : mh_M := (yX3_spills, cX3_spills, 3, some .int)
theorem okX3_spills : mh_mok mX3_spills := ⟨wd_1062, wd_12, by decide, ⟨by decide, by decide⟩, by decide⟩
theorem pdX3_spills : (parseMethodDescriptor yX3_spills.desc).map (fun d => d.parameters.length) = some 2 := by decide +kernel
abbrev mX4_spills : mh_M := (yX4_spills, cX4_spills, 3, some .int)
theorem okX4_spills : mh_mok mX4_spills := ⟨wd_1068, wd_13, by decide, ⟨by decide, by decide⟩, by decide⟩
theorem pdX4_spills : (parseMethodDescriptor yX4_spills.desc).map (fun d => d.parameters.length) = some 2 := by decide +kernel
abbrev mX11_voice : mh_M := (yX11_voice, cX11_voice, 6, some .int)
theorem okX11_voice : mh_mok mX11_voice := ⟨wd_1015, wd_1, by decide, ⟨by decide, by decide⟩, by decide⟩
theorem pdX11_voice : (parseMethodDescriptor yX11_voice.desc).map (fun d => d.parameters.length) = some 3 := by decide +kernel
abbrev mX11_trace : mh_M := (yX11_trace, cX11_trace, 2, some .int)
theorem okX11_trace : mh_mok mX11_trace := ⟨wd_1109, wd_1, by decide, ⟨by decide, by decide⟩, by decide⟩
theorem pdX11_trace : (parseMethodDescriptor yX11_trace.desc).map (fun d => d.parameters.length) = some 1 := by decide +kernel
abbrev mX11_sheet : mh_M := (yX11_sheet, cX11_sheet, 5, some .int)
theorem okX11_sheet : mh_mok mX11_sheet := ⟨wd_1114, wd_1, by decide, ⟨by decide, by decide⟩, by decide⟩
theorem pdX11_sheet : (parseMethodDescriptor yX11_sheet.desc).map (fun d => d.parameters.length) = some 3 := by decide +kernel
abbrev mX11_lowest : mh_M := (yX11_lowest, cX11_lowest, 2, some .int)
theorem okX11_lowest : mh_mok mX11_lowest := ⟨wd_1121, wd_1, by decide, ⟨by decide, by decide⟩, by decide⟩
theorem pdX11_lowest : (parseMethodDescriptor yX11_lowest.desc).map (fun d => d.parameters.length) = some 2 := by decide +kernel
abbrev mX11_place : mh_M := (yX11_place, cX11_place, 4, some .int)
theorem okX11_place : mh_mok mX11_place := ⟨wd_1118, wd_1, by decide, ⟨by decide, by decide⟩, by decide⟩
theorem pdX11_place : (parseMethodDescriptor yX11_place.desc).map (fun d => d.parameters.length) = some 3 := by decide +kernel
abbrev mX11_move : mh_M := (yX11_move, cX11_move, 6, some .int)
theorem okX11_move : mh_mok mX11_move := ⟨wd_1125, wd_1, by decide, ⟨by decide, by decide⟩, by decide⟩
theorem pdX11_move : (parseMethodDescriptor yX11_move.desc).map (fun d => d.parameters.length) = some 5 := by decide +kernel
abbrev mX1_copyOf : mh_M := (yX1_copyOf, cX1_copyOf, 2, none)
theorem okX1_copyOf : mh_mok mX1_copyOf := ⟨wd_1140, wd_4, by decide, ⟨by decide, by decide⟩, by decide⟩
theorem pdX1_copyOf : (parseMethodDescriptor yX1_copyOf.desc).map (fun d => d.parameters.length) = some 1 := by decide +kernel
abbrev mX10_copyOf : mh_M := (yX10_copyOf, cX10_copyOf, 3, none)
theorem okX10_copyOf : mh_mok mX10_copyOf := ⟨wd_1134, wd_2, by decide, ⟨by decide, by decide⟩, by decide⟩
theorem pdX10_copyOf : (parseMethodDescriptor yX10_copyOf.desc).map (fun d => d.parameters.length) = some 1 := by decide +kernel
abbrev mX11_image : mh_M := (yX11_image, cX11_image, 1, some .int)
theorem okX11_image : mh_mok mX11_image := ⟨wd_1130, wd_1, by decide, ⟨by decide, by decide⟩, by decide⟩
theorem pdX11_image : (parseMethodDescriptor yX11_image.desc).map (fun d => d.parameters.length) = some 0 := by decide +kernel
abbrev mX11_restore : mh_M := (yX11_restore, cX11_restore, 1, some .int)
theorem okX11_restore : mh_mok mX11_restore := ⟨wd_1146, wd_1, by decide, ⟨by decide, by decide⟩, by decide⟩
theorem pdX11_restore : (parseMethodDescriptor yX11_restore.desc).map (fun d => d.parameters.length) = some 0 := by decide +kernel
abbrev mX11_tell : mh_M := (yX11_tell, cX11_tell, 2, some .int)
theorem okX11_tell : mh_mok mX11_tell := ⟨wd_1150, wd_1, by decide, ⟨by decide, by decide⟩, by decide⟩
theorem pdX11_tell : (parseMethodDescriptor yX11_tell.desc).map (fun d => d.parameters.length) = some 1 := by decide +kernel
abbrev mX11_check : mh_M := (yX11_check, cX11_check, 4, some .int)
theorem okX11_check : mh_mok mX11_check := ⟨wd_1154, wd_1, by decide, ⟨by decide, by decide⟩, by decide⟩
theorem pdX11_check : (parseMethodDescriptor yX11_check.desc).map (fun d => d.parameters.length) = some 1 := by decide +kernel
abbrev mX1_howManySaw : mh_M := (yX1_howManySaw, cX1_howManySaw, 3, some .int)
theorem okX1_howManySaw : mh_mok mX1_howManySaw := ⟨wd_1163, wd_4, by decide, ⟨by decide, by decide⟩, by decide⟩
theorem pdX1_howManySaw : (parseMethodDescriptor yX1_howManySaw.desc).map (fun d => d.parameters.length) = some 0 := by decide +kernel
abbrev mX11_count : mh_M := (yX11_count, cX11_count, 2, some .int)
theorem okX11_count : mh_mok mX11_count := ⟨wd_1159, wd_1, by decide, ⟨by decide, by decide⟩, by decide⟩
theorem pdX11_count : (parseMethodDescriptor yX11_count.desc).map (fun d => d.parameters.length) = some 1 := by decide +kernel
abbrev mX11_told : mh_M := (yX11_told, cX11_told, 2, some .int)
theorem okX11_told : mh_mok mX11_told := ⟨wd_1167, wd_1, by decide, ⟨by decide, by decide⟩, by decide⟩
theorem pdX11_told : (parseMethodDescriptor yX11_told.desc).map (fun d => d.parameters.length) = some 1 := by decide +kernel
abbrev mX12_init : mh_M := (yX12_init, cX12_init, 1, none)
theorem okX12_init : mh_mok mX12_init := ⟨wd_1172, wd_9, by decide, ⟨by decide, by decide⟩, by decide⟩
theorem pdX12_init : (parseMethodDescriptor yX12_init.desc).map (fun d => d.parameters.length) = some 0 := by decide +kernel
abbrev mX12_error : mh_M := (yX12_error, cX12_error, 2, some .int)
theorem okX12_error : mh_mok mX12_error := ⟨wd_1277, wd_9, by decide, ⟨by decide, by decide⟩, by decide⟩
theorem pdX12_error : (parseMethodDescriptor yX12_error.desc).map (fun d => d.parameters.length) = some 1 := by decide +kernel
abbrev mX12_in : mh_M := (yX12_in, cX12_in, 6, some .boolean)
theorem okX12_in : mh_mok mX12_in := ⟨wd_1272, wd_9, by decide, ⟨by decide, by decide⟩, by decide⟩
theorem pdX12_in : (parseMethodDescriptor yX12_in.desc).map (fun d => d.parameters.length) = some 3 := by decide +kernel
abbrev mX12_isJoint : mh_M := (yX12_isJoint, cX12_isJoint, 2, some .boolean)
theorem okX12_isJoint : mh_mok mX12_isJoint := ⟨wd_1289, wd_9, by decide, ⟨by decide, by decide⟩, by decide⟩
theorem pdX12_isJoint : (parseMethodDescriptor yX12_isJoint.desc).map (fun d => d.parameters.length) = some 1 := by decide +kernel
abbrev mX12_isWay : mh_M := (yX12_isWay, cX12_isWay, 2, some .boolean)
theorem okX12_isWay : mh_mok mX12_isWay := ⟨wd_1319, wd_9, by decide, ⟨by decide, by decide⟩, by decide⟩
theorem pdX12_isWay : (parseMethodDescriptor yX12_isWay.desc).map (fun d => d.parameters.length) = some 1 := by decide +kernel
abbrev mX12_isColour : mh_M := (yX12_isColour, cX12_isColour, 1, some .boolean)
theorem okX12_isColour : mh_mok mX12_isColour := ⟨wd_1360, wd_9, by decide, ⟨by decide, by decide⟩, by decide⟩
theorem pdX12_isColour : (parseMethodDescriptor yX12_isColour.desc).map (fun d => d.parameters.length) = some 1 := by decide +kernel
abbrev mX12_joint : mh_M := (yX12_joint, cX12_joint, 1, some .int)
theorem okX12_joint : mh_mok mX12_joint := ⟨wd_1281, wd_9, by decide, ⟨by decide, by decide⟩, by decide⟩
theorem pdX12_joint : (parseMethodDescriptor yX12_joint.desc).map (fun d => d.parameters.length) = some 1 := by decide +kernel
abbrev mX12_way : mh_M := (yX12_way, cX12_way, 1, some .int)
theorem okX12_way : mh_mok mX12_way := ⟨wd_1311, wd_9, by decide, ⟨by decide, by decide⟩, by decide⟩
theorem pdX12_way : (parseMethodDescriptor yX12_way.desc).map (fun d => d.parameters.length) = some 1 := by decide +kernel
abbrev mX12_sort : mh_M := (yX12_sort, cX12_sort, 2, some .int)
theorem okX12_sort : mh_mok mX12_sort := ⟨wd_1304, wd_9, by decide, ⟨by decide, by decide⟩, by decide⟩
theorem pdX12_sort : (parseMethodDescriptor yX12_sort.desc).map (fun d => d.parameters.length) = some 1 := by decide +kernel
abbrev mX12_isHole : mh_M := (yX12_isHole, cX12_isHole, 2, some .boolean)
theorem okX12_isHole : mh_mok mX12_isHole := ⟨wd_1308, wd_9, by decide, ⟨by decide, by decide⟩, by decide⟩
theorem pdX12_isHole : (parseMethodDescriptor yX12_isHole.desc).map (fun d => d.parameters.length) = some 1 := by decide +kernel
abbrev mX12_isSpring : mh_M := (yX12_isSpring, cX12_isSpring, 2, some .boolean)
theorem okX12_isSpring : mh_mok mX12_isSpring := ⟨wd_1402, wd_9, by decide, ⟨by decide, by decide⟩, by decide⟩
theorem pdX12_isSpring : (parseMethodDescriptor yX12_isSpring.desc).map (fun d => d.parameters.length) = some 1 := by decide +kernel
abbrev mX12_isEnd : mh_M := (yX12_isEnd, cX12_isEnd, 2, some .boolean)
theorem okX12_isEnd : mh_mok mX12_isEnd := ⟨wd_1300, wd_9, by decide, ⟨by decide, by decide⟩, by decide⟩
theorem pdX12_isEnd : (parseMethodDescriptor yX12_isEnd.desc).map (fun d => d.parameters.length) = some 1 := by decide +kernel
abbrev mX12_joint_ : mh_M := (yX12_joint_, cX12_joint_, 6, some .int)
theorem okX12_joint_ : mh_mok mX12_joint_ := ⟨wd_1268, wd_9, by decide, ⟨by decide, by decide⟩, by decide⟩
theorem pdX12_joint_ : (parseMethodDescriptor yX12_joint_.desc).map (fun d => d.parameters.length) = some 3 := by decide +kernel
abbrev mX12_jointIs : mh_M := (yX12_jointIs, cX12_jointIs, 3, some .int)
theorem okX12_jointIs : mh_mok mX12_jointIs := ⟨wd_1285, wd_9, by decide, ⟨by decide, by decide⟩, by decide⟩
theorem pdX12_jointIs : (parseMethodDescriptor yX12_jointIs.desc).map (fun d => d.parameters.length) = some 2 := by decide +kernel
abbrev mX12_way_ : mh_M := (yX12_way_, cX12_way_, 10, some .int)
theorem okX12_way_ : mh_mok mX12_way_ := ⟨wd_1294, wd_9, by decide, ⟨by decide, by decide⟩, by decide⟩
theorem pdX12_way_ : (parseMethodDescriptor yX12_way_.desc).map (fun d => d.parameters.length) = some 4 := by decide +kernel
abbrev mX12_above : mh_M := (yX12_above, cX12_above, 1, some .int)
theorem okX12_above : mh_mok mX12_above := ⟨wd_1325, wd_9, by decide, ⟨by decide, by decide⟩, by decide⟩
theorem pdX12_above : (parseMethodDescriptor yX12_above.desc).map (fun d => d.parameters.length) = some 1 := by decide +kernel
abbrev mX12_isUnder : mh_M := (yX12_isUnder, cX12_isUnder, 3, some .boolean)
theorem okX12_isUnder : mh_mok mX12_isUnder := ⟨wd_1322, wd_9, by decide, ⟨by decide, by decide⟩, by decide⟩
theorem pdX12_isUnder : (parseMethodDescriptor yX12_isUnder.desc).map (fun d => d.parameters.length) = some 2 := by decide +kernel
abbrev mX12_takes : mh_M := (yX12_takes, cX12_takes, 4, some .int)
theorem okX12_takes : mh_mok mX12_takes := ⟨wd_1329, wd_9, by decide, ⟨by decide, by decide⟩, by decide⟩
theorem pdX12_takes : (parseMethodDescriptor yX12_takes.desc).map (fun d => d.parameters.length) = some 1 := by decide +kernel
abbrev mX12_as : mh_M := (yX12_as, cX12_as, 3, some .int)
theorem okX12_as : mh_mok mX12_as := ⟨wd_1315, wd_9, by decide, ⟨by decide, by decide⟩, by decide⟩
theorem pdX12_as : (parseMethodDescriptor yX12_as.desc).map (fun d => d.parameters.length) = some 2 := by decide +kernel
abbrev mX12_inWay : mh_M := (yX12_inWay, cX12_inWay, 5, some .int)
theorem okX12_inWay : mh_mok mX12_inWay := ⟨wd_1337, wd_9, by decide, ⟨by decide, by decide⟩, by decide⟩
theorem pdX12_inWay : (parseMethodDescriptor yX12_inWay.desc).map (fun d => d.parameters.length) = some 2 := by decide +kernel
abbrev mX12_wayIs : mh_M := (yX12_wayIs, cX12_wayIs, 3, some .int)
theorem okX12_wayIs : mh_mok mX12_wayIs := ⟨wd_1333, wd_9, by decide, ⟨by decide, by decide⟩, by decide⟩
theorem pdX12_wayIs : (parseMethodDescriptor yX12_wayIs.desc).map (fun d => d.parameters.length) = some 2 := by decide +kernel
abbrev mX12_findFar : mh_M := (yX12_findFar, cX12_findFar, 9, none)
theorem okX12_findFar : mh_mok mX12_findFar := ⟨wd_1345, wd_9, by decide, ⟨by decide, by decide⟩, by decide⟩
theorem pdX12_findFar : (parseMethodDescriptor yX12_findFar.desc).map (fun d => d.parameters.length) = some 2 := by decide +kernel
abbrev mX12_hangs : mh_M := (yX12_hangs, cX12_hangs, 5, some .int)
theorem okX12_hangs : mh_mok mX12_hangs := ⟨wd_1341, wd_9, by decide, ⟨by decide, by decide⟩, by decide⟩
theorem pdX12_hangs : (parseMethodDescriptor yX12_hangs.desc).map (fun d => d.parameters.length) = some 2 := by decide +kernel
abbrev mX12_quick : mh_M := (yX12_quick, cX12_quick, 3, some .int)
theorem okX12_quick : mh_mok mX12_quick := ⟨wd_1349, wd_9, by decide, ⟨by decide, by decide⟩, by decide⟩
theorem pdX12_quick : (parseMethodDescriptor yX12_quick.desc).map (fun d => d.parameters.length) = some 2 := by decide +kernel
abbrev mX12_stuffAt : mh_M := (yX12_stuffAt, cX12_stuffAt, 2, some .int)
theorem okX12_stuffAt : mh_mok mX12_stuffAt := ⟨wd_1376, wd_9, by decide, ⟨by decide, by decide⟩, by decide⟩
theorem pdX12_stuffAt : (parseMethodDescriptor yX12_stuffAt.desc).map (fun d => d.parameters.length) = some 2 := by decide +kernel
abbrev mX12_comesOut : mh_M := (yX12_comesOut, cX12_comesOut, 11, none)
theorem okX12_comesOut : mh_mok mX12_comesOut := ⟨wd_1373, wd_9, by decide, ⟨by decide, by decide⟩, by decide⟩
theorem pdX12_comesOut : (parseMethodDescriptor yX12_comesOut.desc).map (fun d => d.parameters.length) = some 1 := by decide +kernel
abbrev mX12_rises : mh_M := (yX12_rises, cX12_rises, 6, none)
theorem okX12_rises : mh_mok mX12_rises := ⟨wd_1398, wd_9, by decide, ⟨by decide, by decide⟩, by decide⟩
theorem pdX12_rises : (parseMethodDescriptor yX12_rises.desc).map (fun d => d.parameters.length) = some 1 := by decide +kernel
abbrev mX12_isFrom : mh_M := (yX12_isFrom, cX12_isFrom, 3, some .boolean)
theorem okX12_isFrom : mh_mok mX12_isFrom := ⟨wd_1414, wd_9, by decide, ⟨by decide, by decide⟩, by decide⟩
theorem pdX12_isFrom : (parseMethodDescriptor yX12_isFrom.desc).map (fun d => d.parameters.length) = some 2 := by decide +kernel
abbrev mX12_isOverflow : mh_M := (yX12_isOverflow, cX12_isOverflow, 2, some .boolean)
theorem okX12_isOverflow : mh_mok mX12_isOverflow := ⟨wd_1418, wd_9, by decide, ⟨by decide, by decide⟩, by decide⟩
theorem pdX12_isOverflow : (parseMethodDescriptor yX12_isOverflow.desc).map (fun d => d.parameters.length) = some 1 := by decide +kernel
abbrev mX12_parts : mh_M := (yX12_parts, cX12_parts, 6, some .int)
theorem okX12_parts : mh_mok mX12_parts := ⟨wd_1410, wd_9, by decide, ⟨by decide, by decide⟩, by decide⟩
theorem pdX12_parts : (parseMethodDescriptor yX12_parts.desc).map (fun d => d.parameters.length) = some 1 := by decide +kernel
abbrev mX12_goesIn : mh_M := (yX12_goesIn, cX12_goesIn, 8, none)
theorem okX12_goesIn : mh_mok mX12_goesIn := ⟨wd_1422, wd_9, by decide, ⟨by decide, by decide⟩, by decide⟩
theorem pdX12_goesIn : (parseMethodDescriptor yX12_goesIn.desc).map (fun d => d.parameters.length) = some 3 := by decide +kernel
abbrev mX12_flows : mh_M := (yX12_flows, cX12_flows, 11, none)
theorem okX12_flows : mh_mok mX12_flows := ⟨wd_1406, wd_9, by decide, ⟨by decide, by decide⟩, by decide⟩
theorem pdX12_flows : (parseMethodDescriptor yX12_flows.desc).map (fun d => d.parameters.length) = some 1 := by decide +kernel
abbrev mX12_two : mh_M := (yX12_two, cX12_two, 3, some .int)
theorem okX12_two : mh_mok mX12_two := ⟨wd_1391, wd_9, by decide, ⟨by decide, by decide⟩, by decide⟩
theorem pdX12_two : (parseMethodDescriptor yX12_two.desc).map (fun d => d.parameters.length) = some 3 := by decide +kernel
abbrev mX12_goes : mh_M := (yX12_goes, cX12_goes, 7, some .int)
theorem okX12_goes : mh_mok mX12_goes := ⟨wd_1388, wd_9, by decide, ⟨by decide, by decide⟩, by decide⟩
theorem pdX12_goes : (parseMethodDescriptor yX12_goes.desc).map (fun d => d.parameters.length) = some 3 := by decide +kernel
abbrev mX12_says : mh_M := (yX12_says, cX12_says, 10, some .int)
theorem okX12_says : mh_mok mX12_says := ⟨wd_1384, wd_9, by decide, ⟨by decide, by decide⟩, by decide⟩
theorem pdX12_says : (parseMethodDescriptor yX12_says.desc).map (fun d => d.parameters.length) = some 1 := by decide +kernel
abbrev mX12_within : mh_M := (yX12_within, cX12_within, 3, some .int)
theorem okX12_within : mh_mok mX12_within := ⟨wd_1394, wd_9, by decide, ⟨by decide, by decide⟩, by decide⟩
theorem pdX12_within : (parseMethodDescriptor yX12_within.desc).map (fun d => d.parameters.length) = some 3 := by decide +kernel
abbrev mX12_rainOf : mh_M := (yX12_rainOf, cX12_rainOf, 2, some .int)
theorem okX12_rainOf : mh_mok mX12_rainOf := ⟨wd_1380, wd_9, by decide, ⟨by decide, by decide⟩, by decide⟩
theorem pdX12_rainOf : (parseMethodDescriptor yX12_rainOf.desc).map (fun d => d.parameters.length) = some 1 := by decide +kernel
abbrev mX12_hour : mh_M := (yX12_hour, cX12_hour, 2, none)
theorem okX12_hour : mh_mok mX12_hour := ⟨wd_1369, wd_9, by decide, ⟨by decide, by decide⟩, by decide⟩
theorem pdX12_hour : (parseMethodDescriptor yX12_hour.desc).map (fun d => d.parameters.length) = some 0 := by decide +kernel
abbrev mX12_flood : mh_M := (yX12_flood, cX12_flood, 3, some .int)
theorem okX12_flood : mh_mok mX12_flood := ⟨wd_1353, wd_9, by decide, ⟨by decide, by decide⟩, by decide⟩
theorem pdX12_flood : (parseMethodDescriptor yX12_flood.desc).map (fun d => d.parameters.length) = some 1 := by decide +kernel
abbrev mX12_fade : mh_M := (yX12_fade, cX12_fade, 4, some .int)
theorem okX12_fade : mh_mok mX12_fade := ⟨wd_1357, wd_9, by decide, ⟨by decide, by decide⟩, by decide⟩
theorem pdX12_fade : (parseMethodDescriptor yX12_fade.desc).map (fun d => d.parameters.length) = some 2 := by decide +kernel
abbrev mX12_hours : mh_M := (yX12_hours, cX12_hours, 3, some .int)
theorem okX12_hours : mh_mok mX12_hours := ⟨wd_1364, wd_9, by decide, ⟨by decide, by decide⟩, by decide⟩
theorem pdX12_hours : (parseMethodDescriptor yX12_hours.desc).map (fun d => d.parameters.length) = some 1 := by decide +kernel
abbrev mX12_puts : mh_M := (yX12_puts, cX12_puts, 5, some .int)
theorem okX12_puts : mh_mok mX12_puts := ⟨wd_1431, wd_9, by decide, ⟨by decide, by decide⟩, by decide⟩
theorem pdX12_puts : (parseMethodDescriptor yX12_puts.desc).map (fun d => d.parameters.length) = some 3 := by decide +kernel
abbrev mX12_put : mh_M := (yX12_put, cX12_put, 4, some .int)
theorem okX12_put : mh_mok mX12_put := ⟨wd_1426, wd_9, by decide, ⟨by decide, by decide⟩, by decide⟩
theorem pdX12_put : (parseMethodDescriptor yX12_put.desc).map (fun d => d.parameters.length) = some 3 := by decide +kernel
abbrev mX12_putIs : mh_M := (yX12_putIs, cX12_putIs, 3, some .int)
theorem okX12_putIs : mh_mok mX12_putIs := ⟨wd_1435, wd_9, by decide, ⟨by decide, by decide⟩, by decide⟩
theorem pdX12_putIs : (parseMethodDescriptor yX12_putIs.desc).map (fun d => d.parameters.length) = some 2 := by decide +kernel
abbrev mX12_isSheet : mh_M := (yX12_isSheet, cX12_isSheet, 1, some .boolean)
theorem okX12_isSheet : mh_mok mX12_isSheet := ⟨wd_1442, wd_9, by decide, ⟨by decide, by decide⟩, by decide⟩
theorem pdX12_isSheet : (parseMethodDescriptor yX12_isSheet.desc).map (fun d => d.parameters.length) = some 1 := by decide +kernel
abbrev mX12_pours : mh_M := (yX12_pours, cX12_pours, 9, some .int)
theorem okX12_pours : mh_mok mX12_pours := ⟨wd_1439, wd_9, by decide, ⟨by decide, by decide⟩, by decide⟩
theorem pdX12_pours : (parseMethodDescriptor yX12_pours.desc).map (fun d => d.parameters.length) = some 5 := by decide +kernel
abbrev mX12_grains : mh_M := (yX12_grains, cX12_grains, 3, some .int)
theorem okX12_grains : mh_mok mX12_grains := ⟨wd_1447, wd_9, by decide, ⟨by decide, by decide⟩, by decide⟩
theorem pdX12_grains : (parseMethodDescriptor yX12_grains.desc).map (fun d => d.parameters.length) = some 2 := by decide +kernel
abbrev mX12_about : mh_M := (yX12_about, cX12_about, 4, some .int)
theorem okX12_about : mh_mok mX12_about := ⟨wd_1455, wd_9, by decide, ⟨by decide, by decide⟩, by decide⟩
theorem pdX12_about : (parseMethodDescriptor yX12_about.desc).map (fun d => d.parameters.length) = some 1 := by decide +kernel
abbrev mX12_stuff : mh_M := (yX12_stuff, cX12_stuff, 3, some .int)
theorem okX12_stuff : mh_mok mX12_stuff := ⟨wd_1451, wd_9, by decide, ⟨by decide, by decide⟩, by decide⟩
theorem pdX12_stuff : (parseMethodDescriptor yX12_stuff.desc).map (fun d => d.parameters.length) = some 2 := by decide +kernel
abbrev mX12_outAgo : mh_M := (yX12_outAgo, cX12_outAgo, 5, some .int)
theorem okX12_outAgo : mh_mok mX12_outAgo := ⟨wd_1464, wd_9, by decide, ⟨by decide, by decide⟩, by decide⟩
theorem pdX12_outAgo : (parseMethodDescriptor yX12_outAgo.desc).map (fun d => d.parameters.length) = some 3 := by decide +kernel
abbrev mX12_out : mh_M := (yX12_out, cX12_out, 4, some .int)
theorem okX12_out : mh_mok mX12_out := ⟨wd_1459, wd_9, by decide, ⟨by decide, by decide⟩, by decide⟩
theorem pdX12_out : (parseMethodDescriptor yX12_out.desc).map (fun d => d.parameters.length) = some 3 := by decide +kernel
abbrev mX12_laysAside : mh_M := (yX12_laysAside, cX12_laysAside, 2, none)
theorem okX12_laysAside : mh_mok mX12_laysAside := ⟨wd_1476, wd_9, by decide, ⟨by decide, by decide⟩, by decide⟩
theorem pdX12_laysAside : (parseMethodDescriptor yX12_laysAside.desc).map (fun d => d.parameters.length) = some 0 := by decide +kernel
abbrev mX12_laysBack : mh_M := (yX12_laysBack, cX12_laysBack, 2, none)
theorem okX12_laysBack : mh_mok mX12_laysBack := ⟨wd_1484, wd_9, by decide, ⟨by decide, by decide⟩, by decide⟩
theorem pdX12_laysBack : (parseMethodDescriptor yX12_laysBack.desc).map (fun d => d.parameters.length) = some 0 := by decide +kernel
abbrev mX12_spills : mh_M := (yX12_spills, cX12_spills, 6, none)
theorem okX12_spills : mh_mok mX12_spills := ⟨wd_1480, wd_9, by decide, ⟨by decide, by decide⟩, by decide⟩
theorem pdX12_spills : (parseMethodDescriptor yX12_spills.desc).map (fun d => d.parameters.length) = some 2 := by decide +kernel
abbrev mX12_isWrongSpill : mh_M := (yX12_isWrongSpill, cX12_isWrongSpill, 4, some .int)
theorem okX12_isWrongSpill : mh_mok mX12_isWrongSpill := ⟨wd_1472, wd_9, by decide, ⟨by decide, by decide⟩, by decide⟩
theorem pdX12_isWrongSpill : (parseMethodDescriptor yX12_isWrongSpill.desc).map (fun d => d.parameters.length) = some 3 := by decide +kernel
abbrev mX12_spill : mh_M := (yX12_spill, cX12_spill, 8, some .int)
theorem okX12_spill : mh_mok mX12_spill := ⟨wd_1468, wd_9, by decide, ⟨by decide, by decide⟩, by decide⟩
theorem pdX12_spill : (parseMethodDescriptor yX12_spill.desc).map (fun d => d.parameters.length) = some 4 := by decide +kernel
abbrev mX12_first : mh_M := (yX12_first, cX12_first, 7, some .int)
theorem okX12_first : mh_mok mX12_first := ⟨wd_1488, wd_9, by decide, ⟨by decide, by decide⟩, by decide⟩
theorem pdX12_first : (parseMethodDescriptor yX12_first.desc).map (fun d => d.parameters.length) = some 3 := by decide +kernel
abbrev mX12_feed : mh_M := (yX12_feed, cX12_feed, 5, some .int)
theorem okX12_feed : mh_mok mX12_feed := ⟨wd_1492, wd_9, by decide, ⟨by decide, by decide⟩, by decide⟩
theorem pdX12_feed : (parseMethodDescriptor yX12_feed.desc).map (fun d => d.parameters.length) = some 2 := by decide +kernel
abbrev mX12_here : mh_M := (yX12_here, cX12_here, 1, some .int)
theorem okX12_here : mh_mok mX12_here := ⟨wd_1518, wd_9, by decide, ⟨by decide, by decide⟩, by decide⟩
theorem pdX12_here : (parseMethodDescriptor yX12_here.desc).map (fun d => d.parameters.length) = some 0 := by decide +kernel
abbrev mX12_takes_ : mh_M := (yX12_takes_, cX12_takes_, 2, some .boolean)
theorem okX12_takes_ : mh_mok mX12_takes_ := ⟨wd_1531, wd_9, by decide, ⟨by decide, by decide⟩, by decide⟩
theorem pdX12_takes_ : (parseMethodDescriptor yX12_takes_.desc).map (fun d => d.parameters.length) = some 1 := by decide +kernel
abbrev mX12_puts_ : mh_M := (yX12_puts_, cX12_puts_, 2, none)
theorem okX12_puts_ : mh_mok mX12_puts_ := ⟨wd_1524, wd_9, by decide, ⟨by decide, by decide⟩, by decide⟩
theorem pdX12_puts_ : (parseMethodDescriptor yX12_puts_.desc).map (fun d => d.parameters.length) = some 1 := by decide +kernel
abbrev mX12_nameOf : mh_M := (yX12_nameOf, cX12_nameOf, 2, some .int)
theorem okX12_nameOf : mh_mok mX12_nameOf := ⟨wd_1527, wd_9, by decide, ⟨by decide, by decide⟩, by decide⟩
theorem pdX12_nameOf : (parseMethodDescriptor yX12_nameOf.desc).map (fun d => d.parameters.length) = some 2 := by decide +kernel
abbrev mX12_one : mh_M := (yX12_one, cX12_one, 4, none)
theorem okX12_one : mh_mok mX12_one := ⟨wd_1514, wd_9, by decide, ⟨by decide, by decide⟩, by decide⟩
theorem pdX12_one : (parseMethodDescriptor yX12_one.desc).map (fun d => d.parameters.length) = some 0 := by decide +kernel
abbrev mX12_term : mh_M := (yX12_term, cX12_term, 2, none)
theorem okX12_term : mh_mok mX12_term := ⟨wd_1510, wd_9, by decide, ⟨by decide, by decide⟩, by decide⟩
theorem pdX12_term : (parseMethodDescriptor yX12_term.desc).map (fun d => d.parameters.length) = some 0 := by decide +kernel
abbrev mX12_sum : mh_M := (yX12_sum, cX12_sum, 2, none)
theorem okX12_sum : mh_mok mX12_sum := ⟨wd_1506, wd_9, by decide, ⟨by decide, by decide⟩, by decide⟩
theorem pdX12_sum : (parseMethodDescriptor yX12_sum.desc).map (fun d => d.parameters.length) = some 0 := by decide +kernel
abbrev mX12_test : mh_M := (yX12_test, cX12_test, 2, none)
theorem okX12_test : mh_mok mX12_test := ⟨wd_1535, wd_9, by decide, ⟨by decide, by decide⟩, by decide⟩
theorem pdX12_test : (parseMethodDescriptor yX12_test.desc).map (fun d => d.parameters.length) = some 0 := by decide +kernel
abbrev mX12_reads : mh_M := (yX12_reads, cX12_reads, 2, none)
theorem okX12_reads : mh_mok mX12_reads := ⟨wd_1502, wd_9, by decide, ⟨by decide, by decide⟩, by decide⟩
theorem pdX12_reads : (parseMethodDescriptor yX12_reads.desc).map (fun d => d.parameters.length) = some 0 := by decide +kernel
abbrev mX12_text : mh_M := (yX12_text, cX12_text, 5, some .int)
theorem okX12_text : mh_mok mX12_text := ⟨wd_1498, wd_9, by decide, ⟨by decide, by decide⟩, by decide⟩
theorem pdX12_text : (parseMethodDescriptor yX12_text.desc).map (fun d => d.parameters.length) = some 1 := by decide +kernel
abbrev mX12_rain : mh_M := (yX12_rain, cX12_rain, 2, some .int)
theorem okX12_rain : mh_mok mX12_rain := ⟨wd_1539, wd_9, by decide, ⟨by decide, by decide⟩, by decide⟩
theorem pdX12_rain : (parseMethodDescriptor yX12_rain.desc).map (fun d => d.parameters.length) = some 1 := by decide +kernel
abbrev mX12_seenOf : mh_M := (yX12_seenOf, cX12_seenOf, 4, some .int)
theorem okX12_seenOf : mh_mok mX12_seenOf := ⟨wd_1547, wd_9, by decide, ⟨by decide, by decide⟩, by decide⟩
theorem pdX12_seenOf : (parseMethodDescriptor yX12_seenOf.desc).map (fun d => d.parameters.length) = some 3 := by decide +kernel
abbrev mX12_seen : mh_M := (yX12_seen, cX12_seen, 4, some .int)
theorem okX12_seen : mh_mok mX12_seen := ⟨wd_1543, wd_9, by decide, ⟨by decide, by decide⟩, by decide⟩
theorem pdX12_seen : (parseMethodDescriptor yX12_seen.desc).map (fun d => d.parameters.length) = some 3 := by decide +kernel
abbrev mX12_looks : mh_M := (yX12_looks, cX12_looks, 7, some .boolean)
theorem okX12_looks : mh_mok mX12_looks := ⟨wd_1555, wd_9, by decide, ⟨by decide, by decide⟩, by decide⟩
theorem pdX12_looks : (parseMethodDescriptor yX12_looks.desc).map (fun d => d.parameters.length) = some 4 := by decide +kernel
abbrev mX12_bottle : mh_M := (yX12_bottle, cX12_bottle, 4, some .int)
theorem okX12_bottle : mh_mok mX12_bottle := ⟨wd_1551, wd_9, by decide, ⟨by decide, by decide⟩, by decide⟩
theorem pdX12_bottle : (parseMethodDescriptor yX12_bottle.desc).map (fun d => d.parameters.length) = some 2 := by decide +kernel
abbrev mX12_bag : mh_M := (yX12_bag, cX12_bag, 6, some .int)
theorem okX12_bag : mh_mok mX12_bag := ⟨wd_1559, wd_9, by decide, ⟨by decide, by decide⟩, by decide⟩
theorem pdX12_bag : (parseMethodDescriptor yX12_bag.desc).map (fun d => d.parameters.length) = some 3 := by decide +kernel
abbrev mX12_look : mh_M := (yX12_look, cX12_look, 3, some .int)
theorem okX12_look : mh_mok mX12_look := ⟨wd_1567, wd_9, by decide, ⟨by decide, by decide⟩, by decide⟩
theorem pdX12_look : (parseMethodDescriptor yX12_look.desc).map (fun d => d.parameters.length) = some 2 := by decide +kernel
abbrev mX12_lookIs : mh_M := (yX12_lookIs, cX12_lookIs, 3, some .int)
theorem okX12_lookIs : mh_mok mX12_lookIs := ⟨wd_1563, wd_9, by decide, ⟨by decide, by decide⟩, by decide⟩
theorem pdX12_lookIs : (parseMethodDescriptor yX12_lookIs.desc).map (fun d => d.parameters.length) = some 2 := by decide +kernel
abbrev mX12_wasPut : mh_M := (yX12_wasPut, cX12_wasPut, 7, some .boolean)
theorem okX12_wasPut : mh_mok mX12_wasPut := ⟨wd_1584, wd_9, by decide, ⟨by decide, by decide⟩, by decide⟩
theorem pdX12_wasPut : (parseMethodDescriptor yX12_wasPut.desc).map (fun d => d.parameters.length) = some 3 := by decide +kernel
abbrev mX12_said : mh_M := (yX12_said, cX12_said, 8, some .int)
theorem okX12_said : mh_mok mX12_said := ⟨wd_1580, wd_9, by decide, ⟨by decide, by decide⟩, by decide⟩
theorem pdX12_said : (parseMethodDescriptor yX12_said.desc).map (fun d => d.parameters.length) = some 3 := by decide +kernel
abbrev mX12_isWrongPair : mh_M := (yX12_isWrongPair, cX12_isWrongPair, 3, some .int)
theorem okX12_isWrongPair : mh_mok mX12_isWrongPair := ⟨wd_1576, wd_9, by decide, ⟨by decide, by decide⟩, by decide⟩
theorem pdX12_isWrongPair : (parseMethodDescriptor yX12_isWrongPair.desc).map (fun d => d.parameters.length) = some 2 := by decide +kernel
abbrev mX12_joined : mh_M := (yX12_joined, cX12_joined, 5, some .int)
theorem okX12_joined : mh_mok mX12_joined := ⟨wd_1571, wd_9, by decide, ⟨by decide, by decide⟩, by decide⟩
theorem pdX12_joined : (parseMethodDescriptor yX12_joined.desc).map (fun d => d.parameters.length) = some 3 := by decide +kernel
abbrev mX12_never : mh_M := (yX12_never, cX12_never, 6, some .int)
theorem okX12_never : mh_mok mX12_never := ⟨wd_1588, wd_9, by decide, ⟨by decide, by decide⟩, by decide⟩
theorem pdX12_never : (parseMethodDescriptor yX12_never.desc).map (fun d => d.parameters.length) = some 2 := by decide +kernel
abbrev mX12_span : mh_M := (yX12_span, cX12_span, 11, some .int)
theorem okX12_span : mh_mok mX12_span := ⟨wd_1592, wd_9, by decide, ⟨by decide, by decide⟩, by decide⟩
theorem pdX12_span : (parseMethodDescriptor yX12_span.desc).map (fun d => d.parameters.length) = some 4 := by decide +kernel
abbrev mX12_musts : mh_M := (yX12_musts, cX12_musts, 6, some .int)
theorem okX12_musts : mh_mok mX12_musts := ⟨wd_1596, wd_9, by decide, ⟨by decide, by decide⟩, by decide⟩
theorem pdX12_musts : (parseMethodDescriptor yX12_musts.desc).map (fun d => d.parameters.length) = some 2 := by decide +kernel
abbrev mX12_side : mh_M := (yX12_side, cX12_side, 7, some .int)
theorem okX12_side : mh_mok mX12_side := ⟨wd_1604, wd_9, by decide, ⟨by decide, by decide⟩, by decide⟩
theorem pdX12_side : (parseMethodDescriptor yX12_side.desc).map (fun d => d.parameters.length) = some 3 := by decide +kernel
abbrev mX12_crosses : mh_M := (yX12_crosses, cX12_crosses, 6, some .int)
theorem okX12_crosses : mh_mok mX12_crosses := ⟨wd_1600, wd_9, by decide, ⟨by decide, by decide⟩, by decide⟩
theorem pdX12_crosses : (parseMethodDescriptor yX12_crosses.desc).map (fun d => d.parameters.length) = some 4 := by decide +kernel
abbrev mX12_ones : mh_M := (yX12_ones, cX12_ones, 3, some .int)
theorem okX12_ones : mh_mok mX12_ones := ⟨wd_1615, wd_9, by decide, ⟨by decide, by decide⟩, by decide⟩
theorem pdX12_ones : (parseMethodDescriptor yX12_ones.desc).map (fun d => d.parameters.length) = some 1 := by decide +kernel
abbrev mX12_isWrongSet : mh_M := (yX12_isWrongSet, cX12_isWrongSet, 5, some .int)
theorem okX12_isWrongSet : mh_mok mX12_isWrongSet := ⟨wd_1612, wd_9, by decide, ⟨by decide, by decide⟩, by decide⟩
theorem pdX12_isWrongSet : (parseMethodDescriptor yX12_isWrongSet.desc).map (fun d => d.parameters.length) = some 2 := by decide +kernel
abbrev mX12_lists : mh_M := (yX12_lists, cX12_lists, 5, some .int)
theorem okX12_lists : mh_mok mX12_lists := ⟨wd_1619, wd_9, by decide, ⟨by decide, by decide⟩, by decide⟩
theorem pdX12_lists : (parseMethodDescriptor yX12_lists.desc).map (fun d => d.parameters.length) = some 2 := by decide +kernel
abbrev mX12_canHold : mh_M := (yX12_canHold, cX12_canHold, 7, some .boolean)
theorem okX12_canHold : mh_mok mX12_canHold := ⟨wd_1623, wd_9, by decide, ⟨by decide, by decide⟩, by decide⟩
theorem pdX12_canHold : (parseMethodDescriptor yX12_canHold.desc).map (fun d => d.parameters.length) = some 3 := by decide +kernel
abbrev mX12_rooms : mh_M := (yX12_rooms, cX12_rooms, 12, some .int)
theorem okX12_rooms : mh_mok mX12_rooms := ⟨wd_1608, wd_9, by decide, ⟨by decide, by decide⟩, by decide⟩
theorem pdX12_rooms : (parseMethodDescriptor yX12_rooms.desc).map (fun d => d.parameters.length) = some 2 := by decide +kernel
abbrev mX12_town : mh_M := (yX12_town, cX12_town, 4, some .int)
theorem okX12_town : mh_mok mX12_town := ⟨wd_1627, wd_9, by decide, ⟨by decide, by decide⟩, by decide⟩
theorem pdX12_town : (parseMethodDescriptor yX12_town.desc).map (fun d => d.parameters.length) = some 2 := by decide +kernel
abbrev mX12_mayBe : mh_M := (yX12_mayBe, cX12_mayBe, 4, some .boolean)
theorem okX12_mayBe : mh_mok mX12_mayBe := ⟨wd_1636, wd_9, by decide, ⟨by decide, by decide⟩, by decide⟩
theorem pdX12_mayBe : (parseMethodDescriptor yX12_mayBe.desc).map (fun d => d.parameters.length) = some 1 := by decide +kernel
abbrev mX12_night : mh_M := (yX12_night, cX12_night, 13, some .int)
theorem okX12_night : mh_mok mX12_night := ⟨wd_1631, wd_9, by decide, ⟨by decide, by decide⟩, by decide⟩
theorem pdX12_night : (parseMethodDescriptor yX12_night.desc).map (fun d => d.parameters.length) = some 3 := by decide +kernel
abbrev mX12_share : mh_M := (yX12_share, cX12_share, 7, some .int)
theorem okX12_share : mh_mok mX12_share := ⟨wd_1640, wd_9, by decide, ⟨by decide, by decide⟩, by decide⟩
theorem pdX12_share : (parseMethodDescriptor yX12_share.desc).map (fun d => d.parameters.length) = some 1 := by decide +kernel
abbrev mX12_begins : mh_M := (yX12_begins, cX12_begins, 2, none)
theorem okX12_begins : mh_mok mX12_begins := ⟨wd_1652, wd_9, by decide, ⟨by decide, by decide⟩, by decide⟩
theorem pdX12_begins : (parseMethodDescriptor yX12_begins.desc).map (fun d => d.parameters.length) = some 1 := by decide +kernel
abbrev mX12_plainRuns : mh_M := (yX12_plainRuns, cX12_plainRuns, 2, some .int)
theorem okX12_plainRuns : mh_mok mX12_plainRuns := ⟨wd_1660, wd_9, by decide, ⟨by decide, by decide⟩, by decide⟩
theorem pdX12_plainRuns : (parseMethodDescriptor yX12_plainRuns.desc).map (fun d => d.parameters.length) = some 1 := by decide +kernel
abbrev mX12_openRuns : mh_M := (yX12_openRuns, cX12_openRuns, 2, some .int)
theorem okX12_openRuns : mh_mok mX12_openRuns := ⟨wd_1656, wd_9, by decide, ⟨by decide, by decide⟩, by decide⟩
theorem pdX12_openRuns : (parseMethodDescriptor yX12_openRuns.desc).map (fun d => d.parameters.length) = some 1 := by decide +kernel
abbrev mX12_runs : mh_M := (yX12_runs, cX12_runs, 2, some .int)
theorem okX12_runs : mh_mok mX12_runs := ⟨wd_1648, wd_9, by decide, ⟨by decide, by decide⟩, by decide⟩
theorem pdX12_runs : (parseMethodDescriptor yX12_runs.desc).map (fun d => d.parameters.length) = some 1 := by decide +kernel
abbrev mX12_plainHolds : mh_M := (yX12_plainHolds, cX12_plainHolds, 2, some .int)
theorem okX12_plainHolds : mh_mok mX12_plainHolds := ⟨wd_1668, wd_9, by decide, ⟨by decide, by decide⟩, by decide⟩
theorem pdX12_plainHolds : (parseMethodDescriptor yX12_plainHolds.desc).map (fun d => d.parameters.length) = some 1 := by decide +kernel
abbrev mX12_holds : mh_M := (yX12_holds, cX12_holds, 2, some .int)
theorem okX12_holds : mh_mok mX12_holds := ⟨wd_1664, wd_9, by decide, ⟨by decide, by decide⟩, by decide⟩
theorem pdX12_holds : (parseMethodDescriptor yX12_holds.desc).map (fun d => d.parameters.length) = some 1 := by decide +kernel
abbrev mX12_plainSpills : mh_M := (yX12_plainSpills, cX12_plainSpills, 2, some .int)
theorem okX12_plainSpills : mh_mok mX12_plainSpills := ⟨wd_1676, wd_9, by decide, ⟨by decide, by decide⟩, by decide⟩
theorem pdX12_plainSpills : (parseMethodDescriptor yX12_plainSpills.desc).map (fun d => d.parameters.length) = some 1 := by decide +kernel
abbrev mX12_spills_ : mh_M := (yX12_spills_, cX12_spills_, 2, some .int)
theorem okX12_spills_ : mh_mok mX12_spills_ := ⟨wd_1672, wd_9, by decide, ⟨by decide, by decide⟩, by decide⟩
theorem pdX12_spills_ : (parseMethodDescriptor yX12_spills_.desc).map (fun d => d.parameters.length) = some 1 := by decide +kernel
abbrev mX12_plainTells : mh_M := (yX12_plainTells, cX12_plainTells, 3, some .int)
theorem okX12_plainTells : mh_mok mX12_plainTells := ⟨wd_1684, wd_9, by decide, ⟨by decide, by decide⟩, by decide⟩
theorem pdX12_plainTells : (parseMethodDescriptor yX12_plainTells.desc).map (fun d => d.parameters.length) = some 1 := by decide +kernel
abbrev mX12_tells : mh_M := (yX12_tells, cX12_tells, 3, some .int)
theorem okX12_tells : mh_mok mX12_tells := ⟨wd_1680, wd_9, by decide, ⟨by decide, by decide⟩, by decide⟩
theorem pdX12_tells : (parseMethodDescriptor yX12_tells.desc).map (fun d => d.parameters.length) = some 1 := by decide +kernel
abbrev mX12_voice : mh_M := (yX12_voice, cX12_voice, 5, some .int)
theorem okX12_voice : mh_mok mX12_voice := ⟨wd_1644, wd_9, by decide, ⟨by decide, by decide⟩, by decide⟩
theorem pdX12_voice : (parseMethodDescriptor yX12_voice.desc).map (fun d => d.parameters.length) = some 3 := by decide +kernel
abbrev mX12_trace : mh_M := (yX12_trace, cX12_trace, 2, some .int)
theorem okX12_trace : mh_mok mX12_trace := ⟨wd_1688, wd_9, by decide, ⟨by decide, by decide⟩, by decide⟩
theorem pdX12_trace : (parseMethodDescriptor yX12_trace.desc).map (fun d => d.parameters.length) = some 1 := by decide +kernel
abbrev mX12_sheet : mh_M := (yX12_sheet, cX12_sheet, 5, some .int)
theorem okX12_sheet : mh_mok mX12_sheet := ⟨wd_1692, wd_9, by decide, ⟨by decide, by decide⟩, by decide⟩
theorem pdX12_sheet : (parseMethodDescriptor yX12_sheet.desc).map (fun d => d.parameters.length) = some 3 := by decide +kernel
abbrev mX12_place : mh_M := (yX12_place, cX12_place, 4, some .int)
theorem okX12_place : mh_mok mX12_place := ⟨wd_1696, wd_9, by decide, ⟨by decide, by decide⟩, by decide⟩
theorem pdX12_place : (parseMethodDescriptor yX12_place.desc).map (fun d => d.parameters.length) = some 3 := by decide +kernel
abbrev mX12_move : mh_M := (yX12_move, cX12_move, 9, some .int)
theorem okX12_move : mh_mok mX12_move := ⟨wd_1700, wd_9, by decide, ⟨by decide, by decide⟩, by decide⟩
theorem pdX12_move : (parseMethodDescriptor yX12_move.desc).map (fun d => d.parameters.length) = some 5 := by decide +kernel
abbrev mX12_image : mh_M := (yX12_image, cX12_image, 2, some .int)
theorem okX12_image : mh_mok mX12_image := ⟨wd_1704, wd_9, by decide, ⟨by decide, by decide⟩, by decide⟩
theorem pdX12_image : (parseMethodDescriptor yX12_image.desc).map (fun d => d.parameters.length) = some 0 := by decide +kernel
abbrev mX12_restore : mh_M := (yX12_restore, cX12_restore, 2, some .int)
theorem okX12_restore : mh_mok mX12_restore := ⟨wd_1708, wd_9, by decide, ⟨by decide, by decide⟩, by decide⟩
theorem pdX12_restore : (parseMethodDescriptor yX12_restore.desc).map (fun d => d.parameters.length) = some 0 := by decide +kernel
abbrev mX12_tell : mh_M := (yX12_tell, cX12_tell, 2, some .int)
theorem okX12_tell : mh_mok mX12_tell := ⟨wd_1712, wd_9, by decide, ⟨by decide, by decide⟩, by decide⟩
theorem pdX12_tell : (parseMethodDescriptor yX12_tell.desc).map (fun d => d.parameters.length) = some 1 := by decide +kernel
abbrev mX12_check : mh_M := (yX12_check, cX12_check, 5, some .int)
theorem okX12_check : mh_mok mX12_check := ⟨wd_1716, wd_9, by decide, ⟨by decide, by decide⟩, by decide⟩
theorem pdX12_check : (parseMethodDescriptor yX12_check.desc).map (fun d => d.parameters.length) = some 1 := by decide +kernel
abbrev mX12_water : mh_M := (yX12_water, cX12_water, 3, some .int)
theorem okX12_water : mh_mok mX12_water := ⟨wd_1728, wd_9, by decide, ⟨by decide, by decide⟩, by decide⟩
theorem pdX12_water : (parseMethodDescriptor yX12_water.desc).map (fun d => d.parameters.length) = some 0 := by decide +kernel
abbrev mX12_sawMany : mh_M := (yX12_sawMany, cX12_sawMany, 3, some .int)
theorem okX12_sawMany : mh_mok mX12_sawMany := ⟨wd_1724, wd_9, by decide, ⟨by decide, by decide⟩, by decide⟩
theorem pdX12_sawMany : (parseMethodDescriptor yX12_sawMany.desc).map (fun d => d.parameters.length) = some 0 := by decide +kernel
abbrev mX12_count : mh_M := (yX12_count, cX12_count, 2, some .int)
theorem okX12_count : mh_mok mX12_count := ⟨wd_1720, wd_9, by decide, ⟨by decide, by decide⟩, by decide⟩
theorem pdX12_count : (parseMethodDescriptor yX12_count.desc).map (fun d => d.parameters.length) = some 1 := by decide +kernel
abbrev mX12_told : mh_M := (yX12_told, cX12_told, 2, some .int)
theorem okX12_told : mh_mok mX12_told := ⟨wd_1732, wd_9, by decide, ⟨by decide, by decide⟩, by decide⟩
theorem pdX12_told : (parseMethodDescriptor yX12_told.desc).map (fun d => d.parameters.length) = some 1 := by decide +kernel
abbrev mL_law : mh_M := (yL_law, cL_law, 4, some .boolean)
