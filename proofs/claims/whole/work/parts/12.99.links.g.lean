set_option maxRecDepth 100000 in
theorem wd_oi : Cond.instanceMethod objectInit ∈ mh_T := wd_29
set_option maxRecDepth 100000 in
theorem wd_oc : Cond.code objectInit ⟨#[0xb1]⟩ 1 none ∈ mh_T := mh_T_in (List.mem_append_right _ (List.mem_of_getElem? (i := 30) (by decide +kernel))) (by decide +kernel)
set_option maxRecDepth 100000 in
theorem fl_11_12_11 : mh_fl RX11 12 11 0 := ⟨by decide, by decide, "HoleWater", wd_285, Or.inl rfl⟩
set_option maxRecDepth 100000 in
theorem fl_11_16_11 : mh_fl RX11 16 11 1 := ⟨by decide, by decide, "HoleWater", wd_286, Or.inl rfl⟩
set_option maxRecDepth 100000 in
theorem fl_11_22_11 : mh_fl RX11 22 11 2 := ⟨by decide, by decide, "HoleWater", wd_287, Or.inl rfl⟩
set_option maxRecDepth 100000 in
theorem fl_11_29_11 : mh_fl RX11 29 11 3 := ⟨by decide, by decide, "HoleWater", wd_288, Or.inl rfl⟩
set_option maxRecDepth 100000 in
theorem fl_11_38_11 : mh_fl RX11 38 11 4 := ⟨by decide, by decide, "HoleWater", wd_289, Or.inl rfl⟩
set_option maxRecDepth 100000 in
theorem fl_11_42_11 : mh_fl RX11 42 11 5 := ⟨by decide, by decide, "HoleWater", wd_290, Or.inl rfl⟩
set_option maxRecDepth 100000 in
theorem fl_11_46_11 : mh_fl RX11 46 11 6 := ⟨by decide, by decide, "HoleWater", wd_291, Or.inl rfl⟩
set_option maxRecDepth 100000 in
theorem fl_11_49_11 : mh_fl RX11 49 11 7 := ⟨by decide, by decide, "HoleWater", wd_292, Or.inl rfl⟩
set_option maxRecDepth 100000 in
theorem fl_11_52_11 : mh_fl RX11 52 11 8 := ⟨by decide, by decide, "HoleWater", wd_293, Or.inl rfl⟩
set_option maxRecDepth 100000 in
theorem fl_11_55_11 : mh_fl RX11 55 11 9 := ⟨by decide, by decide, "HoleWater", wd_294, Or.inl rfl⟩
set_option maxRecDepth 100000 in
theorem fl_11_58_11 : mh_fl RX11 58 11 10 := ⟨by decide, by decide, "HoleWater", wd_295, Or.inl rfl⟩
set_option maxRecDepth 100000 in
theorem fl_5_9_5 : mh_fl RX5 9 5 0 := ⟨by decide, by decide, "HoleWater$Reader", wd_252, Or.inl rfl⟩
set_option maxRecDepth 100000 in
theorem fl_5_20_5 : mh_fl RX5 20 5 1 := ⟨by decide, by decide, "HoleWater$Reader", wd_254, Or.inl rfl⟩
set_option maxRecDepth 100000 in
theorem fl_5_24_5 : mh_fl RX5 24 5 2 := ⟨by decide, by decide, "HoleWater$Reader", wd_256, Or.inl rfl⟩
set_option maxRecDepth 100000 in
theorem fl_5_27_5 : mh_fl RX5 27 5 3 := ⟨by decide, by decide, "HoleWater$Reader", wd_257, Or.inl rfl⟩
set_option maxRecDepth 100000 in
theorem fl_5_31_5 : mh_fl RX5 31 5 4 := ⟨by decide, by decide, "HoleWater$Reader", wd_258, Or.inl rfl⟩
set_option maxRecDepth 100000 in
theorem fl_5_34_5 : mh_fl RX5 34 5 5 := ⟨by decide, by decide, "HoleWater$Reader", wd_259, Or.inl rfl⟩
set_option maxRecDepth 100000 in
theorem fl_5_39_5 : mh_fl RX5 39 5 6 := ⟨by decide, by decide, "HoleWater$Reader", wd_260, Or.inl rfl⟩
set_option maxRecDepth 100000 in
theorem fl_5_43_5 : mh_fl RX5 43 5 7 := ⟨by decide, by decide, "HoleWater$Reader", wd_261, Or.inl rfl⟩
set_option maxRecDepth 100000 in
theorem fl_5_46_5 : mh_fl RX5 46 5 8 := ⟨by decide, by decide, "HoleWater$Reader", wd_262, Or.inl rfl⟩
set_option maxRecDepth 100000 in
theorem fl_6_7_6 : mh_fl RX6 7 6 1 := ⟨by decide, by decide, "HoleWater$Row", wd_145, Or.inl rfl⟩
set_option maxRecDepth 100000 in
theorem fl_6_19_6 : mh_fl RX6 19 6 0 := ⟨by decide, by decide, "HoleWater$Row", wd_143, Or.inl rfl⟩
set_option maxRecDepth 100000 in
theorem fl_8_9_8 : mh_fl RX8 9 8 0 := ⟨by decide, by decide, "HoleWater$Water", wd_45, Or.inl rfl⟩
set_option maxRecDepth 100000 in
theorem fl_8_15_8 : mh_fl RX8 15 8 1 := ⟨by decide, by decide, "HoleWater$Water", wd_49, Or.inl rfl⟩
set_option maxRecDepth 100000 in
theorem fl_8_19_8 : mh_fl RX8 19 8 2 := ⟨by decide, by decide, "HoleWater$Water", wd_53, Or.inl rfl⟩
set_option maxRecDepth 100000 in
theorem fl_8_22_8 : mh_fl RX8 22 8 3 := ⟨by decide, by decide, "HoleWater$Water", wd_55, Or.inl rfl⟩
set_option maxRecDepth 100000 in
theorem fl_8_26_8 : mh_fl RX8 26 8 4 := ⟨by decide, by decide, "HoleWater$Water", wd_57, Or.inl rfl⟩
set_option maxRecDepth 100000 in
theorem fl_8_29_8 : mh_fl RX8 29 8 5 := ⟨by decide, by decide, "HoleWater$Water", wd_60, Or.inl rfl⟩
set_option maxRecDepth 100000 in
theorem fl_8_32_8 : mh_fl RX8 32 8 6 := ⟨by decide, by decide, "HoleWater$Water", wd_63, Or.inl rfl⟩
set_option maxRecDepth 100000 in
theorem fl_8_35_8 : mh_fl RX8 35 8 7 := ⟨by decide, by decide, "HoleWater$Water", wd_64, Or.inl rfl⟩
set_option maxRecDepth 100000 in
theorem fl_8_38_8 : mh_fl RX8 38 8 8 := ⟨by decide, by decide, "HoleWater$Water", wd_65, Or.inl rfl⟩
set_option maxRecDepth 100000 in
theorem fl_8_41_8 : mh_fl RX8 41 8 9 := ⟨by decide, by decide, "HoleWater$Water", wd_68, Or.inl rfl⟩
set_option maxRecDepth 100000 in
theorem fl_8_44_8 : mh_fl RX8 44 8 10 := ⟨by decide, by decide, "HoleWater$Water", wd_70, Or.inl rfl⟩
set_option maxRecDepth 100000 in
theorem fl_8_47_8 : mh_fl RX8 47 8 11 := ⟨by decide, by decide, "HoleWater$Water", wd_71, Or.inl rfl⟩
set_option maxRecDepth 100000 in
theorem fl_10_33_10 : mh_fl RX10 33 10 6 := ⟨by decide, by decide, "HoleWater$World", wd_199, Or.inl rfl⟩
set_option maxRecDepth 100000 in
theorem fl_10_9_10 : mh_fl RX10 9 10 0 := ⟨by decide, by decide, "HoleWater$World", wd_185, Or.inl rfl⟩
set_option maxRecDepth 100000 in
theorem fl_10_15_10 : mh_fl RX10 15 10 1 := ⟨by decide, by decide, "HoleWater$World", wd_188, Or.inl rfl⟩
set_option maxRecDepth 100000 in
theorem fl_10_18_10 : mh_fl RX10 18 10 2 := ⟨by decide, by decide, "HoleWater$World", wd_191, Or.inl rfl⟩
set_option maxRecDepth 100000 in
theorem fl_10_21_10 : mh_fl RX10 21 10 3 := ⟨by decide, by decide, "HoleWater$World", wd_193, Or.inl rfl⟩
set_option maxRecDepth 100000 in
theorem fl_10_25_10 : mh_fl RX10 25 10 4 := ⟨by decide, by decide, "HoleWater$World", wd_195, Or.inl rfl⟩
set_option maxRecDepth 100000 in
theorem fl_10_28_10 : mh_fl RX10 28 10 5 := ⟨by decide, by decide, "HoleWater$World", wd_197, Or.inl rfl⟩
set_option maxRecDepth 100000 in
theorem fl_10_40_10 : mh_fl RX10 40 10 7 := ⟨by decide, by decide, "HoleWater$World", wd_202, Or.inl rfl⟩
set_option maxRecDepth 100000 in
theorem fl_10_47_10 : mh_fl RX10 47 10 8 := ⟨by decide, by decide, "HoleWater$World", wd_204, Or.inl rfl⟩
set_option maxRecDepth 100000 in
theorem fl_10_56_10 : mh_fl RX10 56 10 9 := ⟨by decide, by decide, "HoleWater$World", wd_206, Or.inl rfl⟩
set_option maxRecDepth 100000 in
theorem fl_10_60_10 : mh_fl RX10 60 10 10 := ⟨by decide, by decide, "HoleWater$World", wd_208, Or.inl rfl⟩
set_option maxRecDepth 100000 in
theorem fl_10_63_10 : mh_fl RX10 63 10 11 := ⟨by decide, by decide, "HoleWater$World", wd_210, Or.inl rfl⟩
set_option maxRecDepth 100000 in
theorem fl_10_66_10 : mh_fl RX10 66 10 12 := ⟨by decide, by decide, "HoleWater$World", wd_212, Or.inl rfl⟩
set_option maxRecDepth 100000 in
theorem fl_1_9_1 : mh_fl RX1 9 1 0 := ⟨by decide, by decide, "HoleWater$Looks", wd_104, Or.inl rfl⟩
set_option maxRecDepth 100000 in
theorem fl_1_15_1 : mh_fl RX1 15 1 1 := ⟨by decide, by decide, "HoleWater$Looks", wd_106, Or.inl rfl⟩
set_option maxRecDepth 100000 in
theorem fl_1_18_1 : mh_fl RX1 18 1 2 := ⟨by decide, by decide, "HoleWater$Looks", wd_108, Or.inl rfl⟩
set_option maxRecDepth 100000 in
theorem fl_1_22_1 : mh_fl RX1 22 1 3 := ⟨by decide, by decide, "HoleWater$Looks", wd_110, Or.inl rfl⟩
set_option maxRecDepth 100000 in
theorem fl_1_25_1 : mh_fl RX1 25 1 4 := ⟨by decide, by decide, "HoleWater$Looks", wd_112, Or.inl rfl⟩
set_option maxRecDepth 100000 in
theorem fl_1_28_1 : mh_fl RX1 28 1 5 := ⟨by decide, by decide, "HoleWater$Looks", wd_114, Or.inl rfl⟩
set_option maxRecDepth 100000 in
theorem fl_1_31_1 : mh_fl RX1 31 1 6 := ⟨by decide, by decide, "HoleWater$Looks", wd_115, Or.inl rfl⟩
set_option maxRecDepth 100000 in
theorem fl_1_34_1 : mh_fl RX1 34 1 7 := ⟨by decide, by decide, "HoleWater$Looks", wd_116, Or.inl rfl⟩
set_option maxRecDepth 100000 in
theorem fl_9_7_0 : mh_fl RX9 7 0 0 := ⟨by decide, by decide, "HoleWater$Way", wd_159, Or.inl rfl⟩
set_option maxRecDepth 100000 in
theorem fl_9_7_2 : mh_fl RX9 7 2 0 := ⟨by decide, by decide, "HoleWater$Way", wd_159, Or.inl rfl⟩
set_option maxRecDepth 100000 in
theorem fl_9_7_3 : mh_fl RX9 7 3 0 := ⟨by decide, by decide, "HoleWater$Way", wd_159, Or.inl rfl⟩
set_option maxRecDepth 100000 in
theorem fl_9_7_4 : mh_fl RX9 7 4 0 := ⟨by decide, by decide, "HoleWater$Way", wd_159, Or.inl rfl⟩
set_option maxRecDepth 100000 in
theorem fl_9_7_7 : mh_fl RX9 7 7 0 := ⟨by decide, by decide, "HoleWater$Way", wd_159, Or.inl rfl⟩
set_option maxRecDepth 100000 in
theorem fl_9_7_9 : mh_fl RX9 7 9 0 := ⟨by decide, by decide, "HoleWater$Way", wd_159, Or.inl rfl⟩
set_option maxRecDepth 100000 in
theorem fl_9_13_0 : mh_fl RX9 13 0 1 := ⟨by decide, by decide, "HoleWater$Way", wd_162, Or.inl rfl⟩
set_option maxRecDepth 100000 in
theorem fl_9_13_2 : mh_fl RX9 13 2 1 := ⟨by decide, by decide, "HoleWater$Way", wd_162, Or.inl rfl⟩
set_option maxRecDepth 100000 in
theorem fl_9_13_3 : mh_fl RX9 13 3 1 := ⟨by decide, by decide, "HoleWater$Way", wd_162, Or.inl rfl⟩
set_option maxRecDepth 100000 in
theorem fl_9_13_4 : mh_fl RX9 13 4 1 := ⟨by decide, by decide, "HoleWater$Way", wd_162, Or.inl rfl⟩
set_option maxRecDepth 100000 in
theorem fl_9_13_7 : mh_fl RX9 13 7 1 := ⟨by decide, by decide, "HoleWater$Way", wd_162, Or.inl rfl⟩
set_option maxRecDepth 100000 in
theorem fl_9_13_9 : mh_fl RX9 13 9 1 := ⟨by decide, by decide, "HoleWater$Way", wd_162, Or.inl rfl⟩
set_option maxRecDepth 100000 in
theorem fl_9_16_0 : mh_fl RX9 16 0 2 := ⟨by decide, by decide, "HoleWater$Way", wd_165, Or.inl rfl⟩
set_option maxRecDepth 100000 in
theorem fl_9_16_2 : mh_fl RX9 16 2 2 := ⟨by decide, by decide, "HoleWater$Way", wd_165, Or.inl rfl⟩
set_option maxRecDepth 100000 in
theorem fl_9_16_3 : mh_fl RX9 16 3 2 := ⟨by decide, by decide, "HoleWater$Way", wd_165, Or.inl rfl⟩
set_option maxRecDepth 100000 in
theorem fl_9_16_4 : mh_fl RX9 16 4 2 := ⟨by decide, by decide, "HoleWater$Way", wd_165, Or.inl rfl⟩
set_option maxRecDepth 100000 in
theorem fl_9_16_7 : mh_fl RX9 16 7 2 := ⟨by decide, by decide, "HoleWater$Way", wd_165, Or.inl rfl⟩
set_option maxRecDepth 100000 in
theorem fl_9_16_9 : mh_fl RX9 16 9 2 := ⟨by decide, by decide, "HoleWater$Way", wd_165, Or.inl rfl⟩
set_option maxRecDepth 100000 in
theorem fl_9_19_0 : mh_fl RX9 19 0 3 := ⟨by decide, by decide, "HoleWater$Way", wd_167, Or.inl rfl⟩
set_option maxRecDepth 100000 in
theorem fl_9_19_2 : mh_fl RX9 19 2 3 := ⟨by decide, by decide, "HoleWater$Way", wd_167, Or.inl rfl⟩
set_option maxRecDepth 100000 in
theorem fl_9_19_3 : mh_fl RX9 19 3 3 := ⟨by decide, by decide, "HoleWater$Way", wd_167, Or.inl rfl⟩
set_option maxRecDepth 100000 in
theorem fl_9_19_4 : mh_fl RX9 19 4 3 := ⟨by decide, by decide, "HoleWater$Way", wd_167, Or.inl rfl⟩
set_option maxRecDepth 100000 in
theorem fl_9_19_7 : mh_fl RX9 19 7 3 := ⟨by decide, by decide, "HoleWater$Way", wd_167, Or.inl rfl⟩
set_option maxRecDepth 100000 in
theorem fl_9_19_9 : mh_fl RX9 19 9 3 := ⟨by decide, by decide, "HoleWater$Way", wd_167, Or.inl rfl⟩
set_option maxRecDepth 100000 in
theorem fl_11_70_10 : mh_fl RX11 70 10 0 := ⟨by decide, by decide, "HoleWater$World", wd_186, Or.inl rfl⟩
set_option maxRecDepth 100000 in
theorem fl_11_81_10 : mh_fl RX11 81 10 3 := ⟨by decide, by decide, "HoleWater$World", wd_194, Or.inl rfl⟩
set_option maxRecDepth 100000 in
theorem fl_11_84_10 : mh_fl RX11 84 10 4 := ⟨by decide, by decide, "HoleWater$World", wd_196, Or.inl rfl⟩
set_option maxRecDepth 100000 in
theorem fl_11_87_10 : mh_fl RX11 87 10 5 := ⟨by decide, by decide, "HoleWater$World", wd_198, Or.inl rfl⟩
set_option maxRecDepth 100000 in
theorem fl_11_90_10 : mh_fl RX11 90 10 7 := ⟨by decide, by decide, "HoleWater$World", wd_203, Or.inl rfl⟩
set_option maxRecDepth 100000 in
theorem fl_11_93_8 : mh_fl RX11 93 8 5 := ⟨by decide, by decide, "HoleWater$Water", wd_61, Or.inl rfl⟩
set_option maxRecDepth 100000 in
theorem fl_11_96_8 : mh_fl RX11 96 8 8 := ⟨by decide, by decide, "HoleWater$Water", wd_66, Or.inl rfl⟩
set_option maxRecDepth 100000 in
theorem fl_11_99_8 : mh_fl RX11 99 8 9 := ⟨by decide, by decide, "HoleWater$Water", wd_69, Or.inl rfl⟩
set_option maxRecDepth 100000 in
theorem fl_11_102_10 : mh_fl RX11 102 10 2 := ⟨by decide, by decide, "HoleWater$World", wd_192, Or.inl rfl⟩
set_option maxRecDepth 100000 in
theorem fl_11_116_10 : mh_fl RX11 116 10 1 := ⟨by decide, by decide, "HoleWater$World", wd_189, Or.inl rfl⟩
set_option maxRecDepth 100000 in
theorem fl_11_130_10 : mh_fl RX11 130 10 6 := ⟨by decide, by decide, "HoleWater$World", wd_200, Or.inl rfl⟩
set_option maxRecDepth 100000 in
theorem fl_11_147_0 : mh_fl RX11 147 0 0 := ⟨by decide, by decide, "HoleWater$Way", wd_160, Or.inl rfl⟩
set_option maxRecDepth 100000 in
theorem fl_11_147_2 : mh_fl RX11 147 2 0 := ⟨by decide, by decide, "HoleWater$Way", wd_160, Or.inl rfl⟩
set_option maxRecDepth 100000 in
theorem fl_11_147_3 : mh_fl RX11 147 3 0 := ⟨by decide, by decide, "HoleWater$Way", wd_160, Or.inl rfl⟩
set_option maxRecDepth 100000 in
theorem fl_11_147_4 : mh_fl RX11 147 4 0 := ⟨by decide, by decide, "HoleWater$Way", wd_160, Or.inl rfl⟩
set_option maxRecDepth 100000 in
theorem fl_11_147_7 : mh_fl RX11 147 7 0 := ⟨by decide, by decide, "HoleWater$Way", wd_160, Or.inl rfl⟩
set_option maxRecDepth 100000 in
theorem fl_11_147_9 : mh_fl RX11 147 9 0 := ⟨by decide, by decide, "HoleWater$Way", wd_160, Or.inl rfl⟩
set_option maxRecDepth 100000 in
theorem fl_11_150_0 : mh_fl RX11 150 0 1 := ⟨by decide, by decide, "HoleWater$Way", wd_163, Or.inl rfl⟩
set_option maxRecDepth 100000 in
theorem fl_11_150_2 : mh_fl RX11 150 2 1 := ⟨by decide, by decide, "HoleWater$Way", wd_163, Or.inl rfl⟩
set_option maxRecDepth 100000 in
theorem fl_11_150_3 : mh_fl RX11 150 3 1 := ⟨by decide, by decide, "HoleWater$Way", wd_163, Or.inl rfl⟩
set_option maxRecDepth 100000 in
theorem fl_11_150_4 : mh_fl RX11 150 4 1 := ⟨by decide, by decide, "HoleWater$Way", wd_163, Or.inl rfl⟩
set_option maxRecDepth 100000 in
theorem fl_11_150_7 : mh_fl RX11 150 7 1 := ⟨by decide, by decide, "HoleWater$Way", wd_163, Or.inl rfl⟩
set_option maxRecDepth 100000 in
theorem fl_11_150_9 : mh_fl RX11 150 9 1 := ⟨by decide, by decide, "HoleWater$Way", wd_163, Or.inl rfl⟩
set_option maxRecDepth 100000 in
theorem fl_11_153_0 : mh_fl RX11 153 0 2 := ⟨by decide, by decide, "HoleWater$Way", wd_166, Or.inl rfl⟩
set_option maxRecDepth 100000 in
theorem fl_11_153_2 : mh_fl RX11 153 2 2 := ⟨by decide, by decide, "HoleWater$Way", wd_166, Or.inl rfl⟩
set_option maxRecDepth 100000 in
theorem fl_11_153_3 : mh_fl RX11 153 3 2 := ⟨by decide, by decide, "HoleWater$Way", wd_166, Or.inl rfl⟩
set_option maxRecDepth 100000 in
theorem fl_11_153_4 : mh_fl RX11 153 4 2 := ⟨by decide, by decide, "HoleWater$Way", wd_166, Or.inl rfl⟩
set_option maxRecDepth 100000 in
theorem fl_11_153_7 : mh_fl RX11 153 7 2 := ⟨by decide, by decide, "HoleWater$Way", wd_166, Or.inl rfl⟩
set_option maxRecDepth 100000 in
theorem fl_11_153_9 : mh_fl RX11 153 9 2 := ⟨by decide, by decide, "HoleWater$Way", wd_166, Or.inl rfl⟩
set_option maxRecDepth 100000 in
theorem fl_11_156_0 : mh_fl RX11 156 0 3 := ⟨by decide, by decide, "HoleWater$Way", wd_174, Or.inl rfl⟩
set_option maxRecDepth 100000 in
theorem fl_11_156_2 : mh_fl RX11 156 2 3 := ⟨by decide, by decide, "HoleWater$Way", wd_174, Or.inl rfl⟩
set_option maxRecDepth 100000 in
theorem fl_11_156_3 : mh_fl RX11 156 3 3 := ⟨by decide, by decide, "HoleWater$Way", wd_174, Or.inl rfl⟩
set_option maxRecDepth 100000 in
theorem fl_11_156_4 : mh_fl RX11 156 4 3 := ⟨by decide, by decide, "HoleWater$Way", wd_174, Or.inl rfl⟩
set_option maxRecDepth 100000 in
theorem fl_11_156_7 : mh_fl RX11 156 7 3 := ⟨by decide, by decide, "HoleWater$Way", wd_174, Or.inl rfl⟩
set_option maxRecDepth 100000 in
theorem fl_11_156_9 : mh_fl RX11 156 9 3 := ⟨by decide, by decide, "HoleWater$Way", wd_174, Or.inl rfl⟩
set_option maxRecDepth 100000 in
theorem fl_11_179_8 : mh_fl RX11 179 8 1 := ⟨by decide, by decide, "HoleWater$Water", wd_51, Or.inl rfl⟩
set_option maxRecDepth 100000 in
theorem fl_11_186_8 : mh_fl RX11 186 8 3 := ⟨by decide, by decide, "HoleWater$Water", wd_56, Or.inl rfl⟩
set_option maxRecDepth 100000 in
theorem fl_11_189_8 : mh_fl RX11 189 8 0 := ⟨by decide, by decide, "HoleWater$Water", wd_48, Or.inl rfl⟩
set_option maxRecDepth 100000 in
theorem fl_8_73_10 : mh_fl RX8 73 10 0 := ⟨by decide, by decide, "HoleWater$World", wd_187, Or.inl rfl⟩
set_option maxRecDepth 100000 in
theorem fl_8_60_10 : mh_fl RX8 60 10 1 := ⟨by decide, by decide, "HoleWater$World", wd_190, Or.inl rfl⟩
set_option maxRecDepth 100000 in
theorem fl_8_65_10 : mh_fl RX8 65 10 6 := ⟨by decide, by decide, "HoleWater$World", wd_201, Or.inl rfl⟩
set_option maxRecDepth 100000 in
theorem fl_8_116_0 : mh_fl RX8 116 0 1 := ⟨by decide, by decide, "HoleWater$Way", wd_164, Or.inl rfl⟩
set_option maxRecDepth 100000 in
theorem fl_8_116_2 : mh_fl RX8 116 2 1 := ⟨by decide, by decide, "HoleWater$Way", wd_164, Or.inl rfl⟩
set_option maxRecDepth 100000 in
theorem fl_8_116_3 : mh_fl RX8 116 3 1 := ⟨by decide, by decide, "HoleWater$Way", wd_164, Or.inl rfl⟩
set_option maxRecDepth 100000 in
theorem fl_8_116_4 : mh_fl RX8 116 4 1 := ⟨by decide, by decide, "HoleWater$Way", wd_164, Or.inl rfl⟩
set_option maxRecDepth 100000 in
theorem fl_8_116_7 : mh_fl RX8 116 7 1 := ⟨by decide, by decide, "HoleWater$Way", wd_164, Or.inl rfl⟩
set_option maxRecDepth 100000 in
theorem fl_8_116_9 : mh_fl RX8 116 9 1 := ⟨by decide, by decide, "HoleWater$Way", wd_164, Or.inl rfl⟩
set_option maxRecDepth 100000 in
theorem fl_4_7_0 : mh_fl RX4 7 0 3 := ⟨by decide, by decide, "HoleWater$Pool", wd_168, Or.inr wd_169⟩
set_option maxRecDepth 100000 in
theorem fl_4_7_2 : mh_fl RX4 7 2 3 := ⟨by decide, by decide, "HoleWater$Pool", wd_168, Or.inr wd_169⟩
set_option maxRecDepth 100000 in
theorem fl_4_7_3 : mh_fl RX4 7 3 3 := ⟨by decide, by decide, "HoleWater$Pool", wd_168, Or.inr wd_169⟩
set_option maxRecDepth 100000 in
theorem fl_4_7_4 : mh_fl RX4 7 4 3 := ⟨by decide, by decide, "HoleWater$Pool", wd_168, Or.inr wd_169⟩
set_option maxRecDepth 100000 in
theorem fl_4_7_7 : mh_fl RX4 7 7 3 := ⟨by decide, by decide, "HoleWater$Pool", wd_168, Or.inr wd_169⟩
set_option maxRecDepth 100000 in
theorem fl_4_7_9 : mh_fl RX4 7 9 3 := ⟨by decide, by decide, "HoleWater$Pool", wd_168, Or.inr wd_169⟩
set_option maxRecDepth 100000 in
theorem fl_8_128_0 : mh_fl RX8 128 0 0 := ⟨by decide, by decide, "HoleWater$Way", wd_161, Or.inl rfl⟩
set_option maxRecDepth 100000 in
theorem fl_8_128_2 : mh_fl RX8 128 2 0 := ⟨by decide, by decide, "HoleWater$Way", wd_161, Or.inl rfl⟩
set_option maxRecDepth 100000 in
theorem fl_8_128_3 : mh_fl RX8 128 3 0 := ⟨by decide, by decide, "HoleWater$Way", wd_161, Or.inl rfl⟩
set_option maxRecDepth 100000 in
theorem fl_8_128_4 : mh_fl RX8 128 4 0 := ⟨by decide, by decide, "HoleWater$Way", wd_161, Or.inl rfl⟩
set_option maxRecDepth 100000 in
theorem fl_8_128_7 : mh_fl RX8 128 7 0 := ⟨by decide, by decide, "HoleWater$Way", wd_161, Or.inl rfl⟩
set_option maxRecDepth 100000 in
theorem fl_8_128_9 : mh_fl RX8 128 9 0 := ⟨by decide, by decide, "HoleWater$Way", wd_161, Or.inl rfl⟩
set_option maxRecDepth 100000 in
theorem fl_7_11_0 : mh_fl RX7 11 0 3 := ⟨by decide, by decide, "HoleWater$Sieve", wd_172, Or.inr wd_173⟩
set_option maxRecDepth 100000 in
theorem fl_7_11_2 : mh_fl RX7 11 2 3 := ⟨by decide, by decide, "HoleWater$Sieve", wd_172, Or.inr wd_173⟩
set_option maxRecDepth 100000 in
theorem fl_7_11_3 : mh_fl RX7 11 3 3 := ⟨by decide, by decide, "HoleWater$Sieve", wd_172, Or.inr wd_173⟩
set_option maxRecDepth 100000 in
theorem fl_7_11_4 : mh_fl RX7 11 4 3 := ⟨by decide, by decide, "HoleWater$Sieve", wd_172, Or.inr wd_173⟩
set_option maxRecDepth 100000 in
theorem fl_7_11_7 : mh_fl RX7 11 7 3 := ⟨by decide, by decide, "HoleWater$Sieve", wd_172, Or.inr wd_173⟩
set_option maxRecDepth 100000 in
theorem fl_7_11_9 : mh_fl RX7 11 9 3 := ⟨by decide, by decide, "HoleWater$Sieve", wd_172, Or.inr wd_173⟩
set_option maxRecDepth 100000 in
theorem fl_8_144_0 : mh_fl RX8 144 0 3 := ⟨by decide, by decide, "HoleWater$Way", wd_175, Or.inl rfl⟩
set_option maxRecDepth 100000 in
theorem fl_8_144_2 : mh_fl RX8 144 2 3 := ⟨by decide, by decide, "HoleWater$Way", wd_175, Or.inl rfl⟩
set_option maxRecDepth 100000 in
theorem fl_8_144_3 : mh_fl RX8 144 3 3 := ⟨by decide, by decide, "HoleWater$Way", wd_175, Or.inl rfl⟩
set_option maxRecDepth 100000 in
theorem fl_8_144_4 : mh_fl RX8 144 4 3 := ⟨by decide, by decide, "HoleWater$Way", wd_175, Or.inl rfl⟩
set_option maxRecDepth 100000 in
theorem fl_8_144_7 : mh_fl RX8 144 7 3 := ⟨by decide, by decide, "HoleWater$Way", wd_175, Or.inl rfl⟩
set_option maxRecDepth 100000 in
theorem fl_8_144_9 : mh_fl RX8 144 9 3 := ⟨by decide, by decide, "HoleWater$Way", wd_175, Or.inl rfl⟩
set_option maxRecDepth 100000 in
theorem fl_10_113_6 : mh_fl RX10 113 6 1 := ⟨by decide, by decide, "HoleWater$Row", wd_147, Or.inl rfl⟩
set_option maxRecDepth 100000 in
theorem fl_10_116_5 : mh_fl RX10 116 5 0 := ⟨by decide, by decide, "HoleWater$Reader", wd_253, Or.inl rfl⟩
set_option maxRecDepth 100000 in
theorem fl_10_102_8 : mh_fl RX10 102 8 0 := ⟨by decide, by decide, "HoleWater$Water", wd_47, Or.inl rfl⟩
set_option maxRecDepth 100000 in
theorem fl_10_121_8 : mh_fl RX10 121 8 1 := ⟨by decide, by decide, "HoleWater$Water", wd_52, Or.inl rfl⟩
set_option maxRecDepth 100000 in
theorem fl_5_70_6 : mh_fl RX5 70 6 1 := ⟨by decide, by decide, "HoleWater$Row", wd_146, Or.inl rfl⟩
set_option maxRecDepth 100000 in
theorem fl_11_196_10 : mh_fl RX11 196 10 8 := ⟨by decide, by decide, "HoleWater$World", wd_205, Or.inl rfl⟩
set_option maxRecDepth 100000 in
theorem fl_11_200_1 : mh_fl RX11 200 1 0 := ⟨by decide, by decide, "HoleWater$Looks", wd_105, Or.inl rfl⟩
set_option maxRecDepth 100000 in
theorem fl_10_96_8 : mh_fl RX10 96 8 5 := ⟨by decide, by decide, "HoleWater$Water", wd_62, Or.inl rfl⟩
set_option maxRecDepth 100000 in
theorem fl_10_99_8 : mh_fl RX10 99 8 4 := ⟨by decide, by decide, "HoleWater$Water", wd_58, Or.inl rfl⟩
set_option maxRecDepth 100000 in
theorem fl_11_208_1 : mh_fl RX11 208 1 2 := ⟨by decide, by decide, "HoleWater$Looks", wd_109, Or.inl rfl⟩
set_option maxRecDepth 100000 in
theorem fl_11_217_8 : mh_fl RX11 217 8 4 := ⟨by decide, by decide, "HoleWater$Water", wd_59, Or.inl rfl⟩
set_option maxRecDepth 100000 in
theorem fl_11_230_10 : mh_fl RX11 230 10 9 := ⟨by decide, by decide, "HoleWater$World", wd_207, Or.inl rfl⟩
set_option maxRecDepth 100000 in
theorem fl_11_233_6 : mh_fl RX11 233 6 1 := ⟨by decide, by decide, "HoleWater$Row", wd_148, Or.inl rfl⟩
set_option maxRecDepth 100000 in
theorem fl_11_253_5 : mh_fl RX11 253 5 1 := ⟨by decide, by decide, "HoleWater$Reader", wd_255, Or.inl rfl⟩
set_option maxRecDepth 100000 in
theorem fl_11_247_10 : mh_fl RX11 247 10 10 := ⟨by decide, by decide, "HoleWater$World", wd_209, Or.inl rfl⟩
set_option maxRecDepth 100000 in
theorem fl_11_250_10 : mh_fl RX11 250 10 11 := ⟨by decide, by decide, "HoleWater$World", wd_211, Or.inl rfl⟩
set_option maxRecDepth 100000 in
theorem fl_5_67_6 : mh_fl RX5 67 6 0 := ⟨by decide, by decide, "HoleWater$Row", wd_144, Or.inl rfl⟩
set_option maxRecDepth 100000 in
theorem fl_10_133_8 : mh_fl RX10 133 8 8 := ⟨by decide, by decide, "HoleWater$Water", wd_67, Or.inl rfl⟩
set_option maxRecDepth 100000 in
theorem fl_11_275_1 : mh_fl RX11 275 1 1 := ⟨by decide, by decide, "HoleWater$Looks", wd_107, Or.inl rfl⟩
set_option maxRecDepth 100000 in
theorem fl_1_48_8 : mh_fl RX1 48 8 1 := ⟨by decide, by decide, "HoleWater$Water", wd_50, Or.inl rfl⟩
set_option maxRecDepth 100000 in
theorem fl_1_43_8 : mh_fl RX1 43 8 0 := ⟨by decide, by decide, "HoleWater$Water", wd_46, Or.inl rfl⟩
set_option maxRecDepth 100000 in
theorem fl_11_278_1 : mh_fl RX11 278 1 3 := ⟨by decide, by decide, "HoleWater$Looks", wd_111, Or.inl rfl⟩
set_option maxRecDepth 100000 in
theorem fl_11_326_1 : mh_fl RX11 326 1 4 := ⟨by decide, by decide, "HoleWater$Looks", wd_113, Or.inl rfl⟩
set_option maxRecDepth 100000 in
theorem fl_3_13_0 : mh_fl RX3 13 0 3 := ⟨by decide, by decide, "HoleWater$Overflow", wd_170, Or.inr wd_171⟩
set_option maxRecDepth 100000 in
theorem fl_3_13_2 : mh_fl RX3 13 2 3 := ⟨by decide, by decide, "HoleWater$Overflow", wd_170, Or.inr wd_171⟩
set_option maxRecDepth 100000 in
theorem fl_3_13_3 : mh_fl RX3 13 3 3 := ⟨by decide, by decide, "HoleWater$Overflow", wd_170, Or.inr wd_171⟩
set_option maxRecDepth 100000 in
theorem fl_3_13_4 : mh_fl RX3 13 4 3 := ⟨by decide, by decide, "HoleWater$Overflow", wd_170, Or.inr wd_171⟩
set_option maxRecDepth 100000 in
theorem fl_3_13_7 : mh_fl RX3 13 7 3 := ⟨by decide, by decide, "HoleWater$Overflow", wd_170, Or.inr wd_171⟩
set_option maxRecDepth 100000 in
theorem fl_3_13_9 : mh_fl RX3 13 9 3 := ⟨by decide, by decide, "HoleWater$Overflow", wd_170, Or.inr wd_171⟩
set_option maxRecDepth 100000 in
theorem fl_11_364_10 : mh_fl RX11 364 10 12 := ⟨by decide, by decide, "HoleWater$World", wd_213, Or.inl rfl⟩
set_option maxRecDepth 100000 in
theorem fl_11_373_8 : mh_fl RX11 373 8 2 := ⟨by decide, by decide, "HoleWater$Water", wd_54, Or.inl rfl⟩
set_option maxRecDepth 100000 in
theorem fl_12_9_12 : mh_fl RX12 9 12 0 := ⟨by decide, by decide, "HoleWaterModel", wd_1174, Or.inl rfl⟩
set_option maxRecDepth 100000 in
theorem fl_12_13_12 : mh_fl RX12 13 12 1 := ⟨by decide, by decide, "HoleWaterModel", wd_1175, Or.inl rfl⟩
set_option maxRecDepth 100000 in
theorem fl_12_16_12 : mh_fl RX12 16 12 2 := ⟨by decide, by decide, "HoleWaterModel", wd_1176, Or.inl rfl⟩
set_option maxRecDepth 100000 in
theorem fl_12_19_12 : mh_fl RX12 19 12 4 := ⟨by decide, by decide, "HoleWaterModel", wd_1178, Or.inl rfl⟩
set_option maxRecDepth 100000 in
theorem fl_12_22_12 : mh_fl RX12 22 12 5 := ⟨by decide, by decide, "HoleWaterModel", wd_1179, Or.inl rfl⟩
set_option maxRecDepth 100000 in
theorem fl_12_25_12 : mh_fl RX12 25 12 6 := ⟨by decide, by decide, "HoleWaterModel", wd_1180, Or.inl rfl⟩
set_option maxRecDepth 100000 in
theorem fl_12_28_12 : mh_fl RX12 28 12 7 := ⟨by decide, by decide, "HoleWaterModel", wd_1181, Or.inl rfl⟩
set_option maxRecDepth 100000 in
theorem fl_12_31_12 : mh_fl RX12 31 12 8 := ⟨by decide, by decide, "HoleWaterModel", wd_1182, Or.inl rfl⟩
set_option maxRecDepth 100000 in
theorem fl_12_34_12 : mh_fl RX12 34 12 15 := ⟨by decide, by decide, "HoleWaterModel", wd_1189, Or.inl rfl⟩
set_option maxRecDepth 100000 in
theorem fl_12_37_12 : mh_fl RX12 37 12 16 := ⟨by decide, by decide, "HoleWaterModel", wd_1190, Or.inl rfl⟩
set_option maxRecDepth 100000 in
theorem fl_12_40_12 : mh_fl RX12 40 12 17 := ⟨by decide, by decide, "HoleWaterModel", wd_1191, Or.inl rfl⟩
set_option maxRecDepth 100000 in
theorem fl_12_43_12 : mh_fl RX12 43 12 18 := ⟨by decide, by decide, "HoleWaterModel", wd_1192, Or.inl rfl⟩
set_option maxRecDepth 100000 in
theorem fl_12_46_12 : mh_fl RX12 46 12 19 := ⟨by decide, by decide, "HoleWaterModel", wd_1193, Or.inl rfl⟩
set_option maxRecDepth 100000 in
theorem fl_12_49_12 : mh_fl RX12 49 12 20 := ⟨by decide, by decide, "HoleWaterModel", wd_1194, Or.inl rfl⟩
set_option maxRecDepth 100000 in
theorem fl_12_52_12 : mh_fl RX12 52 12 21 := ⟨by decide, by decide, "HoleWaterModel", wd_1195, Or.inl rfl⟩
set_option maxRecDepth 100000 in
theorem fl_12_55_12 : mh_fl RX12 55 12 27 := ⟨by decide, by decide, "HoleWaterModel", wd_1201, Or.inl rfl⟩
set_option maxRecDepth 100000 in
theorem fl_12_58_12 : mh_fl RX12 58 12 28 := ⟨by decide, by decide, "HoleWaterModel", wd_1202, Or.inl rfl⟩
set_option maxRecDepth 100000 in
theorem fl_12_61_12 : mh_fl RX12 61 12 29 := ⟨by decide, by decide, "HoleWaterModel", wd_1203, Or.inl rfl⟩
set_option maxRecDepth 100000 in
theorem fl_12_199_12 : mh_fl RX12 199 12 14 := ⟨by decide, by decide, "HoleWaterModel", wd_1188, Or.inl rfl⟩
set_option maxRecDepth 100000 in
theorem fl_12_203_12 : mh_fl RX12 203 12 11 := ⟨by decide, by decide, "HoleWaterModel", wd_1185, Or.inl rfl⟩
set_option maxRecDepth 100000 in
theorem fl_12_211_12 : mh_fl RX12 211 12 9 := ⟨by decide, by decide, "HoleWaterModel", wd_1183, Or.inl rfl⟩
set_option maxRecDepth 100000 in
theorem fl_12_226_12 : mh_fl RX12 226 12 12 := ⟨by decide, by decide, "HoleWaterModel", wd_1186, Or.inl rfl⟩
set_option maxRecDepth 100000 in
theorem fl_12_220_12 : mh_fl RX12 220 12 13 := ⟨by decide, by decide, "HoleWaterModel", wd_1187, Or.inl rfl⟩
set_option maxRecDepth 100000 in
theorem fl_12_241_12 : mh_fl RX12 241 12 10 := ⟨by decide, by decide, "HoleWaterModel", wd_1184, Or.inl rfl⟩
set_option maxRecDepth 100000 in
theorem fl_12_306_12 : mh_fl RX12 306 12 22 := ⟨by decide, by decide, "HoleWaterModel", wd_1196, Or.inl rfl⟩
set_option maxRecDepth 100000 in
theorem fl_12_312_12 : mh_fl RX12 312 12 24 := ⟨by decide, by decide, "HoleWaterModel", wd_1198, Or.inl rfl⟩
set_option maxRecDepth 100000 in
theorem fl_12_318_12 : mh_fl RX12 318 12 23 := ⟨by decide, by decide, "HoleWaterModel", wd_1197, Or.inl rfl⟩
set_option maxRecDepth 100000 in
theorem fl_12_321_12 : mh_fl RX12 321 12 25 := ⟨by decide, by decide, "HoleWaterModel", wd_1199, Or.inl rfl⟩
set_option maxRecDepth 100000 in
theorem fl_12_338_12 : mh_fl RX12 338 12 26 := ⟨by decide, by decide, "HoleWaterModel", wd_1200, Or.inl rfl⟩
set_option maxRecDepth 100000 in
theorem fl_12_349_12 : mh_fl RX12 349 12 3 := ⟨by decide, by decide, "HoleWaterModel", wd_1177, Or.inl rfl⟩
set_option maxRecDepth 100000 in
theorem flw_9_7 : mh_flw RX9 7 0 := ⟨fl_9_7_0, fl_9_7_2, fl_9_7_3, fl_9_7_4, fl_9_7_7, fl_9_7_9⟩
set_option maxRecDepth 100000 in
theorem flw_9_13 : mh_flw RX9 13 1 := ⟨fl_9_13_0, fl_9_13_2, fl_9_13_3, fl_9_13_4, fl_9_13_7, fl_9_13_9⟩
set_option maxRecDepth 100000 in
theorem flw_9_16 : mh_flw RX9 16 2 := ⟨fl_9_16_0, fl_9_16_2, fl_9_16_3, fl_9_16_4, fl_9_16_7, fl_9_16_9⟩
set_option maxRecDepth 100000 in
theorem flw_9_19 : mh_flw RX9 19 3 := ⟨fl_9_19_0, fl_9_19_2, fl_9_19_3, fl_9_19_4, fl_9_19_7, fl_9_19_9⟩
set_option maxRecDepth 100000 in
theorem flw_11_147 : mh_flw RX11 147 0 := ⟨fl_11_147_0, fl_11_147_2, fl_11_147_3, fl_11_147_4, fl_11_147_7, fl_11_147_9⟩
set_option maxRecDepth 100000 in
theorem flw_11_150 : mh_flw RX11 150 1 := ⟨fl_11_150_0, fl_11_150_2, fl_11_150_3, fl_11_150_4, fl_11_150_7, fl_11_150_9⟩
set_option maxRecDepth 100000 in
theorem flw_11_153 : mh_flw RX11 153 2 := ⟨fl_11_153_0, fl_11_153_2, fl_11_153_3, fl_11_153_4, fl_11_153_7, fl_11_153_9⟩
set_option maxRecDepth 100000 in
theorem flw_11_156 : mh_flw RX11 156 3 := ⟨fl_11_156_0, fl_11_156_2, fl_11_156_3, fl_11_156_4, fl_11_156_7, fl_11_156_9⟩
set_option maxRecDepth 100000 in
theorem flw_8_116 : mh_flw RX8 116 1 := ⟨fl_8_116_0, fl_8_116_2, fl_8_116_3, fl_8_116_4, fl_8_116_7, fl_8_116_9⟩
set_option maxRecDepth 100000 in
theorem flw_4_7 : mh_flw RX4 7 3 := ⟨fl_4_7_0, fl_4_7_2, fl_4_7_3, fl_4_7_4, fl_4_7_7, fl_4_7_9⟩
set_option maxRecDepth 100000 in
theorem flw_8_128 : mh_flw RX8 128 0 := ⟨fl_8_128_0, fl_8_128_2, fl_8_128_3, fl_8_128_4, fl_8_128_7, fl_8_128_9⟩
set_option maxRecDepth 100000 in
theorem flw_7_11 : mh_flw RX7 11 3 := ⟨fl_7_11_0, fl_7_11_2, fl_7_11_3, fl_7_11_4, fl_7_11_7, fl_7_11_9⟩
set_option maxRecDepth 100000 in
theorem flw_8_144 : mh_flw RX8 144 3 := ⟨fl_8_144_0, fl_8_144_2, fl_8_144_3, fl_8_144_4, fl_8_144_7, fl_8_144_9⟩
set_option maxRecDepth 100000 in
theorem flw_3_13 : mh_flw RX3 13 3 := ⟨fl_3_13_0, fl_3_13_2, fl_3_13_3, fl_3_13_4, fl_3_13_7, fl_3_13_9⟩
