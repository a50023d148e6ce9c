-- HoleWaterModel.puts(III)I
theorem dX12_puts_0 : decode cX12_puts 0 = .ok (.sipush 6916, 3) := by decide +kernel
theorem dX12_puts_3 : decode cX12_puts 3 = .ok (.iconst 4, 1) := by decide +kernel
theorem dX12_puts_4 : decode cX12_puts 4 = .ok (.aload_n 0, 1) := by decide +kernel
theorem dX12_puts_5 : decode cX12_puts 5 = .ok (.getfield 9, 3) := by decide +kernel
theorem dX12_puts_8 : decode cX12_puts 8 = .ok (.iconst 3, 1) := by decide +kernel
theorem dX12_puts_9 : decode cX12_puts 9 = .ok (.iaload, 1) := by decide +kernel
theorem dX12_puts_10 : decode cX12_puts 10 = .ok (.imul, 1) := by decide +kernel
theorem dX12_puts_11 : decode cX12_puts 11 = .ok (.iadd, 1) := by decide +kernel
theorem dX12_puts_12 : decode cX12_puts 12 = .ok (.istore 4, 2) := by decide +kernel
theorem dX12_puts_14 : decode cX12_puts 14 = .ok (.aload_n 0, 1) := by decide +kernel
theorem dX12_puts_15 : decode cX12_puts 15 = .ok (.getfield 9, 3) := by decide +kernel
theorem dX12_puts_18 : decode cX12_puts 18 = .ok (.iload 4, 2) := by decide +kernel
theorem dX12_puts_20 : decode cX12_puts 20 = .ok (.iload_n 1, 1) := by decide +kernel
theorem dX12_puts_21 : decode cX12_puts 21 = .ok (.iastore, 1) := by decide +kernel
theorem dX12_puts_22 : decode cX12_puts 22 = .ok (.aload_n 0, 1) := by decide +kernel
theorem dX12_puts_23 : decode cX12_puts 23 = .ok (.getfield 9, 3) := by decide +kernel
theorem dX12_puts_26 : decode cX12_puts 26 = .ok (.iload 4, 2) := by decide +kernel
theorem dX12_puts_28 : decode cX12_puts 28 = .ok (.iconst 1, 1) := by decide +kernel
theorem dX12_puts_29 : decode cX12_puts 29 = .ok (.iadd, 1) := by decide +kernel
theorem dX12_puts_30 : decode cX12_puts 30 = .ok (.iload_n 2, 1) := by decide +kernel
theorem dX12_puts_31 : decode cX12_puts 31 = .ok (.iastore, 1) := by decide +kernel
theorem dX12_puts_32 : decode cX12_puts 32 = .ok (.aload_n 0, 1) := by decide +kernel
theorem dX12_puts_33 : decode cX12_puts 33 = .ok (.getfield 9, 3) := by decide +kernel
theorem dX12_puts_36 : decode cX12_puts 36 = .ok (.iload 4, 2) := by decide +kernel
theorem dX12_puts_38 : decode cX12_puts 38 = .ok (.iconst 2, 1) := by decide +kernel
theorem dX12_puts_39 : decode cX12_puts 39 = .ok (.iadd, 1) := by decide +kernel
theorem dX12_puts_40 : decode cX12_puts 40 = .ok (.iload_n 3, 1) := by decide +kernel
theorem dX12_puts_41 : decode cX12_puts 41 = .ok (.iastore, 1) := by decide +kernel
theorem dX12_puts_42 : decode cX12_puts 42 = .ok (.aload_n 0, 1) := by decide +kernel
theorem dX12_puts_43 : decode cX12_puts 43 = .ok (.getfield 9, 3) := by decide +kernel
theorem dX12_puts_46 : decode cX12_puts 46 = .ok (.iload 4, 2) := by decide +kernel
theorem dX12_puts_48 : decode cX12_puts 48 = .ok (.iconst 3, 1) := by decide +kernel
theorem dX12_puts_49 : decode cX12_puts 49 = .ok (.iadd, 1) := by decide +kernel
theorem dX12_puts_50 : decode cX12_puts 50 = .ok (.aload_n 0, 1) := by decide +kernel
theorem dX12_puts_51 : decode cX12_puts 51 = .ok (.getfield 9, 3) := by decide +kernel
theorem dX12_puts_54 : decode cX12_puts 54 = .ok (.iconst 0, 1) := by decide +kernel
theorem dX12_puts_55 : decode cX12_puts 55 = .ok (.iaload, 1) := by decide +kernel
theorem dX12_puts_56 : decode cX12_puts 56 = .ok (.iastore, 1) := by decide +kernel
theorem dX12_puts_57 : decode cX12_puts 57 = .ok (.aload_n 0, 1) := by decide +kernel
theorem dX12_puts_58 : decode cX12_puts 58 = .ok (.getfield 9, 3) := by decide +kernel
theorem dX12_puts_61 : decode cX12_puts 61 = .ok (.iload_n 1, 1) := by decide +kernel
theorem dX12_puts_62 : decode cX12_puts 62 = .ok (.invokestatic 71, 3) := by decide +kernel
theorem dX12_puts_65 : decode cX12_puts 65 = .ok (.bipush 7, 2) := by decide +kernel
theorem dX12_puts_67 : decode cX12_puts 67 = .ok (.iadd, 1) := by decide +kernel
theorem dX12_puts_68 : decode cX12_puts 68 = .ok (.iload_n 2, 1) := by decide +kernel
theorem dX12_puts_69 : decode cX12_puts 69 = .ok (.iadd, 1) := by decide +kernel
theorem dX12_puts_70 : decode cX12_puts 70 = .ok (.dup2, 1) := by decide +kernel
theorem dX12_puts_71 : decode cX12_puts 71 = .ok (.iaload, 1) := by decide +kernel
theorem dX12_puts_72 : decode cX12_puts 72 = .ok (.iload_n 3, 1) := by decide +kernel
theorem dX12_puts_73 : decode cX12_puts 73 = .ok (.iadd, 1) := by decide +kernel
theorem dX12_puts_74 : decode cX12_puts 74 = .ok (.iastore, 1) := by decide +kernel
theorem dX12_puts_75 : decode cX12_puts 75 = .ok (.aload_n 0, 1) := by decide +kernel
theorem dX12_puts_76 : decode cX12_puts 76 = .ok (.getfield 9, 3) := by decide +kernel
theorem dX12_puts_79 : decode cX12_puts 79 = .ok (.iload_n 2, 1) := by decide +kernel
theorem dX12_puts_80 : decode cX12_puts 80 = .ok (.iconst 0, 1) := by decide +kernel
theorem dX12_puts_81 : decode cX12_puts 81 = .ok (.invokestatic 123, 3) := by decide +kernel
theorem dX12_puts_84 : decode cX12_puts 84 = .ok (.dup2, 1) := by decide +kernel
theorem dX12_puts_85 : decode cX12_puts 85 = .ok (.iaload, 1) := by decide +kernel
theorem dX12_puts_86 : decode cX12_puts 86 = .ok (.iload_n 3, 1) := by decide +kernel
theorem dX12_puts_87 : decode cX12_puts 87 = .ok (.iadd, 1) := by decide +kernel
theorem dX12_puts_88 : decode cX12_puts 88 = .ok (.iastore, 1) := by decide +kernel
theorem dX12_puts_89 : decode cX12_puts 89 = .ok (.aload_n 0, 1) := by decide +kernel
theorem dX12_puts_90 : decode cX12_puts 90 = .ok (.getfield 9, 3) := by decide +kernel
theorem dX12_puts_93 : decode cX12_puts 93 = .ok (.iconst 3, 1) := by decide +kernel
theorem dX12_puts_94 : decode cX12_puts 94 = .ok (.dup2, 1) := by decide +kernel
theorem dX12_puts_95 : decode cX12_puts 95 = .ok (.iaload, 1) := by decide +kernel
theorem dX12_puts_96 : decode cX12_puts 96 = .ok (.iconst 1, 1) := by decide +kernel
theorem dX12_puts_97 : decode cX12_puts 97 = .ok (.iadd, 1) := by decide +kernel
theorem dX12_puts_98 : decode cX12_puts 98 = .ok (.iastore, 1) := by decide +kernel
theorem dX12_puts_99 : decode cX12_puts 99 = .ok (.aload_n 0, 1) := by decide +kernel
theorem dX12_puts_100 : decode cX12_puts 100 = .ok (.getfield 9, 3) := by decide +kernel
theorem dX12_puts_103 : decode cX12_puts 103 = .ok (.iconst 3, 1) := by decide +kernel
theorem dX12_puts_104 : decode cX12_puts 104 = .ok (.iaload, 1) := by decide +kernel
theorem dX12_puts_105 : decode cX12_puts 105 = .ok (.iconst 1, 1) := by decide +kernel
theorem dX12_puts_106 : decode cX12_puts 106 = .ok (.isub, 1) := by decide +kernel
theorem dX12_puts_107 : decode cX12_puts 107 = .ok (.ireturn, 1) := by decide +kernel
def D_X12_puts (N : Nat) (h : mh_H) (l0 : Nat) (l1 : Int32) (l2 : Int32) (l3 : Int32) : Option (Int32 × mh_H) :=
  (gR h 12 l0 0).bind fun v1 =>
  (aI h v1 (3 : Int32)).bind fun v2 =>
  (gR h 12 l0 0).bind fun v3 =>
  (uI h v3 ((6916 : Int32) + ((4 : Int32) * v2)) l1).bind fun h4 =>
  (gR h4 12 l0 0).bind fun v5 =>
  (uI h4 v5 (((6916 : Int32) + ((4 : Int32) * v2)) + (1 : Int32)) l2).bind fun h6 =>
  (gR h6 12 l0 0).bind fun v7 =>
  (uI h6 v7 (((6916 : Int32) + ((4 : Int32) * v2)) + (2 : Int32)) l3).bind fun h8 =>
  (gR h8 12 l0 0).bind fun v9 =>
  (gR h8 12 l0 0).bind fun v10 =>
  (aI h8 v10 (0 : Int32)).bind fun v11 =>
  (uI h8 v9 (((6916 : Int32) + ((4 : Int32) * v2)) + (3 : Int32)) v11).bind fun h12 =>
  (gR h12 12 l0 0).bind fun v13 =>
  (D_X12_joint N h12 l1).bind fun q14 =>
  (aI q14.2 v13 ((q14.1 + (7 : Int32)) + l2)).bind fun v15 =>
  (uI q14.2 v13 ((q14.1 + (7 : Int32)) + l2) (v15 + l3)).bind fun h16 =>
  (gR h16 12 l0 0).bind fun v17 =>
  (D_X12_stuffAt N h16 l2 (0 : Int32)).bind fun q18 =>
  (aI q18.2 v17 q18.1).bind fun v19 =>
  (uI q18.2 v17 q18.1 (v19 + l3)).bind fun h20 =>
  (gR h20 12 l0 0).bind fun v21 =>
  (aI h20 v21 (3 : Int32)).bind fun v22 =>
  (uI h20 v21 (3 : Int32) (v22 + (1 : Int32))).bind fun h23 =>
  (gR h23 12 l0 0).bind fun v24 =>
  (aI h23 v24 (3 : Int32)).bind fun v25 =>
  some (v25 - (1 : Int32), h23)
set_option maxHeartbeats 4000000 in
set_option maxRecDepth 100000 in
theorem T_X12_puts {P : mh_E → Prop} {N d : Nat} (hd : 2 ≤ d) {z : (Int32 × mh_H)} {h : mh_H} {l0 : Nat} {l1 : Int32} {l2 : Int32} {l3 : Int32} (hq : D_X12_puts N h l0 l1 l2 l3 = some z) : mh_go P d mX12_puts 0 [some (.ref l0), some (.int l1), some (.int l2), some (.int l3), none] [] h (some (.int z.1)) z.2 := by
  unfold D_X12_puts at hq
  refine st_sipush (pc := 0) (v := (6916 : Int32)) dX12_puts_0 (by decide) ?_
  refine st_iconst (pc := 3) (v := (4 : Int32)) dX12_puts_3 rfl ?_
  refine st_aload_n (pc := 4) dX12_puts_4 rfl ?_
  refine bd_getr (pc := 5) hq dX12_puts_5 fl_12_9_12 rfl (fun v1 hq => ?_)
  refine st_iconst (pc := 8) (v := (3 : Int32)) dX12_puts_8 rfl ?_
  refine bd_iald (pc := 9) hq dX12_puts_9 (fun v2 hq => ?_)
  refine st_imul (pc := 10) dX12_puts_10 ?_
  refine st_iadd (pc := 11) dX12_puts_11 ?_
  refine st_istore (pc := 12) (lv' := [some (.ref l0), some (.int l1), some (.int l2), some (.int l3), some (.int ((6916 : Int32) + ((4 : Int32) * v2)))]) dX12_puts_12 rfl (by decide) rfl ?_
  refine st_aload_n (pc := 14) dX12_puts_14 rfl ?_
  refine bd_getr (pc := 15) hq dX12_puts_15 fl_12_9_12 rfl (fun v3 hq => ?_)
  refine st_iload (pc := 18) dX12_puts_18 rfl ?_
  refine st_iload_n (pc := 20) dX12_puts_20 rfl ?_
  refine bd_iast (pc := 21) hq dX12_puts_21 (fun h4 hq => ?_)
  refine st_aload_n (pc := 22) dX12_puts_22 rfl ?_
  refine bd_getr (pc := 23) hq dX12_puts_23 fl_12_9_12 rfl (fun v5 hq => ?_)
  refine st_iload (pc := 26) dX12_puts_26 rfl ?_
  refine st_iconst (pc := 28) (v := (1 : Int32)) dX12_puts_28 rfl ?_
  refine st_iadd (pc := 29) dX12_puts_29 ?_
  refine st_iload_n (pc := 30) dX12_puts_30 rfl ?_
  refine bd_iast (pc := 31) hq dX12_puts_31 (fun h6 hq => ?_)
  refine st_aload_n (pc := 32) dX12_puts_32 rfl ?_
  refine bd_getr (pc := 33) hq dX12_puts_33 fl_12_9_12 rfl (fun v7 hq => ?_)
  refine st_iload (pc := 36) dX12_puts_36 rfl ?_
  refine st_iconst (pc := 38) (v := (2 : Int32)) dX12_puts_38 rfl ?_
  refine st_iadd (pc := 39) dX12_puts_39 ?_
  refine st_iload_n (pc := 40) dX12_puts_40 rfl ?_
  refine bd_iast (pc := 41) hq dX12_puts_41 (fun h8 hq => ?_)
  refine st_aload_n (pc := 42) dX12_puts_42 rfl ?_
  refine bd_getr (pc := 43) hq dX12_puts_43 fl_12_9_12 rfl (fun v9 hq => ?_)
  refine st_iload (pc := 46) dX12_puts_46 rfl ?_
  refine st_iconst (pc := 48) (v := (3 : Int32)) dX12_puts_48 rfl ?_
  refine st_iadd (pc := 49) dX12_puts_49 ?_
  refine st_aload_n (pc := 50) dX12_puts_50 rfl ?_
  refine bd_getr (pc := 51) hq dX12_puts_51 fl_12_9_12 rfl (fun v10 hq => ?_)
  refine st_iconst (pc := 54) (v := (0 : Int32)) dX12_puts_54 rfl ?_
  refine bd_iald (pc := 55) hq dX12_puts_55 (fun v11 hq => ?_)
  refine bd_iast (pc := 56) hq dX12_puts_56 (fun h12 hq => ?_)
  refine st_aload_n (pc := 57) dX12_puts_57 rfl ?_
  refine bd_getr (pc := 58) hq dX12_puts_58 fl_12_9_12 rfl (fun v13 hq => ?_)
  refine st_iload_n (pc := 61) dX12_puts_61 rfl ?_
  obtain ⟨q14, e14, hq⟩ := mh_ob hq
  refine st_invS (pc := 62) (Y := mX12_joint) (vs := [.int l1]) (rest := [.ref v13]) (st2 := [.int q14.1, .ref v13]) dX12_puts_62 okX12_joint wd_1279 wd_1280 pdX12_joint rfl rfl rfl rfl (Nat.le_trans (by decide) hd) (Nat.le_of_ble_eq_true rfl) (T_X12_joint (Nat.le_refl _) e14) rfl ?_
  refine st_bipush (pc := 65) (v := (7 : Int32)) dX12_puts_65 (by decide) ?_
  refine st_iadd (pc := 67) dX12_puts_67 ?_
  refine st_iload_n (pc := 68) dX12_puts_68 rfl ?_
  refine st_iadd (pc := 69) dX12_puts_69 ?_
  refine st_dup2 (pc := 70) dX12_puts_70 rfl rfl ?_
  refine bd_iald (pc := 71) hq dX12_puts_71 (fun v15 hq => ?_)
  refine st_iload_n (pc := 72) dX12_puts_72 rfl ?_
  refine st_iadd (pc := 73) dX12_puts_73 ?_
  refine bd_iast (pc := 74) hq dX12_puts_74 (fun h16 hq => ?_)
  refine st_aload_n (pc := 75) dX12_puts_75 rfl ?_
  refine bd_getr (pc := 76) hq dX12_puts_76 fl_12_9_12 rfl (fun v17 hq => ?_)
  refine st_iload_n (pc := 79) dX12_puts_79 rfl ?_
  refine st_iconst (pc := 80) (v := (0 : Int32)) dX12_puts_80 rfl ?_
  obtain ⟨q18, e18, hq⟩ := mh_ob hq
  refine st_invS (pc := 81) (Y := mX12_stuffAt) (vs := [.int l2, .int (0 : Int32)]) (rest := [.ref v17]) (st2 := [.int q18.1, .ref v17]) dX12_puts_81 okX12_stuffAt wd_1374 wd_1375 pdX12_stuffAt rfl rfl rfl rfl (Nat.le_trans (by decide) hd) (Nat.le_of_ble_eq_true rfl) (T_X12_stuffAt (Nat.le_refl _) e18) rfl ?_
  refine st_dup2 (pc := 84) dX12_puts_84 rfl rfl ?_
  refine bd_iald (pc := 85) hq dX12_puts_85 (fun v19 hq => ?_)
  refine st_iload_n (pc := 86) dX12_puts_86 rfl ?_
  refine st_iadd (pc := 87) dX12_puts_87 ?_
  refine bd_iast (pc := 88) hq dX12_puts_88 (fun h20 hq => ?_)
  refine st_aload_n (pc := 89) dX12_puts_89 rfl ?_
  refine bd_getr (pc := 90) hq dX12_puts_90 fl_12_9_12 rfl (fun v21 hq => ?_)
  refine st_iconst (pc := 93) (v := (3 : Int32)) dX12_puts_93 rfl ?_
  refine st_dup2 (pc := 94) dX12_puts_94 rfl rfl ?_
  refine bd_iald (pc := 95) hq dX12_puts_95 (fun v22 hq => ?_)
  refine st_iconst (pc := 96) (v := (1 : Int32)) dX12_puts_96 rfl ?_
  refine st_iadd (pc := 97) dX12_puts_97 ?_
  refine bd_iast (pc := 98) hq dX12_puts_98 (fun h23 hq => ?_)
  refine st_aload_n (pc := 99) dX12_puts_99 rfl ?_
  refine bd_getr (pc := 100) hq dX12_puts_100 fl_12_9_12 rfl (fun v24 hq => ?_)
  refine st_iconst (pc := 103) (v := (3 : Int32)) dX12_puts_103 rfl ?_
  refine bd_iald (pc := 104) hq dX12_puts_104 (fun v25 hq => ?_)
  refine st_iconst (pc := 105) (v := (1 : Int32)) dX12_puts_105 rfl ?_
  refine st_isub (pc := 106) dX12_puts_106 ?_
  exact bd_iret (pc := 107) hq dX12_puts_107 rfl
-- HoleWaterModel.put(III)I
theorem dX12_put_27 : decode cX12_put 27 = .ok (.aload_n 0, 1) := by decide +kernel
theorem dX12_put_28 : decode cX12_put 28 = .ok (.iconst 1, 1) := by decide +kernel
theorem dX12_put_29 : decode cX12_put 29 = .ok (.invokevirtual 80, 3) := by decide +kernel
theorem dX12_put_32 : decode cX12_put 32 = .ok (.ireturn, 1) := by decide +kernel
theorem dX12_put_0 : decode cX12_put 0 = .ok (.aload_n 0, 1) := by decide +kernel
theorem dX12_put_1 : decode cX12_put 1 = .ok (.iload_n 1, 1) := by decide +kernel
theorem dX12_put_2 : decode cX12_put 2 = .ok (.invokevirtual 83, 3) := by decide +kernel
theorem dX12_put_5 : decode cX12_put 5 = .ok (.ifCond .eq 22, 3) := by decide +kernel
theorem dX12_put_8 : decode cX12_put 8 = .ok (.iload_n 2, 1) := by decide +kernel
theorem dX12_put_9 : decode cX12_put 9 = .ok (.invokestatic 155, 3) := by decide +kernel
theorem dX12_put_12 : decode cX12_put 12 = .ok (.ifCond .eq 15, 3) := by decide +kernel
theorem dX12_put_15 : decode cX12_put 15 = .ok (.iload_n 3, 1) := by decide +kernel
theorem dX12_put_16 : decode cX12_put 16 = .ok (.i2l, 1) := by decide +kernel
theorem dX12_put_17 : decode cX12_put 17 = .ok (.lconst 1, 1) := by decide +kernel
theorem dX12_put_18 : decode cX12_put 18 = .ok (.ldc2_w 163, 3) := by decide +kernel
theorem dX12_put_21 : decode cX12_put 21 = .ok (.invokestatic 65, 3) := by decide +kernel
theorem dX12_put_24 : decode cX12_put 24 = .ok (.ifCond .ne 9, 3) := by decide +kernel
theorem dX12_put_33 : decode cX12_put 33 = .ok (.aload_n 0, 1) := by decide +kernel
theorem dX12_put_34 : decode cX12_put 34 = .ok (.iload_n 1, 1) := by decide +kernel
theorem dX12_put_35 : decode cX12_put 35 = .ok (.invokevirtual 96, 3) := by decide +kernel
theorem dX12_put_38 : decode cX12_put 38 = .ok (.ifCond .ne 9, 3) := by decide +kernel
theorem dX12_put_41 : decode cX12_put 41 = .ok (.aload_n 0, 1) := by decide +kernel
theorem dX12_put_42 : decode cX12_put 42 = .ok (.iconst 5, 1) := by decide +kernel
theorem dX12_put_43 : decode cX12_put 43 = .ok (.invokevirtual 80, 3) := by decide +kernel
theorem dX12_put_46 : decode cX12_put 46 = .ok (.ireturn, 1) := by decide +kernel
theorem dX12_put_47 : decode cX12_put 47 = .ok (.aload_n 0, 1) := by decide +kernel
theorem dX12_put_48 : decode cX12_put 48 = .ok (.getfield 9, 3) := by decide +kernel
theorem dX12_put_51 : decode cX12_put 51 = .ok (.iconst 3, 1) := by decide +kernel
theorem dX12_put_52 : decode cX12_put 52 = .ok (.iaload, 1) := by decide +kernel
theorem dX12_put_53 : decode cX12_put 53 = .ok (.bipush 40, 2) := by decide +kernel
theorem dX12_put_55 : decode cX12_put 55 = .ok (.if_icmp .ge 13, 3) := by decide +kernel
theorem dX12_put_68 : decode cX12_put 68 = .ok (.aload_n 0, 1) := by decide +kernel
theorem dX12_put_69 : decode cX12_put 69 = .ok (.iconst 4, 1) := by decide +kernel
theorem dX12_put_70 : decode cX12_put 70 = .ok (.invokevirtual 80, 3) := by decide +kernel
theorem dX12_put_73 : decode cX12_put 73 = .ok (.ireturn, 1) := by decide +kernel
theorem dX12_put_58 : decode cX12_put 58 = .ok (.aload_n 0, 1) := by decide +kernel
theorem dX12_put_59 : decode cX12_put 59 = .ok (.iload_n 1, 1) := by decide +kernel
theorem dX12_put_60 : decode cX12_put 60 = .ok (.iload_n 2, 1) := by decide +kernel
theorem dX12_put_61 : decode cX12_put 61 = .ok (.iload_n 3, 1) := by decide +kernel
theorem dX12_put_62 : decode cX12_put 62 = .ok (.invokevirtual 165, 3) := by decide +kernel
theorem dX12_put_65 : decode cX12_put 65 = .ok (.goto 8, 3) := by decide +kernel
def D_X12_put_27 (N : Nat) (h : mh_H) (l0 : Nat) : Option (Int32 × mh_H) :=
  kO h 12 l0 <|
  (D_X12_error N h l0 (1 : Int32)).bind fun q1 =>
  some (q1.1, q1.2)
set_option maxHeartbeats 4000000 in
set_option maxRecDepth 100000 in
theorem T_X12_put_27 {P : mh_E → Prop} {N d : Nat} (hd : 4 ≤ d) {z : (Int32 × mh_H)} {h : mh_H} {l0 : Nat} (hq : D_X12_put_27 N h l0 = some z) : mh_go P d mX12_put 27 [some (.ref l0), none, none, none] [] h (some (.int z.1)) z.2 := by
  unfold D_X12_put_27 at hq
  refine st_aload_n (pc := 27) dX12_put_27 rfl ?_
  refine st_iconst (pc := 28) (v := (1 : Int32)) dX12_put_28 rfl ?_
  obtain ⟨⟨hbq1, hkq1⟩, hq⟩ := mh_oi hq
  obtain ⟨q1, e1, hq⟩ := mh_ob hq
  refine st_invV (pc := 29) (ci := 12) (vs := [.int (1 : Int32)]) (rest := []) (st2 := [.int q1.1]) dX12_put_29 okX12_error (by decide) hkq1 hbq1 wd_1274 wd_1276 wp_37 pdX12_error rfl rfl rfl rfl (Nat.le_trans (by decide) hd) (Nat.le_of_ble_eq_true rfl) (T_X12_error (Nat.le_refl _) e1) rfl ?_
  exact bd_iret (pc := 32) hq dX12_put_32 rfl
def D_X12_put (N : Nat) (h : mh_H) (l0 : Nat) (l1 : Int32) (l2 : Int32) (l3 : Int32) : Option (Int32 × mh_H) :=
  kO h 12 l0 <|
  (D_X12_isJoint N h l0 l1).bind fun q1 =>
  if q1.1 = 0 then (D_X12_put_27 N q1.2 l0)
  else ((D_X12_isColour N q1.2 l2).bind fun q2 =>
  if q2.1 = 0 then (D_X12_put_27 N q2.2 l0)
  else ((D_X12_in N q2.2 l3.toInt64 (1 : Int64) (9999 : Int64)).bind fun q3 =>
  if q3.1 = 0 then (D_X12_put_27 N q3.2 l0)
  else (kO q3.2 12 l0 <|
  (D_X12_isHole N q3.2 l0 l1).bind fun q4 =>
  if q4.1 = 0 then (kO q4.2 12 l0 <|
  (D_X12_error N q4.2 l0 (5 : Int32)).bind fun q5 =>
  some (q5.1, q5.2))
  else ((gR q4.2 12 l0 0).bind fun v5 =>
  (aI q4.2 v5 (3 : Int32)).bind fun v6 =>
  if (40 : Int32) ≤ v6 then (kO q4.2 12 l0 <|
  (D_X12_error N q4.2 l0 (4 : Int32)).bind fun q7 =>
  some (q7.1, q7.2))
  else (kO q4.2 12 l0 <|
  (D_X12_puts N q4.2 l0 l1 l2 l3).bind fun q7 =>
  some (q7.1, q7.2))))))
set_option maxHeartbeats 4000000 in
set_option maxRecDepth 100000 in
theorem T_X12_put {P : mh_E → Prop} {N d : Nat} (hd : 4 ≤ d) {z : (Int32 × mh_H)} {h : mh_H} {l0 : Nat} {l1 : Int32} {l2 : Int32} {l3 : Int32} (hq : D_X12_put N h l0 l1 l2 l3 = some z) : mh_go P d mX12_put 0 [some (.ref l0), some (.int l1), some (.int l2), some (.int l3)] [] h (some (.int z.1)) z.2 := by
  unfold D_X12_put at hq
  refine st_aload_n (pc := 0) dX12_put_0 rfl ?_
  refine st_iload_n (pc := 1) dX12_put_1 rfl ?_
  obtain ⟨⟨hbq1, hkq1⟩, hq⟩ := mh_oi hq
  obtain ⟨q1, e1, hq⟩ := mh_ob hq
  refine st_invV (pc := 2) (ci := 12) (vs := [.int l1]) (rest := []) (st2 := [.int q1.1]) dX12_put_2 okX12_isJoint (by decide) hkq1 hbq1 wd_1286 wd_1288 wp_38 pdX12_isJoint rfl rfl rfl rfl (Nat.le_trans (by decide) hd) (Nat.le_of_ble_eq_true rfl) (T_X12_isJoint (Nat.le_refl _) e1) rfl ?_
  refine bd_if_eq (pc := 5) (tgt := 27) hq dX12_put_5 (by decide) (fun _ hq => ?_) (fun _ hq => ?_)
  ·
    refine st_lesS (lv' := [some (.ref l0), none, none, none]) ⟨Or.inr rfl, Or.inl rfl, Or.inl rfl, Or.inl rfl, trivial⟩ ?_
    exact T_X12_put_27 hd hq
  ·
    refine st_iload_n (pc := 8) dX12_put_8 rfl ?_
    obtain ⟨q2, e2, hq⟩ := mh_ob hq
    refine st_invS (pc := 9) (Y := mX12_isColour) (vs := [.int l2]) (rest := []) (st2 := [.int q2.1]) dX12_put_9 okX12_isColour wd_1358 wd_1359 pdX12_isColour rfl rfl rfl rfl (Nat.le_trans (by decide) hd) (Nat.le_of_ble_eq_true rfl) (T_X12_isColour (Nat.le_refl _) e2) rfl ?_
    refine bd_if_eq (pc := 12) (tgt := 27) hq dX12_put_12 (by decide) (fun _ hq => ?_) (fun _ hq => ?_)
    ·
      refine st_lesS (lv' := [some (.ref l0), none, none, none]) ⟨Or.inr rfl, Or.inl rfl, Or.inl rfl, Or.inl rfl, trivial⟩ ?_
      exact T_X12_put_27 hd hq
    ·
      refine st_iload_n (pc := 15) dX12_put_15 rfl ?_
      refine st_i2l (pc := 16) dX12_put_16 ?_
      refine st_lconst (pc := 17) (v := 1) dX12_put_17 rfl ?_
      refine st_ldc2 (pc := 18) (v := (9999 : Int64)) dX12_put_18 wd_1427 ?_
      obtain ⟨q3, e3, hq⟩ := mh_ob hq
      refine st_invS (pc := 21) (Y := mX12_in) (vs := [.long l3.toInt64, .long (1 : Int64), .long (9999 : Int64)]) (rest := []) (st2 := [.int q3.1]) dX12_put_21 okX12_in wd_1270 wd_1271 pdX12_in rfl rfl rfl rfl (Nat.le_trans (by decide) hd) (Nat.le_of_ble_eq_true rfl) (T_X12_in (Nat.le_refl _) e3) rfl ?_
      refine bd_if_ne (pc := 24) (tgt := 33) hq dX12_put_24 (by decide) (fun _ hq => ?_) (fun _ hq => ?_)
      ·
        refine st_lesS (lv' := [some (.ref l0), none, none, none]) ⟨Or.inr rfl, Or.inl rfl, Or.inl rfl, Or.inl rfl, trivial⟩ ?_
        exact T_X12_put_27 hd hq
      ·
        refine st_aload_n (pc := 33) dX12_put_33 rfl ?_
        refine st_iload_n (pc := 34) dX12_put_34 rfl ?_
        obtain ⟨⟨hbq4, hkq4⟩, hq⟩ := mh_oi hq
        obtain ⟨q4, e4, hq⟩ := mh_ob hq
        refine st_invV (pc := 35) (ci := 12) (vs := [.int l1]) (rest := []) (st2 := [.int q4.1]) dX12_put_35 okX12_isHole (by decide) hkq4 hbq4 wd_1305 wd_1307 wp_41 pdX12_isHole rfl rfl rfl rfl (Nat.le_trans (by decide) hd) (Nat.le_of_ble_eq_true rfl) (T_X12_isHole (Nat.le_refl _) e4) rfl ?_
        refine bd_if_ne (pc := 38) (tgt := 47) hq dX12_put_38 (by decide) (fun _ hq => ?_) (fun _ hq => ?_)
        ·
          refine st_aload_n (pc := 41) dX12_put_41 rfl ?_
          refine st_iconst (pc := 42) (v := (5 : Int32)) dX12_put_42 rfl ?_
          obtain ⟨⟨hbq5, hkq5⟩, hq⟩ := mh_oi hq
          obtain ⟨q5, e5, hq⟩ := mh_ob hq
          refine st_invV (pc := 43) (ci := 12) (vs := [.int (5 : Int32)]) (rest := []) (st2 := [.int q5.1]) dX12_put_43 okX12_error (by decide) hkq5 hbq5 wd_1274 wd_1276 wp_37 pdX12_error rfl rfl rfl rfl (Nat.le_trans (by decide) hd) (Nat.le_of_ble_eq_true rfl) (T_X12_error (Nat.le_refl _) e5) rfl ?_
          exact bd_iret (pc := 46) hq dX12_put_46 rfl
        ·
          refine st_aload_n (pc := 47) dX12_put_47 rfl ?_
          refine bd_getr (pc := 48) hq dX12_put_48 fl_12_9_12 rfl (fun v5 hq => ?_)
          refine st_iconst (pc := 51) (v := (3 : Int32)) dX12_put_51 rfl ?_
          refine bd_iald (pc := 52) hq dX12_put_52 (fun v6 hq => ?_)
          refine st_bipush (pc := 53) (v := (40 : Int32)) dX12_put_53 (by decide) ?_
          refine bd_icmp_ge (pc := 55) (tgt := 68) hq dX12_put_55 (by decide) (fun _ hq => ?_) (fun _ hq => ?_)
          ·
            refine st_aload_n (pc := 68) dX12_put_68 rfl ?_
            refine st_iconst (pc := 69) (v := (4 : Int32)) dX12_put_69 rfl ?_
            obtain ⟨⟨hbq7, hkq7⟩, hq⟩ := mh_oi hq
            obtain ⟨q7, e7, hq⟩ := mh_ob hq
            refine st_invV (pc := 70) (ci := 12) (vs := [.int (4 : Int32)]) (rest := []) (st2 := [.int q7.1]) dX12_put_70 okX12_error (by decide) hkq7 hbq7 wd_1274 wd_1276 wp_37 pdX12_error rfl rfl rfl rfl (Nat.le_trans (by decide) hd) (Nat.le_of_ble_eq_true rfl) (T_X12_error (Nat.le_refl _) e7) rfl ?_
            exact bd_iret (pc := 73) hq dX12_put_73 rfl
          ·
            refine st_aload_n (pc := 58) dX12_put_58 rfl ?_
            refine st_iload_n (pc := 59) dX12_put_59 rfl ?_
            refine st_iload_n (pc := 60) dX12_put_60 rfl ?_
            refine st_iload_n (pc := 61) dX12_put_61 rfl ?_
            obtain ⟨⟨hbq7, hkq7⟩, hq⟩ := mh_oi hq
            obtain ⟨q7, e7, hq⟩ := mh_ob hq
            refine st_invV (pc := 62) (ci := 12) (vs := [.int l1, .int l2, .int l3]) (rest := []) (st2 := [.int q7.1]) dX12_put_62 okX12_puts (by decide) hkq7 hbq7 wd_1428 wd_1430 wp_58 pdX12_puts rfl rfl rfl rfl (Nat.le_trans (by decide) hd) (Nat.le_of_ble_eq_true rfl) (T_X12_puts (Nat.le_refl _) e7) rfl ?_
            refine st_goto (pc := 65) (tgt := 73) dX12_put_65 (by decide) ?_
            exact bd_iret (pc := 73) hq dX12_put_73 rfl
-- HoleWaterModel.putIs(II)I
theorem dX12_putIs_47 : decode cX12_putIs 47 = .ok (.aload_n 0, 1) := by decide +kernel
theorem dX12_putIs_48 : decode cX12_putIs 48 = .ok (.iconst 1, 1) := by decide +kernel
theorem dX12_putIs_49 : decode cX12_putIs 49 = .ok (.invokevirtual 80, 3) := by decide +kernel
theorem dX12_putIs_52 : decode cX12_putIs 52 = .ok (.ireturn, 1) := by decide +kernel
theorem dX12_putIs_0 : decode cX12_putIs 0 = .ok (.iload_n 1, 1) := by decide +kernel
theorem dX12_putIs_1 : decode cX12_putIs 1 = .ok (.i2l, 1) := by decide +kernel
theorem dX12_putIs_2 : decode cX12_putIs 2 = .ok (.lconst 0, 1) := by decide +kernel
theorem dX12_putIs_3 : decode cX12_putIs 3 = .ok (.aload_n 0, 1) := by decide +kernel
theorem dX12_putIs_4 : decode cX12_putIs 4 = .ok (.getfield 9, 3) := by decide +kernel
theorem dX12_putIs_7 : decode cX12_putIs 7 = .ok (.iconst 3, 1) := by decide +kernel
theorem dX12_putIs_8 : decode cX12_putIs 8 = .ok (.iaload, 1) := by decide +kernel
theorem dX12_putIs_9 : decode cX12_putIs 9 = .ok (.iconst 1, 1) := by decide +kernel
theorem dX12_putIs_10 : decode cX12_putIs 10 = .ok (.isub, 1) := by decide +kernel
theorem dX12_putIs_11 : decode cX12_putIs 11 = .ok (.i2l, 1) := by decide +kernel
theorem dX12_putIs_12 : decode cX12_putIs 12 = .ok (.invokestatic 65, 3) := by decide +kernel
theorem dX12_putIs_15 : decode cX12_putIs 15 = .ok (.ifCond .eq 32, 3) := by decide +kernel
theorem dX12_putIs_18 : decode cX12_putIs 18 = .ok (.iload_n 2, 1) := by decide +kernel
theorem dX12_putIs_19 : decode cX12_putIs 19 = .ok (.i2l, 1) := by decide +kernel
theorem dX12_putIs_20 : decode cX12_putIs 20 = .ok (.lconst 0, 1) := by decide +kernel
theorem dX12_putIs_21 : decode cX12_putIs 21 = .ok (.ldc2_w 69, 3) := by decide +kernel
theorem dX12_putIs_24 : decode cX12_putIs 24 = .ok (.invokestatic 65, 3) := by decide +kernel
theorem dX12_putIs_27 : decode cX12_putIs 27 = .ok (.ifCond .eq 20, 3) := by decide +kernel
theorem dX12_putIs_30 : decode cX12_putIs 30 = .ok (.aload_n 0, 1) := by decide +kernel
theorem dX12_putIs_31 : decode cX12_putIs 31 = .ok (.getfield 9, 3) := by decide +kernel
theorem dX12_putIs_34 : decode cX12_putIs 34 = .ok (.sipush 6916, 3) := by decide +kernel
theorem dX12_putIs_37 : decode cX12_putIs 37 = .ok (.iconst 4, 1) := by decide +kernel
theorem dX12_putIs_38 : decode cX12_putIs 38 = .ok (.iload_n 1, 1) := by decide +kernel
theorem dX12_putIs_39 : decode cX12_putIs 39 = .ok (.imul, 1) := by decide +kernel
theorem dX12_putIs_40 : decode cX12_putIs 40 = .ok (.iadd, 1) := by decide +kernel
theorem dX12_putIs_41 : decode cX12_putIs 41 = .ok (.iload_n 2, 1) := by decide +kernel
theorem dX12_putIs_42 : decode cX12_putIs 42 = .ok (.iadd, 1) := by decide +kernel
theorem dX12_putIs_43 : decode cX12_putIs 43 = .ok (.iaload, 1) := by decide +kernel
theorem dX12_putIs_44 : decode cX12_putIs 44 = .ok (.goto 8, 3) := by decide +kernel
def D_X12_putIs_47 (N : Nat) (h : mh_H) (l0 : Nat) : Option (Int32 × mh_H) :=
  kO h 12 l0 <|
  (D_X12_error N h l0 (1 : Int32)).bind fun q1 =>
  some (q1.1, q1.2)
set_option maxHeartbeats 4000000 in
set_option maxRecDepth 100000 in
theorem T_X12_putIs_47 {P : mh_E → Prop} {N d : Nat} (hd : 2 ≤ d) {z : (Int32 × mh_H)} {h : mh_H} {l0 : Nat} (hq : D_X12_putIs_47 N h l0 = some z) : mh_go P d mX12_putIs 47 [some (.ref l0), none, none] [] h (some (.int z.1)) z.2 := by
  unfold D_X12_putIs_47 at hq
  refine st_aload_n (pc := 47) dX12_putIs_47 rfl ?_
  refine st_iconst (pc := 48) (v := (1 : Int32)) dX12_putIs_48 rfl ?_
  obtain ⟨⟨hbq1, hkq1⟩, hq⟩ := mh_oi hq
  obtain ⟨q1, e1, hq⟩ := mh_ob hq
  refine st_invV (pc := 49) (ci := 12) (vs := [.int (1 : Int32)]) (rest := []) (st2 := [.int q1.1]) dX12_putIs_49 okX12_error (by decide) hkq1 hbq1 wd_1274 wd_1276 wp_37 pdX12_error rfl rfl rfl rfl (Nat.le_trans (by decide) hd) (Nat.le_of_ble_eq_true rfl) (T_X12_error (Nat.le_refl _) e1) rfl ?_
  exact bd_iret (pc := 52) hq dX12_putIs_52 rfl
def D_X12_putIs (N : Nat) (h : mh_H) (l0 : Nat) (l1 : Int32) (l2 : Int32) : Option (Int32 × mh_H) :=
  (gR h 12 l0 0).bind fun v1 =>
  (aI h v1 (3 : Int32)).bind fun v2 =>
  (D_X12_in N h l1.toInt64 (0 : Int64) ((v2 - (1 : Int32)).toInt64)).bind fun q3 =>
  if q3.1 = 0 then (D_X12_putIs_47 N q3.2 l0)
  else ((D_X12_in N q3.2 l2.toInt64 (0 : Int64) (3 : Int64)).bind fun q4 =>
  if q4.1 = 0 then (D_X12_putIs_47 N q4.2 l0)
  else ((gR q4.2 12 l0 0).bind fun v5 =>
  (aI q4.2 v5 (((6916 : Int32) + ((4 : Int32) * l1)) + l2)).bind fun v6 =>
  some (v6, q4.2)))
set_option maxHeartbeats 4000000 in
set_option maxRecDepth 100000 in
theorem T_X12_putIs {P : mh_E → Prop} {N d : Nat} (hd : 2 ≤ d) {z : (Int32 × mh_H)} {h : mh_H} {l0 : Nat} {l1 : Int32} {l2 : Int32} (hq : D_X12_putIs N h l0 l1 l2 = some z) : mh_go P d mX12_putIs 0 [some (.ref l0), some (.int l1), some (.int l2)] [] h (some (.int z.1)) z.2 := by
  unfold D_X12_putIs at hq
  refine st_iload_n (pc := 0) dX12_putIs_0 rfl ?_
  refine st_i2l (pc := 1) dX12_putIs_1 ?_
  refine st_lconst (pc := 2) (v := 0) dX12_putIs_2 rfl ?_
  refine st_aload_n (pc := 3) dX12_putIs_3 rfl ?_
  refine bd_getr (pc := 4) hq dX12_putIs_4 fl_12_9_12 rfl (fun v1 hq => ?_)
  refine st_iconst (pc := 7) (v := (3 : Int32)) dX12_putIs_7 rfl ?_
  refine bd_iald (pc := 8) hq dX12_putIs_8 (fun v2 hq => ?_)
  refine st_iconst (pc := 9) (v := (1 : Int32)) dX12_putIs_9 rfl ?_
  refine st_isub (pc := 10) dX12_putIs_10 ?_
  refine st_i2l (pc := 11) dX12_putIs_11 ?_
  obtain ⟨q3, e3, hq⟩ := mh_ob hq
  refine st_invS (pc := 12) (Y := mX12_in) (vs := [.long l1.toInt64, .long (0 : Int64), .long ((v2 - (1 : Int32)).toInt64)]) (rest := []) (st2 := [.int q3.1]) dX12_putIs_12 okX12_in wd_1270 wd_1271 pdX12_in rfl rfl rfl rfl (Nat.le_trans (by decide) hd) (Nat.le_of_ble_eq_true rfl) (T_X12_in (Nat.le_refl _) e3) rfl ?_
  refine bd_if_eq (pc := 15) (tgt := 47) hq dX12_putIs_15 (by decide) (fun _ hq => ?_) (fun _ hq => ?_)
  ·
    refine st_lesS (lv' := [some (.ref l0), none, none]) ⟨Or.inr rfl, Or.inl rfl, Or.inl rfl, trivial⟩ ?_
    exact T_X12_putIs_47 hd hq
  ·
    refine st_iload_n (pc := 18) dX12_putIs_18 rfl ?_
    refine st_i2l (pc := 19) dX12_putIs_19 ?_
    refine st_lconst (pc := 20) (v := 0) dX12_putIs_20 rfl ?_
    refine st_ldc2 (pc := 21) (v := (3 : Int64)) dX12_putIs_21 wd_1269 ?_
    obtain ⟨q4, e4, hq⟩ := mh_ob hq
    refine st_invS (pc := 24) (Y := mX12_in) (vs := [.long l2.toInt64, .long (0 : Int64), .long (3 : Int64)]) (rest := []) (st2 := [.int q4.1]) dX12_putIs_24 okX12_in wd_1270 wd_1271 pdX12_in rfl rfl rfl rfl (Nat.le_trans (by decide) hd) (Nat.le_of_ble_eq_true rfl) (T_X12_in (Nat.le_refl _) e4) rfl ?_
    refine bd_if_eq (pc := 27) (tgt := 47) hq dX12_putIs_27 (by decide) (fun _ hq => ?_) (fun _ hq => ?_)
    ·
      refine st_lesS (lv' := [some (.ref l0), none, none]) ⟨Or.inr rfl, Or.inl rfl, Or.inl rfl, trivial⟩ ?_
      exact T_X12_putIs_47 hd hq
    ·
      refine st_aload_n (pc := 30) dX12_putIs_30 rfl ?_
      refine bd_getr (pc := 31) hq dX12_putIs_31 fl_12_9_12 rfl (fun v5 hq => ?_)
      refine st_sipush (pc := 34) (v := (6916 : Int32)) dX12_putIs_34 (by decide) ?_
      refine st_iconst (pc := 37) (v := (4 : Int32)) dX12_putIs_37 rfl ?_
      refine st_iload_n (pc := 38) dX12_putIs_38 rfl ?_
      refine st_imul (pc := 39) dX12_putIs_39 ?_
      refine st_iadd (pc := 40) dX12_putIs_40 ?_
      refine st_iload_n (pc := 41) dX12_putIs_41 rfl ?_
      refine st_iadd (pc := 42) dX12_putIs_42 ?_
      refine bd_iald (pc := 43) hq dX12_putIs_43 (fun v6 hq => ?_)
      refine st_goto (pc := 44) (tgt := 52) dX12_putIs_44 (by decide) ?_
      exact bd_iret (pc := 52) hq dX12_putIs_52 rfl
-- HoleWaterModel.isSheet(I)Z
theorem dX12_isSheet_0 : decode cX12_isSheet 0 = .ok (.iload_n 0, 1) := by decide +kernel
theorem dX12_isSheet_1 : decode cX12_isSheet 1 = .ok (.i2l, 1) := by decide +kernel
theorem dX12_isSheet_2 : decode cX12_isSheet 2 = .ok (.lconst 0, 1) := by decide +kernel
theorem dX12_isSheet_3 : decode cX12_isSheet 3 = .ok (.ldc2_w 69, 3) := by decide +kernel
theorem dX12_isSheet_6 : decode cX12_isSheet 6 = .ok (.invokestatic 65, 3) := by decide +kernel
theorem dX12_isSheet_9 : decode cX12_isSheet 9 = .ok (.ireturn, 1) := by decide +kernel
def D_X12_isSheet (N : Nat) (h : mh_H) (l0 : Int32) : Option (Int32 × mh_H) :=
  (D_X12_in N h l0.toInt64 (0 : Int64) (3 : Int64)).bind fun q1 =>
  zB q1.1 q1.2
set_option maxHeartbeats 4000000 in
set_option maxRecDepth 100000 in
theorem T_X12_isSheet {P : mh_E → Prop} {N d : Nat} (hd : 2 ≤ d) {z : (Int32 × mh_H)} {h : mh_H} {l0 : Int32} (hq : D_X12_isSheet N h l0 = some z) : mh_go P d mX12_isSheet 0 [some (.int l0)] [] h (some (.int z.1)) z.2 := by
  unfold D_X12_isSheet at hq
  refine st_iload_n (pc := 0) dX12_isSheet_0 rfl ?_
  refine st_i2l (pc := 1) dX12_isSheet_1 ?_
  refine st_lconst (pc := 2) (v := 0) dX12_isSheet_2 rfl ?_
  refine st_ldc2 (pc := 3) (v := (3 : Int64)) dX12_isSheet_3 wd_1269 ?_
  obtain ⟨q1, e1, hq⟩ := mh_ob hq
  refine st_invS (pc := 6) (Y := mX12_in) (vs := [.long l0.toInt64, .long (0 : Int64), .long (3 : Int64)]) (rest := []) (st2 := [.int q1.1]) dX12_isSheet_6 okX12_in wd_1270 wd_1271 pdX12_in rfl rfl rfl rfl (Nat.le_trans (by decide) hd) (Nat.le_of_ble_eq_true rfl) (T_X12_in (Nat.le_refl _) e1) rfl ?_
  exact bd_zret (pc := 9) hq dX12_isSheet_9 rfl
-- HoleWaterModel.pours(IIIII)I
theorem dX12_pours_35 : decode cX12_pours 35 = .ok (.aload_n 0, 1) := by decide +kernel
theorem dX12_pours_36 : decode cX12_pours 36 = .ok (.iconst 1, 1) := by decide +kernel
theorem dX12_pours_37 : decode cX12_pours 37 = .ok (.invokevirtual 80, 3) := by decide +kernel
theorem dX12_pours_40 : decode cX12_pours 40 = .ok (.ireturn, 1) := by decide +kernel
theorem dX12_pours_104 : decode cX12_pours 104 = .ok (.aload_n 0, 1) := by decide +kernel
theorem dX12_pours_105 : decode cX12_pours 105 = .ok (.iconst 1, 1) := by decide +kernel
theorem dX12_pours_106 : decode cX12_pours 106 = .ok (.invokevirtual 80, 3) := by decide +kernel
theorem dX12_pours_109 : decode cX12_pours 109 = .ok (.ireturn, 1) := by decide +kernel
theorem dX12_pours_181 : decode cX12_pours 181 = .ok (.iinc 7 1, 3) := by decide +kernel
theorem dX12_pours_184 : decode cX12_pours 184 = .ok (.goto (-108), 3) := by decide +kernel
theorem dX12_pours_178 : decode cX12_pours 178 = .ok (.iadd, 1) := by decide +kernel
theorem dX12_pours_179 : decode cX12_pours 179 = .ok (.istore 6, 2) := by decide +kernel
theorem dX12_pours_76 : decode cX12_pours 76 = .ok (.iload 7, 2) := by decide +kernel
theorem dX12_pours_78 : decode cX12_pours 78 = .ok (.iload 5, 2) := by decide +kernel
theorem dX12_pours_80 : decode cX12_pours 80 = .ok (.if_icmp .ge 107, 3) := by decide +kernel
theorem dX12_pours_187 : decode cX12_pours 187 = .ok (.iload 6, 2) := by decide +kernel
theorem dX12_pours_189 : decode cX12_pours 189 = .ok (.ireturn, 1) := by decide +kernel
theorem dX12_pours_83 : decode cX12_pours 83 = .ok (.iload 4, 2) := by decide +kernel
theorem dX12_pours_85 : decode cX12_pours 85 = .ok (.ifCond .lt 19, 3) := by decide +kernel
theorem dX12_pours_88 : decode cX12_pours 88 = .ok (.iload 4, 2) := by decide +kernel
theorem dX12_pours_90 : decode cX12_pours 90 = .ok (.aload_n 0, 1) := by decide +kernel
theorem dX12_pours_91 : decode cX12_pours 91 = .ok (.getfield 58, 3) := by decide +kernel
theorem dX12_pours_94 : decode cX12_pours 94 = .ok (.iload_n 3, 1) := by decide +kernel
theorem dX12_pours_95 : decode cX12_pours 95 = .ok (.iaload, 1) := by decide +kernel
theorem dX12_pours_96 : decode cX12_pours 96 = .ok (.iconst 1, 1) := by decide +kernel
theorem dX12_pours_97 : decode cX12_pours 97 = .ok (.isub, 1) := by decide +kernel
theorem dX12_pours_98 : decode cX12_pours 98 = .ok (.iload 7, 2) := by decide +kernel
theorem dX12_pours_100 : decode cX12_pours 100 = .ok (.isub, 1) := by decide +kernel
theorem dX12_pours_101 : decode cX12_pours 101 = .ok (.if_icmp .le 9, 3) := by decide +kernel
theorem dX12_pours_110 : decode cX12_pours 110 = .ok (.aload_n 0, 1) := by decide +kernel
theorem dX12_pours_111 : decode cX12_pours 111 = .ok (.getfield 61, 3) := by decide +kernel
theorem dX12_pours_114 : decode cX12_pours 114 = .ok (.bipush 24, 2) := by decide +kernel
theorem dX12_pours_116 : decode cX12_pours 116 = .ok (.iload_n 3, 1) := by decide +kernel
theorem dX12_pours_117 : decode cX12_pours 117 = .ok (.imul, 1) := by decide +kernel
theorem dX12_pours_118 : decode cX12_pours 118 = .ok (.iload 4, 2) := by decide +kernel
theorem dX12_pours_120 : decode cX12_pours 120 = .ok (.iadd, 1) := by decide +kernel
theorem dX12_pours_121 : decode cX12_pours 121 = .ok (.iload 7, 2) := by decide +kernel
theorem dX12_pours_123 : decode cX12_pours 123 = .ok (.iadd, 1) := by decide +kernel
theorem dX12_pours_124 : decode cX12_pours 124 = .ok (.iaload, 1) := by decide +kernel
theorem dX12_pours_125 : decode cX12_pours 125 = .ok (.istore 8, 2) := by decide +kernel
theorem dX12_pours_127 : decode cX12_pours 127 = .ok (.iload 8, 2) := by decide +kernel
theorem dX12_pours_129 : decode cX12_pours 129 = .ok (.i2l, 1) := by decide +kernel
theorem dX12_pours_130 : decode cX12_pours 130 = .ok (.lconst 1, 1) := by decide +kernel
theorem dX12_pours_131 : decode cX12_pours 131 = .ok (.ldc2_w 163, 3) := by decide +kernel
theorem dX12_pours_134 : decode cX12_pours 134 = .ok (.invokestatic 65, 3) := by decide +kernel
theorem dX12_pours_137 : decode cX12_pours 137 = .ok (.ifCond .ne 6, 3) := by decide +kernel
theorem dX12_pours_140 : decode cX12_pours 140 = .ok (.goto 41, 3) := by decide +kernel
theorem dX12_pours_143 : decode cX12_pours 143 = .ok (.aload_n 0, 1) := by decide +kernel
theorem dX12_pours_144 : decode cX12_pours 144 = .ok (.getfield 9, 3) := by decide +kernel
theorem dX12_pours_147 : decode cX12_pours 147 = .ok (.iconst 3, 1) := by decide +kernel
theorem dX12_pours_148 : decode cX12_pours 148 = .ok (.iaload, 1) := by decide +kernel
theorem dX12_pours_149 : decode cX12_pours 149 = .ok (.bipush 40, 2) := by decide +kernel
theorem dX12_pours_151 : decode cX12_pours 151 = .ok (.if_icmp .ne 9, 3) := by decide +kernel
theorem dX12_pours_154 : decode cX12_pours 154 = .ok (.aload_n 0, 1) := by decide +kernel
theorem dX12_pours_155 : decode cX12_pours 155 = .ok (.iconst 4, 1) := by decide +kernel
theorem dX12_pours_156 : decode cX12_pours 156 = .ok (.invokevirtual 80, 3) := by decide +kernel
theorem dX12_pours_159 : decode cX12_pours 159 = .ok (.ireturn, 1) := by decide +kernel
theorem dX12_pours_160 : decode cX12_pours 160 = .ok (.iload 6, 2) := by decide +kernel
theorem dX12_pours_162 : decode cX12_pours 162 = .ok (.aload_n 0, 1) := by decide +kernel
theorem dX12_pours_163 : decode cX12_pours 163 = .ok (.iload_n 1, 1) := by decide +kernel
theorem dX12_pours_164 : decode cX12_pours 164 = .ok (.iload_n 2, 1) := by decide +kernel
theorem dX12_pours_165 : decode cX12_pours 165 = .ok (.iload 8, 2) := by decide +kernel
theorem dX12_pours_167 : decode cX12_pours 167 = .ok (.invokevirtual 165, 3) := by decide +kernel
theorem dX12_pours_170 : decode cX12_pours 170 = .ok (.ifCond .lt 7, 3) := by decide +kernel
theorem dX12_pours_177 : decode cX12_pours 177 = .ok (.iconst 0, 1) := by decide +kernel
theorem dX12_pours_173 : decode cX12_pours 173 = .ok (.iconst 1, 1) := by decide +kernel
theorem dX12_pours_174 : decode cX12_pours 174 = .ok (.goto 4, 3) := by decide +kernel
theorem dX12_pours_0 : decode cX12_pours 0 = .ok (.aload_n 0, 1) := by decide +kernel
theorem dX12_pours_1 : decode cX12_pours 1 = .ok (.iload_n 1, 1) := by decide +kernel
theorem dX12_pours_2 : decode cX12_pours 2 = .ok (.invokevirtual 83, 3) := by decide +kernel
theorem dX12_pours_5 : decode cX12_pours 5 = .ok (.ifCond .eq 30, 3) := by decide +kernel
theorem dX12_pours_8 : decode cX12_pours 8 = .ok (.iload_n 2, 1) := by decide +kernel
theorem dX12_pours_9 : decode cX12_pours 9 = .ok (.invokestatic 155, 3) := by decide +kernel
theorem dX12_pours_12 : decode cX12_pours 12 = .ok (.ifCond .eq 23, 3) := by decide +kernel
theorem dX12_pours_15 : decode cX12_pours 15 = .ok (.iload_n 3, 1) := by decide +kernel
theorem dX12_pours_16 : decode cX12_pours 16 = .ok (.invokestatic 169, 3) := by decide +kernel
theorem dX12_pours_19 : decode cX12_pours 19 = .ok (.ifCond .eq 16, 3) := by decide +kernel
theorem dX12_pours_22 : decode cX12_pours 22 = .ok (.iload 5, 2) := by decide +kernel
theorem dX12_pours_24 : decode cX12_pours 24 = .ok (.i2l, 1) := by decide +kernel
theorem dX12_pours_25 : decode cX12_pours 25 = .ok (.lconst 0, 1) := by decide +kernel
theorem dX12_pours_26 : decode cX12_pours 26 = .ok (.ldc2_w 172, 3) := by decide +kernel
theorem dX12_pours_29 : decode cX12_pours 29 = .ok (.invokestatic 65, 3) := by decide +kernel
theorem dX12_pours_32 : decode cX12_pours 32 = .ok (.ifCond .ne 9, 3) := by decide +kernel
theorem dX12_pours_41 : decode cX12_pours 41 = .ok (.aload_n 0, 1) := by decide +kernel
theorem dX12_pours_42 : decode cX12_pours 42 = .ok (.iload_n 1, 1) := by decide +kernel
theorem dX12_pours_43 : decode cX12_pours 43 = .ok (.invokevirtual 96, 3) := by decide +kernel
theorem dX12_pours_46 : decode cX12_pours 46 = .ok (.ifCond .ne 9, 3) := by decide +kernel
theorem dX12_pours_49 : decode cX12_pours 49 = .ok (.aload_n 0, 1) := by decide +kernel
theorem dX12_pours_50 : decode cX12_pours 50 = .ok (.iconst 5, 1) := by decide +kernel
theorem dX12_pours_51 : decode cX12_pours 51 = .ok (.invokevirtual 80, 3) := by decide +kernel
theorem dX12_pours_54 : decode cX12_pours 54 = .ok (.ireturn, 1) := by decide +kernel
theorem dX12_pours_55 : decode cX12_pours 55 = .ok (.aload_n 0, 1) := by decide +kernel
theorem dX12_pours_56 : decode cX12_pours 56 = .ok (.getfield 55, 3) := by decide +kernel
theorem dX12_pours_59 : decode cX12_pours 59 = .ok (.iload_n 3, 1) := by decide +kernel
theorem dX12_pours_60 : decode cX12_pours 60 = .ok (.iaload, 1) := by decide +kernel
theorem dX12_pours_61 : decode cX12_pours 61 = .ok (.ifCond .ne 9, 3) := by decide +kernel
theorem dX12_pours_64 : decode cX12_pours 64 = .ok (.aload_n 0, 1) := by decide +kernel
theorem dX12_pours_65 : decode cX12_pours 65 = .ok (.iconst 2, 1) := by decide +kernel
theorem dX12_pours_66 : decode cX12_pours 66 = .ok (.invokevirtual 80, 3) := by decide +kernel
theorem dX12_pours_69 : decode cX12_pours 69 = .ok (.ireturn, 1) := by decide +kernel
theorem dX12_pours_70 : decode cX12_pours 70 = .ok (.iconst 0, 1) := by decide +kernel
theorem dX12_pours_71 : decode cX12_pours 71 = .ok (.istore 6, 2) := by decide +kernel
theorem dX12_pours_73 : decode cX12_pours 73 = .ok (.iconst 0, 1) := by decide +kernel
theorem dX12_pours_74 : decode cX12_pours 74 = .ok (.istore 7, 2) := by decide +kernel
def D_X12_pours_35 (N : Nat) (h : mh_H) (l0 : Nat) : Option (Int32 × mh_H) :=
  kO h 12 l0 <|
  (D_X12_error N h l0 (1 : Int32)).bind fun q1 =>
  some (q1.1, q1.2)
set_option maxHeartbeats 4000000 in
set_option maxRecDepth 100000 in
theorem T_X12_pours_35 {P : mh_E → Prop} {N d : Nat} (hd : 4 ≤ d) {z : (Int32 × mh_H)} {h : mh_H} {l0 : Nat} (hq : D_X12_pours_35 N h l0 = some z) : mh_go P d mX12_pours 35 [some (.ref l0), none, none, none, none, none, none, none, none] [] h (some (.int z.1)) z.2 := by
  unfold D_X12_pours_35 at hq
  refine st_aload_n (pc := 35) dX12_pours_35 rfl ?_
  refine st_iconst (pc := 36) (v := (1 : Int32)) dX12_pours_36 rfl ?_
  obtain ⟨⟨hbq1, hkq1⟩, hq⟩ := mh_oi hq
  obtain ⟨q1, e1, hq⟩ := mh_ob hq
  refine st_invV (pc := 37) (ci := 12) (vs := [.int (1 : Int32)]) (rest := []) (st2 := [.int q1.1]) dX12_pours_37 okX12_error (by decide) hkq1 hbq1 wd_1274 wd_1276 wp_37 pdX12_error rfl rfl rfl rfl (Nat.le_trans (by decide) hd) (Nat.le_of_ble_eq_true rfl) (T_X12_error (Nat.le_refl _) e1) rfl ?_
  exact bd_iret (pc := 40) hq dX12_pours_40 rfl
def D_X12_pours_104 (N : Nat) (h : mh_H) (l0 : Nat) : Option (Int32 × mh_H) :=
  kO h 12 l0 <|
  (D_X12_error N h l0 (1 : Int32)).bind fun q1 =>
  some (q1.1, q1.2)
set_option maxHeartbeats 4000000 in
set_option maxRecDepth 100000 in
theorem T_X12_pours_104 {P : mh_E → Prop} {N d : Nat} (hd : 4 ≤ d) {z : (Int32 × mh_H)} {h : mh_H} {l0 : Nat} (hq : D_X12_pours_104 N h l0 = some z) : mh_go P d mX12_pours 104 [some (.ref l0), none, none, none, none, none, none, none, none] [] h (some (.int z.1)) z.2 := by
  unfold D_X12_pours_104 at hq
  refine st_aload_n (pc := 104) dX12_pours_104 rfl ?_
  refine st_iconst (pc := 105) (v := (1 : Int32)) dX12_pours_105 rfl ?_
  obtain ⟨⟨hbq1, hkq1⟩, hq⟩ := mh_oi hq
  obtain ⟨q1, e1, hq⟩ := mh_ob hq
  refine st_invV (pc := 106) (ci := 12) (vs := [.int (1 : Int32)]) (rest := []) (st2 := [.int q1.1]) dX12_pours_106 okX12_error (by decide) hkq1 hbq1 wd_1274 wd_1276 wp_37 pdX12_error rfl rfl rfl rfl (Nat.le_trans (by decide) hd) (Nat.le_of_ble_eq_true rfl) (T_X12_error (Nat.le_refl _) e1) rfl ?_
  exact bd_iret (pc := 109) hq dX12_pours_109 rfl
def D_X12_pours_181 (N : Nat) (k76 : mh_H → Nat → Int32 → Int32 → Int32 → Int32 → Int32 → Int32 → Int32 → Option (Int32 × mh_H)) (h : mh_H) (l0 : Nat) (l1 : Int32) (l2 : Int32) (l3 : Int32) (l4 : Int32) (l5 : Int32) (l6 : Int32) (l7 : Int32) : Option (Int32 × mh_H) :=
  k76 h l0 l1 l2 l3 l4 l5 l6 (l7 + Int32.ofInt (1))
set_option maxHeartbeats 4000000 in
set_option maxRecDepth 100000 in
theorem T_X12_pours_181 {P : mh_E → Prop} {N d : Nat} (hd : 4 ≤ d) {z : (Int32 × mh_H)} {k76 : mh_H → Nat → Int32 → Int32 → Int32 → Int32 → Int32 → Int32 → Int32 → Option (Int32 × mh_H)} (hk76 : ∀ (h : mh_H) (l0 : Nat) (l1 : Int32) (l2 : Int32) (l3 : Int32) (l4 : Int32) (l5 : Int32) (l6 : Int32) (l7 : Int32), k76 h l0 l1 l2 l3 l4 l5 l6 l7 = some z → mh_go P d mX12_pours 76 [some (.ref l0), some (.int l1), some (.int l2), some (.int l3), some (.int l4), some (.int l5), some (.int l6), some (.int l7), none] [] h (some (.int z.1)) z.2) {h : mh_H} {l0 : Nat} {l1 : Int32} {l2 : Int32} {l3 : Int32} {l4 : Int32} {l5 : Int32} {l6 : Int32} {l7 : Int32} (hq : D_X12_pours_181 N k76 h l0 l1 l2 l3 l4 l5 l6 l7 = some z) : mh_go P d mX12_pours 181 [some (.ref l0), some (.int l1), some (.int l2), some (.int l3), some (.int l4), some (.int l5), some (.int l6), some (.int l7), none] [] h (some (.int z.1)) z.2 := by
  unfold D_X12_pours_181 at hq
  refine st_iinc (pc := 181) (lv' := [some (.ref l0), some (.int l1), some (.int l2), some (.int l3), some (.int l4), some (.int l5), some (.int l6), some (.int (l7 + Int32.ofInt (1))), none]) dX12_pours_181 rfl rfl (by decide) rfl ?_
  refine st_goto (pc := 184) (tgt := 76) dX12_pours_184 (by decide) ?_
  exact hk76 _ _ _ _ _ _ _ _ _ hq
def D_X12_pours_178 (N : Nat) (k76 : mh_H → Nat → Int32 → Int32 → Int32 → Int32 → Int32 → Int32 → Int32 → Option (Int32 × mh_H)) (h : mh_H) (l0 : Nat) (l1 : Int32) (l2 : Int32) (l3 : Int32) (l4 : Int32) (l5 : Int32) (l7 : Int32) (s0 : Int32) (s1 : Int32) : Option (Int32 × mh_H) :=
  D_X12_pours_181 N k76 h l0 l1 l2 l3 l4 l5 (s0 + s1) l7
set_option maxHeartbeats 4000000 in
set_option maxRecDepth 100000 in
theorem T_X12_pours_178 {P : mh_E → Prop} {N d : Nat} (hd : 4 ≤ d) {z : (Int32 × mh_H)} {k76 : mh_H → Nat → Int32 → Int32 → Int32 → Int32 → Int32 → Int32 → Int32 → Option (Int32 × mh_H)} (hk76 : ∀ (h : mh_H) (l0 : Nat) (l1 : Int32) (l2 : Int32) (l3 : Int32) (l4 : Int32) (l5 : Int32) (l6 : Int32) (l7 : Int32), k76 h l0 l1 l2 l3 l4 l5 l6 l7 = some z → mh_go P d mX12_pours 76 [some (.ref l0), some (.int l1), some (.int l2), some (.int l3), some (.int l4), some (.int l5), some (.int l6), some (.int l7), none] [] h (some (.int z.1)) z.2) {h : mh_H} {l0 : Nat} {l1 : Int32} {l2 : Int32} {l3 : Int32} {l4 : Int32} {l5 : Int32} {l7 : Int32} {s0 : Int32} {s1 : Int32} (hq : D_X12_pours_178 N k76 h l0 l1 l2 l3 l4 l5 l7 s0 s1 = some z) : mh_go P d mX12_pours 178 [some (.ref l0), some (.int l1), some (.int l2), some (.int l3), some (.int l4), some (.int l5), none, some (.int l7), none] [.int s1, .int s0] h (some (.int z.1)) z.2 := by
  unfold D_X12_pours_178 at hq
  refine st_iadd (pc := 178) dX12_pours_178 ?_
  refine st_istore (pc := 179) (lv' := [some (.ref l0), some (.int l1), some (.int l2), some (.int l3), some (.int l4), some (.int l5), some (.int (s0 + s1)), some (.int l7), none]) dX12_pours_179 rfl (by decide) rfl ?_
  exact T_X12_pours_181 hd hk76 hq
def D_X12_pours_76 (N : Nat) : Nat → mh_H → Nat → Int32 → Int32 → Int32 → Int32 → Int32 → Int32 → Int32 → Option (Int32 × mh_H)
  | 0, _, _, _, _, _, _, _, _, _ => none
  | F + 1, h, l0, l1, l2, l3, l4, l5, l6, l7 =>
    if l5 ≤ l7 then (some (l6, h))
    else (if l4 < 0 then (D_X12_pours_104 N h l0)
    else ((gR h 12 l0 28).bind fun v1 =>
    (aI h v1 l3).bind fun v2 =>
    if l4 ≤ ((v2 - (1 : Int32)) - l7) then ((gR h 12 l0 29).bind fun v3 =>
    (aI h v3 ((((24 : Int32) * l3) + l4) + l7)).bind fun v4 =>
    (D_X12_in N h v4.toInt64 (1 : Int64) (9999 : Int64)).bind fun q5 =>
    if q5.1 = 0 then (D_X12_pours_181 N (D_X12_pours_76 N F) q5.2 l0 l1 l2 l3 l4 l5 l6 l7)
    else ((gR q5.2 12 l0 0).bind fun v6 =>
    (aI q5.2 v6 (3 : Int32)).bind fun v7 =>
    if v7 = (40 : Int32) then (kO q5.2 12 l0 <|
    (D_X12_error N q5.2 l0 (4 : Int32)).bind fun q8 =>
    some (q8.1, q8.2))
    else (kO q5.2 12 l0 <|
    (D_X12_puts N q5.2 l0 l1 l2 v4).bind fun q8 =>
    if q8.1 < 0 then (D_X12_pours_178 N (D_X12_pours_76 N F) q8.2 l0 l1 l2 l3 l4 l5 l7 l6 (0 : Int32))
    else (D_X12_pours_178 N (D_X12_pours_76 N F) q8.2 l0 l1 l2 l3 l4 l5 l7 l6 (1 : Int32)))))
    else (D_X12_pours_104 N h l0)))
set_option maxHeartbeats 4000000 in
set_option maxRecDepth 100000 in
theorem T_X12_pours_76 {P : mh_E → Prop} {N d : Nat} (hd : 4 ≤ d) {z : (Int32 × mh_H)} : ∀ (F : Nat) (h : mh_H) (l0 : Nat) (l1 : Int32) (l2 : Int32) (l3 : Int32) (l4 : Int32) (l5 : Int32) (l6 : Int32) (l7 : Int32), D_X12_pours_76 N F h l0 l1 l2 l3 l4 l5 l6 l7 = some z → mh_go P d mX12_pours 76 [some (.ref l0), some (.int l1), some (.int l2), some (.int l3), some (.int l4), some (.int l5), some (.int l6), some (.int l7), none] [] h (some (.int z.1)) z.2 := by
  intro F
  induction F with
  | zero => intro h l0 l1 l2 l3 l4 l5 l6 l7 hq; rw [D_X12_pours_76] at hq; cases hq
  | succ F ih =>
    intro h l0 l1 l2 l3 l4 l5 l6 l7 hq
    rw [D_X12_pours_76] at hq
    refine st_iload (pc := 76) dX12_pours_76 rfl ?_
    refine st_iload (pc := 78) dX12_pours_78 rfl ?_
    refine bd_icmp_ge (pc := 80) (tgt := 187) hq dX12_pours_80 (by decide) (fun _ hq => ?_) (fun _ hq => ?_)
    ·
      refine st_iload (pc := 187) dX12_pours_187 rfl ?_
      exact bd_iret (pc := 189) hq dX12_pours_189 rfl
    ·
      refine st_iload (pc := 83) dX12_pours_83 rfl ?_
      refine bd_if_lt (pc := 85) (tgt := 104) hq dX12_pours_85 (by decide) (fun _ hq => ?_) (fun _ hq => ?_)
      ·
        refine st_lesS (lv' := [some (.ref l0), none, none, none, none, none, none, none, none]) ⟨Or.inr rfl, Or.inl rfl, Or.inl rfl, Or.inl rfl, Or.inl rfl, Or.inl rfl, Or.inl rfl, Or.inl rfl, Or.inr rfl, trivial⟩ ?_
        exact T_X12_pours_104 hd hq
      ·
        refine st_iload (pc := 88) dX12_pours_88 rfl ?_
        refine st_aload_n (pc := 90) dX12_pours_90 rfl ?_
        refine bd_getr (pc := 91) hq dX12_pours_91 fl_12_58_12 rfl (fun v1 hq => ?_)
        refine st_iload_n (pc := 94) dX12_pours_94 rfl ?_
        refine bd_iald (pc := 95) hq dX12_pours_95 (fun v2 hq => ?_)
        refine st_iconst (pc := 96) (v := (1 : Int32)) dX12_pours_96 rfl ?_
        refine st_isub (pc := 97) dX12_pours_97 ?_
        refine st_iload (pc := 98) dX12_pours_98 rfl ?_
        refine st_isub (pc := 100) dX12_pours_100 ?_
        refine bd_icmp_le (pc := 101) (tgt := 110) hq dX12_pours_101 (by decide) (fun _ hq => ?_) (fun _ hq => ?_)
        ·
          refine st_aload_n (pc := 110) dX12_pours_110 rfl ?_
          refine bd_getr (pc := 111) hq dX12_pours_111 fl_12_61_12 rfl (fun v3 hq => ?_)
          refine st_bipush (pc := 114) (v := (24 : Int32)) dX12_pours_114 (by decide) ?_
          refine st_iload_n (pc := 116) dX12_pours_116 rfl ?_
          refine st_imul (pc := 117) dX12_pours_117 ?_
          refine st_iload (pc := 118) dX12_pours_118 rfl ?_
          refine st_iadd (pc := 120) dX12_pours_120 ?_
          refine st_iload (pc := 121) dX12_pours_121 rfl ?_
          refine st_iadd (pc := 123) dX12_pours_123 ?_
          refine bd_iald (pc := 124) hq dX12_pours_124 (fun v4 hq => ?_)
          refine st_istore (pc := 125) (lv' := [some (.ref l0), some (.int l1), some (.int l2), some (.int l3), some (.int l4), some (.int l5), some (.int l6), some (.int l7), some (.int v4)]) dX12_pours_125 rfl (by decide) rfl ?_
          refine st_iload (pc := 127) dX12_pours_127 rfl ?_
          refine st_i2l (pc := 129) dX12_pours_129 ?_
          refine st_lconst (pc := 130) (v := 1) dX12_pours_130 rfl ?_
          refine st_ldc2 (pc := 131) (v := (9999 : Int64)) dX12_pours_131 wd_1427 ?_
          obtain ⟨q5, e5, hq⟩ := mh_ob hq
          refine st_invS (pc := 134) (Y := mX12_in) (vs := [.long v4.toInt64, .long (1 : Int64), .long (9999 : Int64)]) (rest := []) (st2 := [.int q5.1]) dX12_pours_134 okX12_in wd_1270 wd_1271 pdX12_in rfl rfl rfl rfl (Nat.le_trans (by decide) hd) (Nat.le_of_ble_eq_true rfl) (T_X12_in (Nat.le_refl _) e5) rfl ?_
          refine bd_if_ne (pc := 137) (tgt := 143) hq dX12_pours_137 (by decide) (fun _ hq => ?_) (fun _ hq => ?_)
          ·
            refine st_goto (pc := 140) (tgt := 181) dX12_pours_140 (by decide) ?_
            refine st_lesS (lv' := [some (.ref l0), some (.int l1), some (.int l2), some (.int l3), some (.int l4), some (.int l5), some (.int l6), some (.int l7), none]) ⟨Or.inr rfl, Or.inr rfl, Or.inr rfl, Or.inr rfl, Or.inr rfl, Or.inr rfl, Or.inr rfl, Or.inr rfl, Or.inl rfl, trivial⟩ ?_
            exact T_X12_pours_181 hd ih hq
          ·
            refine st_aload_n (pc := 143) dX12_pours_143 rfl ?_
            refine bd_getr (pc := 144) hq dX12_pours_144 fl_12_9_12 rfl (fun v6 hq => ?_)
            refine st_iconst (pc := 147) (v := (3 : Int32)) dX12_pours_147 rfl ?_
            refine bd_iald (pc := 148) hq dX12_pours_148 (fun v7 hq => ?_)
            refine st_bipush (pc := 149) (v := (40 : Int32)) dX12_pours_149 (by decide) ?_
            refine bd_icmp_ne (pc := 151) (tgt := 160) hq dX12_pours_151 (by decide) (fun _ hq => ?_) (fun _ hq => ?_)
            ·
              refine st_aload_n (pc := 154) dX12_pours_154 rfl ?_
              refine st_iconst (pc := 155) (v := (4 : Int32)) dX12_pours_155 rfl ?_
              obtain ⟨⟨hbq8, hkq8⟩, hq⟩ := mh_oi hq
              obtain ⟨q8, e8, hq⟩ := mh_ob hq
              refine st_invV (pc := 156) (ci := 12) (vs := [.int (4 : Int32)]) (rest := []) (st2 := [.int q8.1]) dX12_pours_156 okX12_error (by decide) hkq8 hbq8 wd_1274 wd_1276 wp_37 pdX12_error rfl rfl rfl rfl (Nat.le_trans (by decide) hd) (Nat.le_of_ble_eq_true rfl) (T_X12_error (Nat.le_refl _) e8) rfl ?_
              exact bd_iret (pc := 159) hq dX12_pours_159 rfl
            ·
              refine st_iload (pc := 160) dX12_pours_160 rfl ?_
              refine st_aload_n (pc := 162) dX12_pours_162 rfl ?_
              refine st_iload_n (pc := 163) dX12_pours_163 rfl ?_
              refine st_iload_n (pc := 164) dX12_pours_164 rfl ?_
              refine st_iload (pc := 165) dX12_pours_165 rfl ?_
              obtain ⟨⟨hbq8, hkq8⟩, hq⟩ := mh_oi hq
              obtain ⟨q8, e8, hq⟩ := mh_ob hq
              refine st_invV (pc := 167) (ci := 12) (vs := [.int l1, .int l2, .int v4]) (rest := [.int l6]) (st2 := [.int q8.1, .int l6]) dX12_pours_167 okX12_puts (by decide) hkq8 hbq8 wd_1428 wd_1430 wp_58 pdX12_puts rfl rfl rfl rfl (Nat.le_trans (by decide) hd) (Nat.le_of_ble_eq_true rfl) (T_X12_puts (Nat.le_refl _) e8) rfl ?_
              refine bd_if_lt (pc := 170) (tgt := 177) hq dX12_pours_170 (by decide) (fun _ hq => ?_) (fun _ hq => ?_)
              ·
                refine st_iconst (pc := 177) (v := (0 : Int32)) dX12_pours_177 rfl ?_
                refine st_lesS (lv' := [some (.ref l0), some (.int l1), some (.int l2), some (.int l3), some (.int l4), some (.int l5), none, some (.int l7), none]) ⟨Or.inr rfl, Or.inr rfl, Or.inr rfl, Or.inr rfl, Or.inr rfl, Or.inr rfl, Or.inl rfl, Or.inr rfl, Or.inl rfl, trivial⟩ ?_
                exact T_X12_pours_178 hd ih hq
              ·
                refine st_iconst (pc := 173) (v := (1 : Int32)) dX12_pours_173 rfl ?_
                refine st_goto (pc := 174) (tgt := 178) dX12_pours_174 (by decide) ?_
                refine st_lesS (lv' := [some (.ref l0), some (.int l1), some (.int l2), some (.int l3), some (.int l4), some (.int l5), none, some (.int l7), none]) ⟨Or.inr rfl, Or.inr rfl, Or.inr rfl, Or.inr rfl, Or.inr rfl, Or.inr rfl, Or.inl rfl, Or.inr rfl, Or.inl rfl, trivial⟩ ?_
                exact T_X12_pours_178 hd ih hq
        ·
          refine st_lesS (lv' := [some (.ref l0), none, none, none, none, none, none, none, none]) ⟨Or.inr rfl, Or.inl rfl, Or.inl rfl, Or.inl rfl, Or.inl rfl, Or.inl rfl, Or.inl rfl, Or.inl rfl, Or.inr rfl, trivial⟩ ?_
          exact T_X12_pours_104 hd hq
def D_X12_pours (N : Nat) (h : mh_H) (l0 : Nat) (l1 : Int32) (l2 : Int32) (l3 : Int32) (l4 : Int32) (l5 : Int32) : Option (Int32 × mh_H) :=
  kO h 12 l0 <|
  (D_X12_isJoint N h l0 l1).bind fun q1 =>
  if q1.1 = 0 then (D_X12_pours_35 N q1.2 l0)
  else ((D_X12_isColour N q1.2 l2).bind fun q2 =>
  if q2.1 = 0 then (D_X12_pours_35 N q2.2 l0)
  else ((D_X12_isSheet N q2.2 l3).bind fun q3 =>
  if q3.1 = 0 then (D_X12_pours_35 N q3.2 l0)
  else ((D_X12_in N q3.2 l5.toInt64 (0 : Int64) (9 : Int64)).bind fun q4 =>
  if q4.1 = 0 then (D_X12_pours_35 N q4.2 l0)
  else (kO q4.2 12 l0 <|
  (D_X12_isHole N q4.2 l0 l1).bind fun q5 =>
  if q5.1 = 0 then (kO q5.2 12 l0 <|
  (D_X12_error N q5.2 l0 (5 : Int32)).bind fun q6 =>
  some (q6.1, q6.2))
  else ((gR q5.2 12 l0 27).bind fun v6 =>
  (aI q5.2 v6 l3).bind fun v7 =>
  if v7 = 0 then (kO q5.2 12 l0 <|
  (D_X12_error N q5.2 l0 (2 : Int32)).bind fun q8 =>
  some (q8.1, q8.2))
  else (D_X12_pours_76 N N q5.2 l0 l1 l2 l3 l4 l5 (0 : Int32) (0 : Int32)))))))
set_option maxHeartbeats 4000000 in
set_option maxRecDepth 100000 in
theorem T_X12_pours {P : mh_E → Prop} {N d : Nat} (hd : 4 ≤ d) {z : (Int32 × mh_H)} {h : mh_H} {l0 : Nat} {l1 : Int32} {l2 : Int32} {l3 : Int32} {l4 : Int32} {l5 : Int32} (hq : D_X12_pours N h l0 l1 l2 l3 l4 l5 = some z) : mh_go P d mX12_pours 0 [some (.ref l0), some (.int l1), some (.int l2), some (.int l3), some (.int l4), some (.int l5), none, none, none] [] h (some (.int z.1)) z.2 := by
  unfold D_X12_pours at hq
  refine st_aload_n (pc := 0) dX12_pours_0 rfl ?_
  refine st_iload_n (pc := 1) dX12_pours_1 rfl ?_
  obtain ⟨⟨hbq1, hkq1⟩, hq⟩ := mh_oi hq
  obtain ⟨q1, e1, hq⟩ := mh_ob hq
  refine st_invV (pc := 2) (ci := 12) (vs := [.int l1]) (rest := []) (st2 := [.int q1.1]) dX12_pours_2 okX12_isJoint (by decide) hkq1 hbq1 wd_1286 wd_1288 wp_38 pdX12_isJoint rfl rfl rfl rfl (Nat.le_trans (by decide) hd) (Nat.le_of_ble_eq_true rfl) (T_X12_isJoint (Nat.le_refl _) e1) rfl ?_
  refine bd_if_eq (pc := 5) (tgt := 35) hq dX12_pours_5 (by decide) (fun _ hq => ?_) (fun _ hq => ?_)
  ·
    refine st_lesS (lv' := [some (.ref l0), none, none, none, none, none, none, none, none]) ⟨Or.inr rfl, Or.inl rfl, Or.inl rfl, Or.inl rfl, Or.inl rfl, Or.inl rfl, Or.inr rfl, Or.inr rfl, Or.inr rfl, trivial⟩ ?_
    exact T_X12_pours_35 hd hq
  ·
    refine st_iload_n (pc := 8) dX12_pours_8 rfl ?_
    obtain ⟨q2, e2, hq⟩ := mh_ob hq
    refine st_invS (pc := 9) (Y := mX12_isColour) (vs := [.int l2]) (rest := []) (st2 := [.int q2.1]) dX12_pours_9 okX12_isColour wd_1358 wd_1359 pdX12_isColour rfl rfl rfl rfl (Nat.le_trans (by decide) hd) (Nat.le_of_ble_eq_true rfl) (T_X12_isColour (Nat.le_refl _) e2) rfl ?_
    refine bd_if_eq (pc := 12) (tgt := 35) hq dX12_pours_12 (by decide) (fun _ hq => ?_) (fun _ hq => ?_)
    ·
      refine st_lesS (lv' := [some (.ref l0), none, none, none, none, none, none, none, none]) ⟨Or.inr rfl, Or.inl rfl, Or.inl rfl, Or.inl rfl, Or.inl rfl, Or.inl rfl, Or.inr rfl, Or.inr rfl, Or.inr rfl, trivial⟩ ?_
      exact T_X12_pours_35 hd hq
    ·
      refine st_iload_n (pc := 15) dX12_pours_15 rfl ?_
      obtain ⟨q3, e3, hq⟩ := mh_ob hq
      refine st_invS (pc := 16) (Y := mX12_isSheet) (vs := [.int l3]) (rest := []) (st2 := [.int q3.1]) dX12_pours_16 okX12_isSheet wd_1440 wd_1441 pdX12_isSheet rfl rfl rfl rfl (Nat.le_trans (by decide) hd) (Nat.le_of_ble_eq_true rfl) (T_X12_isSheet (Nat.le_refl _) e3) rfl ?_
      refine bd_if_eq (pc := 19) (tgt := 35) hq dX12_pours_19 (by decide) (fun _ hq => ?_) (fun _ hq => ?_)
      ·
        refine st_lesS (lv' := [some (.ref l0), none, none, none, none, none, none, none, none]) ⟨Or.inr rfl, Or.inl rfl, Or.inl rfl, Or.inl rfl, Or.inl rfl, Or.inl rfl, Or.inr rfl, Or.inr rfl, Or.inr rfl, trivial⟩ ?_
        exact T_X12_pours_35 hd hq
      ·
        refine st_iload (pc := 22) dX12_pours_22 rfl ?_
        refine st_i2l (pc := 24) dX12_pours_24 ?_
        refine st_lconst (pc := 25) (v := 0) dX12_pours_25 rfl ?_
        refine st_ldc2 (pc := 26) (v := (9 : Int64)) dX12_pours_26 wd_1443 ?_
        obtain ⟨q4, e4, hq⟩ := mh_ob hq
        refine st_invS (pc := 29) (Y := mX12_in) (vs := [.long l5.toInt64, .long (0 : Int64), .long (9 : Int64)]) (rest := []) (st2 := [.int q4.1]) dX12_pours_29 okX12_in wd_1270 wd_1271 pdX12_in rfl rfl rfl rfl (Nat.le_trans (by decide) hd) (Nat.le_of_ble_eq_true rfl) (T_X12_in (Nat.le_refl _) e4) rfl ?_
        refine bd_if_ne (pc := 32) (tgt := 41) hq dX12_pours_32 (by decide) (fun _ hq => ?_) (fun _ hq => ?_)
        ·
          refine st_lesS (lv' := [some (.ref l0), none, none, none, none, none, none, none, none]) ⟨Or.inr rfl, Or.inl rfl, Or.inl rfl, Or.inl rfl, Or.inl rfl, Or.inl rfl, Or.inr rfl, Or.inr rfl, Or.inr rfl, trivial⟩ ?_
          exact T_X12_pours_35 hd hq
        ·
          refine st_aload_n (pc := 41) dX12_pours_41 rfl ?_
          refine st_iload_n (pc := 42) dX12_pours_42 rfl ?_
          obtain ⟨⟨hbq5, hkq5⟩, hq⟩ := mh_oi hq
          obtain ⟨q5, e5, hq⟩ := mh_ob hq
          refine st_invV (pc := 43) (ci := 12) (vs := [.int l1]) (rest := []) (st2 := [.int q5.1]) dX12_pours_43 okX12_isHole (by decide) hkq5 hbq5 wd_1305 wd_1307 wp_41 pdX12_isHole rfl rfl rfl rfl (Nat.le_trans (by decide) hd) (Nat.le_of_ble_eq_true rfl) (T_X12_isHole (Nat.le_refl _) e5) rfl ?_
          refine bd_if_ne (pc := 46) (tgt := 55) hq dX12_pours_46 (by decide) (fun _ hq => ?_) (fun _ hq => ?_)
          ·
            refine st_aload_n (pc := 49) dX12_pours_49 rfl ?_
            refine st_iconst (pc := 50) (v := (5 : Int32)) dX12_pours_50 rfl ?_
            obtain ⟨⟨hbq6, hkq6⟩, hq⟩ := mh_oi hq
            obtain ⟨q6, e6, hq⟩ := mh_ob hq
            refine st_invV (pc := 51) (ci := 12) (vs := [.int (5 : Int32)]) (rest := []) (st2 := [.int q6.1]) dX12_pours_51 okX12_error (by decide) hkq6 hbq6 wd_1274 wd_1276 wp_37 pdX12_error rfl rfl rfl rfl (Nat.le_trans (by decide) hd) (Nat.le_of_ble_eq_true rfl) (T_X12_error (Nat.le_refl _) e6) rfl ?_
            exact bd_iret (pc := 54) hq dX12_pours_54 rfl
          ·
            refine st_aload_n (pc := 55) dX12_pours_55 rfl ?_
            refine bd_getr (pc := 56) hq dX12_pours_56 fl_12_55_12 rfl (fun v6 hq => ?_)
            refine st_iload_n (pc := 59) dX12_pours_59 rfl ?_
            refine bd_iald (pc := 60) hq dX12_pours_60 (fun v7 hq => ?_)
            refine bd_if_ne (pc := 61) (tgt := 70) hq dX12_pours_61 (by decide) (fun _ hq => ?_) (fun _ hq => ?_)
            ·
              refine st_aload_n (pc := 64) dX12_pours_64 rfl ?_
              refine st_iconst (pc := 65) (v := (2 : Int32)) dX12_pours_65 rfl ?_
              obtain ⟨⟨hbq8, hkq8⟩, hq⟩ := mh_oi hq
              obtain ⟨q8, e8, hq⟩ := mh_ob hq
              refine st_invV (pc := 66) (ci := 12) (vs := [.int (2 : Int32)]) (rest := []) (st2 := [.int q8.1]) dX12_pours_66 okX12_error (by decide) hkq8 hbq8 wd_1274 wd_1276 wp_37 pdX12_error rfl rfl rfl rfl (Nat.le_trans (by decide) hd) (Nat.le_of_ble_eq_true rfl) (T_X12_error (Nat.le_refl _) e8) rfl ?_
              exact bd_iret (pc := 69) hq dX12_pours_69 rfl
            ·
              refine st_iconst (pc := 70) (v := (0 : Int32)) dX12_pours_70 rfl ?_
              refine st_istore (pc := 71) (lv' := [some (.ref l0), some (.int l1), some (.int l2), some (.int l3), some (.int l4), some (.int l5), some (.int (0 : Int32)), none, none]) dX12_pours_71 rfl (by decide) rfl ?_
              refine st_iconst (pc := 73) (v := (0 : Int32)) dX12_pours_73 rfl ?_
              refine st_istore (pc := 74) (lv' := [some (.ref l0), some (.int l1), some (.int l2), some (.int l3), some (.int l4), some (.int l5), some (.int (0 : Int32)), some (.int (0 : Int32)), none]) dX12_pours_74 rfl (by decide) rfl ?_
              exact T_X12_pours_76 hd N _ _ _ _ _ _ _ _ _ hq
-- HoleWaterModel.grains(II)I
theorem dX12_grains_32 : decode cX12_grains 32 = .ok (.aload_n 0, 1) := by decide +kernel
theorem dX12_grains_33 : decode cX12_grains 33 = .ok (.iconst 1, 1) := by decide +kernel
theorem dX12_grains_34 : decode cX12_grains 34 = .ok (.invokevirtual 80, 3) := by decide +kernel
theorem dX12_grains_37 : decode cX12_grains 37 = .ok (.ireturn, 1) := by decide +kernel
theorem dX12_grains_0 : decode cX12_grains 0 = .ok (.aload_n 0, 1) := by decide +kernel
theorem dX12_grains_1 : decode cX12_grains 1 = .ok (.iload_n 1, 1) := by decide +kernel
theorem dX12_grains_2 : decode cX12_grains 2 = .ok (.invokevirtual 83, 3) := by decide +kernel
theorem dX12_grains_5 : decode cX12_grains 5 = .ok (.ifCond .eq 27, 3) := by decide +kernel
theorem dX12_grains_8 : decode cX12_grains 8 = .ok (.iload_n 2, 1) := by decide +kernel
theorem dX12_grains_9 : decode cX12_grains 9 = .ok (.invokestatic 155, 3) := by decide +kernel
theorem dX12_grains_12 : decode cX12_grains 12 = .ok (.ifCond .eq 20, 3) := by decide +kernel
theorem dX12_grains_15 : decode cX12_grains 15 = .ok (.aload_n 0, 1) := by decide +kernel
theorem dX12_grains_16 : decode cX12_grains 16 = .ok (.getfield 9, 3) := by decide +kernel
theorem dX12_grains_19 : decode cX12_grains 19 = .ok (.iload_n 1, 1) := by decide +kernel
theorem dX12_grains_20 : decode cX12_grains 20 = .ok (.invokestatic 71, 3) := by decide +kernel
theorem dX12_grains_23 : decode cX12_grains 23 = .ok (.bipush 7, 2) := by decide +kernel
theorem dX12_grains_25 : decode cX12_grains 25 = .ok (.iadd, 1) := by decide +kernel
theorem dX12_grains_26 : decode cX12_grains 26 = .ok (.iload_n 2, 1) := by decide +kernel
theorem dX12_grains_27 : decode cX12_grains 27 = .ok (.iadd, 1) := by decide +kernel
theorem dX12_grains_28 : decode cX12_grains 28 = .ok (.iaload, 1) := by decide +kernel
theorem dX12_grains_29 : decode cX12_grains 29 = .ok (.goto 8, 3) := by decide +kernel
def D_X12_grains_32 (N : Nat) (h : mh_H) (l0 : Nat) : Option (Int32 × mh_H) :=
  kO h 12 l0 <|
  (D_X12_error N h l0 (1 : Int32)).bind fun q1 =>
  some (q1.1, q1.2)
set_option maxHeartbeats 4000000 in
set_option maxRecDepth 100000 in
theorem T_X12_grains_32 {P : mh_E → Prop} {N d : Nat} (hd : 3 ≤ d) {z : (Int32 × mh_H)} {h : mh_H} {l0 : Nat} (hq : D_X12_grains_32 N h l0 = some z) : mh_go P d mX12_grains 32 [some (.ref l0), none, none] [] h (some (.int z.1)) z.2 := by
  unfold D_X12_grains_32 at hq
  refine st_aload_n (pc := 32) dX12_grains_32 rfl ?_
  refine st_iconst (pc := 33) (v := (1 : Int32)) dX12_grains_33 rfl ?_
  obtain ⟨⟨hbq1, hkq1⟩, hq⟩ := mh_oi hq
  obtain ⟨q1, e1, hq⟩ := mh_ob hq
  refine st_invV (pc := 34) (ci := 12) (vs := [.int (1 : Int32)]) (rest := []) (st2 := [.int q1.1]) dX12_grains_34 okX12_error (by decide) hkq1 hbq1 wd_1274 wd_1276 wp_37 pdX12_error rfl rfl rfl rfl (Nat.le_trans (by decide) hd) (Nat.le_of_ble_eq_true rfl) (T_X12_error (Nat.le_refl _) e1) rfl ?_
  exact bd_iret (pc := 37) hq dX12_grains_37 rfl
def D_X12_grains (N : Nat) (h : mh_H) (l0 : Nat) (l1 : Int32) (l2 : Int32) : Option (Int32 × mh_H) :=
  kO h 12 l0 <|
  (D_X12_isJoint N h l0 l1).bind fun q1 =>
  if q1.1 = 0 then (D_X12_grains_32 N q1.2 l0)
  else ((D_X12_isColour N q1.2 l2).bind fun q2 =>
  if q2.1 = 0 then (D_X12_grains_32 N q2.2 l0)
  else ((gR q2.2 12 l0 0).bind fun v3 =>
  (D_X12_joint N q2.2 l1).bind fun q4 =>
  (aI q4.2 v3 ((q4.1 + (7 : Int32)) + l2)).bind fun v5 =>
  some (v5, q4.2)))
set_option maxHeartbeats 4000000 in
set_option maxRecDepth 100000 in
theorem T_X12_grains {P : mh_E → Prop} {N d : Nat} (hd : 3 ≤ d) {z : (Int32 × mh_H)} {h : mh_H} {l0 : Nat} {l1 : Int32} {l2 : Int32} (hq : D_X12_grains N h l0 l1 l2 = some z) : mh_go P d mX12_grains 0 [some (.ref l0), some (.int l1), some (.int l2)] [] h (some (.int z.1)) z.2 := by
  unfold D_X12_grains at hq
  refine st_aload_n (pc := 0) dX12_grains_0 rfl ?_
  refine st_iload_n (pc := 1) dX12_grains_1 rfl ?_
  obtain ⟨⟨hbq1, hkq1⟩, hq⟩ := mh_oi hq
  obtain ⟨q1, e1, hq⟩ := mh_ob hq
  refine st_invV (pc := 2) (ci := 12) (vs := [.int l1]) (rest := []) (st2 := [.int q1.1]) dX12_grains_2 okX12_isJoint (by decide) hkq1 hbq1 wd_1286 wd_1288 wp_38 pdX12_isJoint rfl rfl rfl rfl (Nat.le_trans (by decide) hd) (Nat.le_of_ble_eq_true rfl) (T_X12_isJoint (Nat.le_refl _) e1) rfl ?_
  refine bd_if_eq (pc := 5) (tgt := 32) hq dX12_grains_5 (by decide) (fun _ hq => ?_) (fun _ hq => ?_)
  ·
    refine st_lesS (lv' := [some (.ref l0), none, none]) ⟨Or.inr rfl, Or.inl rfl, Or.inl rfl, trivial⟩ ?_
    exact T_X12_grains_32 hd hq
  ·
    refine st_iload_n (pc := 8) dX12_grains_8 rfl ?_
    obtain ⟨q2, e2, hq⟩ := mh_ob hq
    refine st_invS (pc := 9) (Y := mX12_isColour) (vs := [.int l2]) (rest := []) (st2 := [.int q2.1]) dX12_grains_9 okX12_isColour wd_1358 wd_1359 pdX12_isColour rfl rfl rfl rfl (Nat.le_trans (by decide) hd) (Nat.le_of_ble_eq_true rfl) (T_X12_isColour (Nat.le_refl _) e2) rfl ?_
    refine bd_if_eq (pc := 12) (tgt := 32) hq dX12_grains_12 (by decide) (fun _ hq => ?_) (fun _ hq => ?_)
    ·
      refine st_lesS (lv' := [some (.ref l0), none, none]) ⟨Or.inr rfl, Or.inl rfl, Or.inl rfl, trivial⟩ ?_
      exact T_X12_grains_32 hd hq
    ·
      refine st_aload_n (pc := 15) dX12_grains_15 rfl ?_
      refine bd_getr (pc := 16) hq dX12_grains_16 fl_12_9_12 rfl (fun v3 hq => ?_)
      refine st_iload_n (pc := 19) dX12_grains_19 rfl ?_
      obtain ⟨q4, e4, hq⟩ := mh_ob hq
      refine st_invS (pc := 20) (Y := mX12_joint) (vs := [.int l1]) (rest := [.ref v3]) (st2 := [.int q4.1, .ref v3]) dX12_grains_20 okX12_joint wd_1279 wd_1280 pdX12_joint rfl rfl rfl rfl (Nat.le_trans (by decide) hd) (Nat.le_of_ble_eq_true rfl) (T_X12_joint (Nat.le_refl _) e4) rfl ?_
      refine st_bipush (pc := 23) (v := (7 : Int32)) dX12_grains_23 (by decide) ?_
      refine st_iadd (pc := 25) dX12_grains_25 ?_
      refine st_iload_n (pc := 26) dX12_grains_26 rfl ?_
      refine st_iadd (pc := 27) dX12_grains_27 ?_
      refine bd_iald (pc := 28) hq dX12_grains_28 (fun v5 hq => ?_)
      refine st_goto (pc := 29) (tgt := 37) dX12_grains_29 (by decide) ?_
      exact bd_iret (pc := 37) hq dX12_grains_37 rfl
-- HoleWaterModel.about(I)I
theorem dX12_about_39 : decode cX12_about 39 = .ok (.iload_n 3, 1) := by decide +kernel
theorem dX12_about_40 : decode cX12_about 40 = .ok (.aload_n 0, 1) := by decide +kernel
theorem dX12_about_41 : decode cX12_about 41 = .ok (.getfield 9, 3) := by decide +kernel
theorem dX12_about_44 : decode cX12_about 44 = .ok (.iconst 2, 1) := by decide +kernel
theorem dX12_about_45 : decode cX12_about 45 = .ok (.iaload, 1) := by decide +kernel
theorem dX12_about_46 : decode cX12_about 46 = .ok (.if_icmp .ge 20, 3) := by decide +kernel
theorem dX12_about_66 : decode cX12_about 66 = .ok (.iload_n 2, 1) := by decide +kernel
theorem dX12_about_67 : decode cX12_about 67 = .ok (.ireturn, 1) := by decide +kernel
theorem dX12_about_49 : decode cX12_about 49 = .ok (.iload_n 2, 1) := by decide +kernel
theorem dX12_about_50 : decode cX12_about 50 = .ok (.aload_n 0, 1) := by decide +kernel
theorem dX12_about_51 : decode cX12_about 51 = .ok (.iload_n 3, 1) := by decide +kernel
theorem dX12_about_52 : decode cX12_about 52 = .ok (.iconst 1, 1) := by decide +kernel
theorem dX12_about_53 : decode cX12_about 53 = .ok (.iload_n 1, 1) := by decide +kernel
theorem dX12_about_54 : decode cX12_about 54 = .ok (.iadd, 1) := by decide +kernel
theorem dX12_about_55 : decode cX12_about 55 = .ok (.invokevirtual 115, 3) := by decide +kernel
theorem dX12_about_58 : decode cX12_about 58 = .ok (.iadd, 1) := by decide +kernel
theorem dX12_about_59 : decode cX12_about 59 = .ok (.istore_n 2, 1) := by decide +kernel
theorem dX12_about_60 : decode cX12_about 60 = .ok (.iinc 3 1, 3) := by decide +kernel
theorem dX12_about_63 : decode cX12_about 63 = .ok (.goto (-24), 3) := by decide +kernel
theorem dX12_about_4 : decode cX12_about 4 = .ok (.iload_n 3, 1) := by decide +kernel
theorem dX12_about_5 : decode cX12_about 5 = .ok (.aload_n 0, 1) := by decide +kernel
theorem dX12_about_6 : decode cX12_about 6 = .ok (.getfield 9, 3) := by decide +kernel
theorem dX12_about_9 : decode cX12_about 9 = .ok (.iconst 1, 1) := by decide +kernel
theorem dX12_about_10 : decode cX12_about 10 = .ok (.iaload, 1) := by decide +kernel
theorem dX12_about_11 : decode cX12_about 11 = .ok (.if_icmp .ge 26, 3) := by decide +kernel
theorem dX12_about_37 : decode cX12_about 37 = .ok (.iconst 0, 1) := by decide +kernel
theorem dX12_about_38 : decode cX12_about 38 = .ok (.istore_n 3, 1) := by decide +kernel
theorem dX12_about_14 : decode cX12_about 14 = .ok (.iload_n 2, 1) := by decide +kernel
theorem dX12_about_15 : decode cX12_about 15 = .ok (.aload_n 0, 1) := by decide +kernel
theorem dX12_about_16 : decode cX12_about 16 = .ok (.getfield 9, 3) := by decide +kernel
theorem dX12_about_19 : decode cX12_about 19 = .ok (.iload_n 3, 1) := by decide +kernel
theorem dX12_about_20 : decode cX12_about 20 = .ok (.invokestatic 71, 3) := by decide +kernel
theorem dX12_about_23 : decode cX12_about 23 = .ok (.bipush 7, 2) := by decide +kernel
theorem dX12_about_25 : decode cX12_about 25 = .ok (.iadd, 1) := by decide +kernel
theorem dX12_about_26 : decode cX12_about 26 = .ok (.iload_n 1, 1) := by decide +kernel
theorem dX12_about_27 : decode cX12_about 27 = .ok (.iadd, 1) := by decide +kernel
theorem dX12_about_28 : decode cX12_about 28 = .ok (.iaload, 1) := by decide +kernel
theorem dX12_about_29 : decode cX12_about 29 = .ok (.iadd, 1) := by decide +kernel
theorem dX12_about_30 : decode cX12_about 30 = .ok (.istore_n 2, 1) := by decide +kernel
theorem dX12_about_31 : decode cX12_about 31 = .ok (.iinc 3 1, 3) := by decide +kernel
theorem dX12_about_34 : decode cX12_about 34 = .ok (.goto (-30), 3) := by decide +kernel
theorem dX12_about_0 : decode cX12_about 0 = .ok (.iconst 0, 1) := by decide +kernel
theorem dX12_about_1 : decode cX12_about 1 = .ok (.istore_n 2, 1) := by decide +kernel
theorem dX12_about_2 : decode cX12_about 2 = .ok (.iconst 0, 1) := by decide +kernel
theorem dX12_about_3 : decode cX12_about 3 = .ok (.istore_n 3, 1) := by decide +kernel
def D_X12_about_39 (N : Nat) : Nat → mh_H → Nat → Int32 → Int32 → Int32 → Option (Int32 × mh_H)
  | 0, _, _, _, _, _ => none
  | F + 1, h, l0, l1, l2, l3 =>
    (gR h 12 l0 0).bind fun v1 =>
    (aI h v1 (2 : Int32)).bind fun v2 =>
    if v2 ≤ l3 then (some (l2, h))
    else (kO h 12 l0 <|
    (D_X12_inWay N h l0 l3 ((1 : Int32) + l1)).bind fun q3 =>
    (D_X12_about_39 N F) q3.2 l0 l1 (l2 + q3.1) (l3 + Int32.ofInt (1)))
set_option maxHeartbeats 4000000 in
set_option maxRecDepth 100000 in
theorem T_X12_about_39 {P : mh_E → Prop} {N d : Nat} (hd : 3 ≤ d) {z : (Int32 × mh_H)} : ∀ (F : Nat) (h : mh_H) (l0 : Nat) (l1 : Int32) (l2 : Int32) (l3 : Int32), D_X12_about_39 N F h l0 l1 l2 l3 = some z → mh_go P d mX12_about 39 [some (.ref l0), some (.int l1), some (.int l2), some (.int l3)] [] h (some (.int z.1)) z.2 := by
  intro F
  induction F with
  | zero => intro h l0 l1 l2 l3 hq; rw [D_X12_about_39] at hq; cases hq
  | succ F ih =>
    intro h l0 l1 l2 l3 hq
    rw [D_X12_about_39] at hq
    refine st_iload_n (pc := 39) dX12_about_39 rfl ?_
    refine st_aload_n (pc := 40) dX12_about_40 rfl ?_
    refine bd_getr (pc := 41) hq dX12_about_41 fl_12_9_12 rfl (fun v1 hq => ?_)
    refine st_iconst (pc := 44) (v := (2 : Int32)) dX12_about_44 rfl ?_
    refine bd_iald (pc := 45) hq dX12_about_45 (fun v2 hq => ?_)
    refine bd_icmp_ge (pc := 46) (tgt := 66) hq dX12_about_46 (by decide) (fun _ hq => ?_) (fun _ hq => ?_)
    ·
      refine st_iload_n (pc := 66) dX12_about_66 rfl ?_
      exact bd_iret (pc := 67) hq dX12_about_67 rfl
    ·
      refine st_iload_n (pc := 49) dX12_about_49 rfl ?_
      refine st_aload_n (pc := 50) dX12_about_50 rfl ?_
      refine st_iload_n (pc := 51) dX12_about_51 rfl ?_
      refine st_iconst (pc := 52) (v := (1 : Int32)) dX12_about_52 rfl ?_
      refine st_iload_n (pc := 53) dX12_about_53 rfl ?_
      refine st_iadd (pc := 54) dX12_about_54 ?_
      obtain ⟨⟨hbq3, hkq3⟩, hq⟩ := mh_oi hq
      obtain ⟨q3, e3, hq⟩ := mh_ob hq
      refine st_invV (pc := 55) (ci := 12) (vs := [.int l3, .int ((1 : Int32) + l1)]) (rest := [.int l2]) (st2 := [.int q3.1, .int l2]) dX12_about_55 okX12_inWay (by decide) hkq3 hbq3 wd_1334 wd_1336 wp_44 pdX12_inWay rfl rfl rfl rfl (Nat.le_trans (by decide) hd) (Nat.le_of_ble_eq_true rfl) (T_X12_inWay (Nat.le_refl _) e3) rfl ?_
      refine st_iadd (pc := 58) dX12_about_58 ?_
      refine st_istore_n (pc := 59) (lv' := [some (.ref l0), some (.int l1), some (.int (l2 + q3.1)), some (.int l3)]) dX12_about_59 rfl (by decide) rfl ?_
      refine st_iinc (pc := 60) (lv' := [some (.ref l0), some (.int l1), some (.int (l2 + q3.1)), some (.int (l3 + Int32.ofInt (1)))]) dX12_about_60 rfl rfl (by decide) rfl ?_
      refine st_goto (pc := 63) (tgt := 39) dX12_about_63 (by decide) ?_
      exact ih _ _ _ _ _ hq
def D_X12_about_4 (N : Nat) : Nat → mh_H → Nat → Int32 → Int32 → Int32 → Option (Int32 × mh_H)
  | 0, _, _, _, _, _ => none
  | F + 1, h, l0, l1, l2, l3 =>
    (gR h 12 l0 0).bind fun v1 =>
    (aI h v1 (1 : Int32)).bind fun v2 =>
    if v2 ≤ l3 then (D_X12_about_39 N N h l0 l1 l2 (0 : Int32))
    else ((gR h 12 l0 0).bind fun v3 =>
    (D_X12_joint N h l3).bind fun q4 =>
    (aI q4.2 v3 ((q4.1 + (7 : Int32)) + l1)).bind fun v5 =>
    (D_X12_about_4 N F) q4.2 l0 l1 (l2 + v5) (l3 + Int32.ofInt (1)))
set_option maxHeartbeats 4000000 in
set_option maxRecDepth 100000 in
theorem T_X12_about_4 {P : mh_E → Prop} {N d : Nat} (hd : 3 ≤ d) {z : (Int32 × mh_H)} : ∀ (F : Nat) (h : mh_H) (l0 : Nat) (l1 : Int32) (l2 : Int32) (l3 : Int32), D_X12_about_4 N F h l0 l1 l2 l3 = some z → mh_go P d mX12_about 4 [some (.ref l0), some (.int l1), some (.int l2), some (.int l3)] [] h (some (.int z.1)) z.2 := by
  intro F
  induction F with
  | zero => intro h l0 l1 l2 l3 hq; rw [D_X12_about_4] at hq; cases hq
  | succ F ih =>
    intro h l0 l1 l2 l3 hq
    rw [D_X12_about_4] at hq
    refine st_iload_n (pc := 4) dX12_about_4 rfl ?_
    refine st_aload_n (pc := 5) dX12_about_5 rfl ?_
    refine bd_getr (pc := 6) hq dX12_about_6 fl_12_9_12 rfl (fun v1 hq => ?_)
    refine st_iconst (pc := 9) (v := (1 : Int32)) dX12_about_9 rfl ?_
    refine bd_iald (pc := 10) hq dX12_about_10 (fun v2 hq => ?_)
    refine bd_icmp_ge (pc := 11) (tgt := 37) hq dX12_about_11 (by decide) (fun _ hq => ?_) (fun _ hq => ?_)
    ·
      refine st_iconst (pc := 37) (v := (0 : Int32)) dX12_about_37 rfl ?_
      refine st_istore_n (pc := 38) (lv' := [some (.ref l0), some (.int l1), some (.int l2), some (.int (0 : Int32))]) dX12_about_38 rfl (by decide) rfl ?_
      exact T_X12_about_39 hd N _ _ _ _ _ hq
    ·
      refine st_iload_n (pc := 14) dX12_about_14 rfl ?_
      refine st_aload_n (pc := 15) dX12_about_15 rfl ?_
      refine bd_getr (pc := 16) hq dX12_about_16 fl_12_9_12 rfl (fun v3 hq => ?_)
      refine st_iload_n (pc := 19) dX12_about_19 rfl ?_
      obtain ⟨q4, e4, hq⟩ := mh_ob hq
      refine st_invS (pc := 20) (Y := mX12_joint) (vs := [.int l3]) (rest := [.ref v3, .int l2]) (st2 := [.int q4.1, .ref v3, .int l2]) dX12_about_20 okX12_joint wd_1279 wd_1280 pdX12_joint rfl rfl rfl rfl (Nat.le_trans (by decide) hd) (Nat.le_of_ble_eq_true rfl) (T_X12_joint (Nat.le_refl _) e4) rfl ?_
      refine st_bipush (pc := 23) (v := (7 : Int32)) dX12_about_23 (by decide) ?_
      refine st_iadd (pc := 25) dX12_about_25 ?_
      refine st_iload_n (pc := 26) dX12_about_26 rfl ?_
      refine st_iadd (pc := 27) dX12_about_27 ?_
      refine bd_iald (pc := 28) hq dX12_about_28 (fun v5 hq => ?_)
      refine st_iadd (pc := 29) dX12_about_29 ?_
      refine st_istore_n (pc := 30) (lv' := [some (.ref l0), some (.int l1), some (.int (l2 + v5)), some (.int l3)]) dX12_about_30 rfl (by decide) rfl ?_
      refine st_iinc (pc := 31) (lv' := [some (.ref l0), some (.int l1), some (.int (l2 + v5)), some (.int (l3 + Int32.ofInt (1)))]) dX12_about_31 rfl rfl (by decide) rfl ?_
      refine st_goto (pc := 34) (tgt := 4) dX12_about_34 (by decide) ?_
      exact ih _ _ _ _ _ hq
def D_X12_about (N : Nat) (h : mh_H) (l0 : Nat) (l1 : Int32) : Option (Int32 × mh_H) :=
  D_X12_about_4 N N h l0 l1 (0 : Int32) (0 : Int32)
set_option maxHeartbeats 4000000 in
set_option maxRecDepth 100000 in
theorem T_X12_about {P : mh_E → Prop} {N d : Nat} (hd : 3 ≤ d) {z : (Int32 × mh_H)} {h : mh_H} {l0 : Nat} {l1 : Int32} (hq : D_X12_about N h l0 l1 = some z) : mh_go P d mX12_about 0 [some (.ref l0), some (.int l1), none, none] [] h (some (.int z.1)) z.2 := by
  unfold D_X12_about at hq
  refine st_iconst (pc := 0) (v := (0 : Int32)) dX12_about_0 rfl ?_
  refine st_istore_n (pc := 1) (lv' := [some (.ref l0), some (.int l1), some (.int (0 : Int32)), none]) dX12_about_1 rfl (by decide) rfl ?_
  refine st_iconst (pc := 2) (v := (0 : Int32)) dX12_about_2 rfl ?_
  refine st_istore_n (pc := 3) (lv' := [some (.ref l0), some (.int l1), some (.int (0 : Int32)), some (.int (0 : Int32))]) dX12_about_3 rfl (by decide) rfl ?_
  exact T_X12_about_4 hd N _ _ _ _ _ hq
-- HoleWaterModel.stuff(II)I
theorem dX12_stuff_19 : decode cX12_stuff 19 = .ok (.aload_n 0, 1) := by decide +kernel
theorem dX12_stuff_20 : decode cX12_stuff 20 = .ok (.iconst 1, 1) := by decide +kernel
theorem dX12_stuff_21 : decode cX12_stuff 21 = .ok (.invokevirtual 80, 3) := by decide +kernel
theorem dX12_stuff_24 : decode cX12_stuff 24 = .ok (.ireturn, 1) := by decide +kernel
theorem dX12_stuff_0 : decode cX12_stuff 0 = .ok (.iload_n 1, 1) := by decide +kernel
theorem dX12_stuff_1 : decode cX12_stuff 1 = .ok (.invokestatic 155, 3) := by decide +kernel
theorem dX12_stuff_4 : decode cX12_stuff 4 = .ok (.ifCond .eq 15, 3) := by decide +kernel
theorem dX12_stuff_7 : decode cX12_stuff 7 = .ok (.iload_n 2, 1) := by decide +kernel
theorem dX12_stuff_8 : decode cX12_stuff 8 = .ok (.i2l, 1) := by decide +kernel
theorem dX12_stuff_9 : decode cX12_stuff 9 = .ok (.lconst 0, 1) := by decide +kernel
theorem dX12_stuff_10 : decode cX12_stuff 10 = .ok (.ldc2_w 87, 3) := by decide +kernel
theorem dX12_stuff_13 : decode cX12_stuff 13 = .ok (.invokestatic 65, 3) := by decide +kernel
theorem dX12_stuff_16 : decode cX12_stuff 16 = .ok (.ifCond .ne 9, 3) := by decide +kernel
theorem dX12_stuff_25 : decode cX12_stuff 25 = .ok (.iload_n 2, 1) := by decide +kernel
theorem dX12_stuff_26 : decode cX12_stuff 26 = .ok (.iconst 1, 1) := by decide +kernel
theorem dX12_stuff_27 : decode cX12_stuff 27 = .ok (.if_icmp .ne 11, 3) := by decide +kernel
theorem dX12_stuff_30 : decode cX12_stuff 30 = .ok (.aload_n 0, 1) := by decide +kernel
theorem dX12_stuff_31 : decode cX12_stuff 31 = .ok (.iload_n 1, 1) := by decide +kernel
theorem dX12_stuff_32 : decode cX12_stuff 32 = .ok (.invokevirtual 174, 3) := by decide +kernel
theorem dX12_stuff_35 : decode cX12_stuff 35 = .ok (.goto 13, 3) := by decide +kernel
theorem dX12_stuff_48 : decode cX12_stuff 48 = .ok (.ireturn, 1) := by decide +kernel
theorem dX12_stuff_38 : decode cX12_stuff 38 = .ok (.aload_n 0, 1) := by decide +kernel
theorem dX12_stuff_39 : decode cX12_stuff 39 = .ok (.getfield 9, 3) := by decide +kernel
theorem dX12_stuff_42 : decode cX12_stuff 42 = .ok (.iload_n 1, 1) := by decide +kernel
theorem dX12_stuff_43 : decode cX12_stuff 43 = .ok (.iload_n 2, 1) := by decide +kernel
theorem dX12_stuff_44 : decode cX12_stuff 44 = .ok (.invokestatic 123, 3) := by decide +kernel
theorem dX12_stuff_47 : decode cX12_stuff 47 = .ok (.iaload, 1) := by decide +kernel
def D_X12_stuff_19 (N : Nat) (h : mh_H) (l0 : Nat) : Option (Int32 × mh_H) :=
  kO h 12 l0 <|
  (D_X12_error N h l0 (1 : Int32)).bind fun q1 =>
  some (q1.1, q1.2)
set_option maxHeartbeats 4000000 in
set_option maxRecDepth 100000 in
theorem T_X12_stuff_19 {P : mh_E → Prop} {N d : Nat} (hd : 4 ≤ d) {z : (Int32 × mh_H)} {h : mh_H} {l0 : Nat} (hq : D_X12_stuff_19 N h l0 = some z) : mh_go P d mX12_stuff 19 [some (.ref l0), none, none] [] h (some (.int z.1)) z.2 := by
  unfold D_X12_stuff_19 at hq
  refine st_aload_n (pc := 19) dX12_stuff_19 rfl ?_
  refine st_iconst (pc := 20) (v := (1 : Int32)) dX12_stuff_20 rfl ?_
  obtain ⟨⟨hbq1, hkq1⟩, hq⟩ := mh_oi hq
  obtain ⟨q1, e1, hq⟩ := mh_ob hq
  refine st_invV (pc := 21) (ci := 12) (vs := [.int (1 : Int32)]) (rest := []) (st2 := [.int q1.1]) dX12_stuff_21 okX12_error (by decide) hkq1 hbq1 wd_1274 wd_1276 wp_37 pdX12_error rfl rfl rfl rfl (Nat.le_trans (by decide) hd) (Nat.le_of_ble_eq_true rfl) (T_X12_error (Nat.le_refl _) e1) rfl ?_
  exact bd_iret (pc := 24) hq dX12_stuff_24 rfl
def D_X12_stuff (N : Nat) (h : mh_H) (l0 : Nat) (l1 : Int32) (l2 : Int32) : Option (Int32 × mh_H) :=
  (D_X12_isColour N h l1).bind fun q1 =>
  if q1.1 = 0 then (D_X12_stuff_19 N q1.2 l0)
  else ((D_X12_in N q1.2 l2.toInt64 (0 : Int64) (6 : Int64)).bind fun q2 =>
  if q2.1 = 0 then (D_X12_stuff_19 N q2.2 l0)
  else (if l2 = (1 : Int32) then (kO q2.2 12 l0 <|
  (D_X12_about N q2.2 l0 l1).bind fun q3 =>
  some (q3.1, q3.2))
  else ((gR q2.2 12 l0 0).bind fun v3 =>
  (D_X12_stuffAt N q2.2 l1 l2).bind fun q4 =>
  (aI q4.2 v3 q4.1).bind fun v5 =>
  some (v5, q4.2))))
set_option maxHeartbeats 4000000 in
set_option maxRecDepth 100000 in
theorem T_X12_stuff {P : mh_E → Prop} {N d : Nat} (hd : 4 ≤ d) {z : (Int32 × mh_H)} {h : mh_H} {l0 : Nat} {l1 : Int32} {l2 : Int32} (hq : D_X12_stuff N h l0 l1 l2 = some z) : mh_go P d mX12_stuff 0 [some (.ref l0), some (.int l1), some (.int l2)] [] h (some (.int z.1)) z.2 := by
  unfold D_X12_stuff at hq
  refine st_iload_n (pc := 0) dX12_stuff_0 rfl ?_
  obtain ⟨q1, e1, hq⟩ := mh_ob hq
  refine st_invS (pc := 1) (Y := mX12_isColour) (vs := [.int l1]) (rest := []) (st2 := [.int q1.1]) dX12_stuff_1 okX12_isColour wd_1358 wd_1359 pdX12_isColour rfl rfl rfl rfl (Nat.le_trans (by decide) hd) (Nat.le_of_ble_eq_true rfl) (T_X12_isColour (Nat.le_refl _) e1) rfl ?_
  refine bd_if_eq (pc := 4) (tgt := 19) hq dX12_stuff_4 (by decide) (fun _ hq => ?_) (fun _ hq => ?_)
  ·
    refine st_lesS (lv' := [some (.ref l0), none, none]) ⟨Or.inr rfl, Or.inl rfl, Or.inl rfl, trivial⟩ ?_
    exact T_X12_stuff_19 hd hq
  ·
    refine st_iload_n (pc := 7) dX12_stuff_7 rfl ?_
    refine st_i2l (pc := 8) dX12_stuff_8 ?_
    refine st_lconst (pc := 9) (v := 0) dX12_stuff_9 rfl ?_
    refine st_ldc2 (pc := 10) (v := (6 : Int64)) dX12_stuff_10 wd_1290 ?_
    obtain ⟨q2, e2, hq⟩ := mh_ob hq
    refine st_invS (pc := 13) (Y := mX12_in) (vs := [.long l2.toInt64, .long (0 : Int64), .long (6 : Int64)]) (rest := []) (st2 := [.int q2.1]) dX12_stuff_13 okX12_in wd_1270 wd_1271 pdX12_in rfl rfl rfl rfl (Nat.le_trans (by decide) hd) (Nat.le_of_ble_eq_true rfl) (T_X12_in (Nat.le_refl _) e2) rfl ?_
    refine bd_if_ne (pc := 16) (tgt := 25) hq dX12_stuff_16 (by decide) (fun _ hq => ?_) (fun _ hq => ?_)
    ·
      refine st_lesS (lv' := [some (.ref l0), none, none]) ⟨Or.inr rfl, Or.inl rfl, Or.inl rfl, trivial⟩ ?_
      exact T_X12_stuff_19 hd hq
    ·
      refine st_iload_n (pc := 25) dX12_stuff_25 rfl ?_
      refine st_iconst (pc := 26) (v := (1 : Int32)) dX12_stuff_26 rfl ?_
      refine bd_icmp_ne (pc := 27) (tgt := 38) hq dX12_stuff_27 (by decide) (fun _ hq => ?_) (fun _ hq => ?_)
      ·
        refine st_aload_n (pc := 30) dX12_stuff_30 rfl ?_
        refine st_iload_n (pc := 31) dX12_stuff_31 rfl ?_
        obtain ⟨⟨hbq3, hkq3⟩, hq⟩ := mh_oi hq
        obtain ⟨q3, e3, hq⟩ := mh_ob hq
        refine st_invV (pc := 32) (ci := 12) (vs := [.int l1]) (rest := []) (st2 := [.int q3.1]) dX12_stuff_32 okX12_about (by decide) hkq3 hbq3 wd_1452 wd_1454 wp_59 pdX12_about rfl rfl rfl rfl (Nat.le_trans (by decide) hd) (Nat.le_of_ble_eq_true rfl) (T_X12_about (Nat.le_refl _) e3) rfl ?_
        refine st_goto (pc := 35) (tgt := 48) dX12_stuff_35 (by decide) ?_
        exact bd_iret (pc := 48) hq dX12_stuff_48 rfl
      ·
        refine st_aload_n (pc := 38) dX12_stuff_38 rfl ?_
        refine bd_getr (pc := 39) hq dX12_stuff_39 fl_12_9_12 rfl (fun v3 hq => ?_)
        refine st_iload_n (pc := 42) dX12_stuff_42 rfl ?_
        refine st_iload_n (pc := 43) dX12_stuff_43 rfl ?_
        obtain ⟨q4, e4, hq⟩ := mh_ob hq
        refine st_invS (pc := 44) (Y := mX12_stuffAt) (vs := [.int l1, .int l2]) (rest := [.ref v3]) (st2 := [.int q4.1, .ref v3]) dX12_stuff_44 okX12_stuffAt wd_1374 wd_1375 pdX12_stuffAt rfl rfl rfl rfl (Nat.le_trans (by decide) hd) (Nat.le_of_ble_eq_true rfl) (T_X12_stuffAt (Nat.le_refl _) e4) rfl ?_
        refine bd_iald (pc := 47) hq dX12_stuff_47 (fun v5 hq => ?_)
        exact bd_iret (pc := 48) hq dX12_stuff_48 rfl
-- HoleWaterModel.outAgo(III)I
theorem dX12_outAgo_0 : decode cX12_outAgo 0 = .ok (.aload_n 0, 1) := by decide +kernel
theorem dX12_outAgo_1 : decode cX12_outAgo 1 = .ok (.getfield 9, 3) := by decide +kernel
theorem dX12_outAgo_4 : decode cX12_outAgo 4 = .ok (.iconst 0, 1) := by decide +kernel
theorem dX12_outAgo_5 : decode cX12_outAgo 5 = .ok (.iaload, 1) := by decide +kernel
theorem dX12_outAgo_6 : decode cX12_outAgo 6 = .ok (.iload_n 3, 1) := by decide +kernel
theorem dX12_outAgo_7 : decode cX12_outAgo 7 = .ok (.isub, 1) := by decide +kernel
theorem dX12_outAgo_8 : decode cX12_outAgo 8 = .ok (.istore 4, 2) := by decide +kernel
theorem dX12_outAgo_10 : decode cX12_outAgo 10 = .ok (.iload 4, 2) := by decide +kernel
theorem dX12_outAgo_12 : decode cX12_outAgo 12 = .ok (.ifCond .ge 7, 3) := by decide +kernel
theorem dX12_outAgo_19 : decode cX12_outAgo 19 = .ok (.aload_n 0, 1) := by decide +kernel
theorem dX12_outAgo_20 : decode cX12_outAgo 20 = .ok (.getfield 9, 3) := by decide +kernel
theorem dX12_outAgo_23 : decode cX12_outAgo 23 = .ok (.sipush 5380, 3) := by decide +kernel
theorem dX12_outAgo_26 : decode cX12_outAgo 26 = .ok (.iconst 4, 1) := by decide +kernel
theorem dX12_outAgo_27 : decode cX12_outAgo 27 = .ok (.bipush 24, 2) := by decide +kernel
theorem dX12_outAgo_29 : decode cX12_outAgo 29 = .ok (.iload_n 1, 1) := by decide +kernel
theorem dX12_outAgo_30 : decode cX12_outAgo 30 = .ok (.imul, 1) := by decide +kernel
theorem dX12_outAgo_31 : decode cX12_outAgo 31 = .ok (.iload 4, 2) := by decide +kernel
theorem dX12_outAgo_33 : decode cX12_outAgo 33 = .ok (.bipush 24, 2) := by decide +kernel
theorem dX12_outAgo_35 : decode cX12_outAgo 35 = .ok (.irem, 1) := by decide +kernel
theorem dX12_outAgo_36 : decode cX12_outAgo 36 = .ok (.iadd, 1) := by decide +kernel
theorem dX12_outAgo_37 : decode cX12_outAgo 37 = .ok (.imul, 1) := by decide +kernel
theorem dX12_outAgo_38 : decode cX12_outAgo 38 = .ok (.iadd, 1) := by decide +kernel
theorem dX12_outAgo_39 : decode cX12_outAgo 39 = .ok (.iload_n 2, 1) := by decide +kernel
theorem dX12_outAgo_40 : decode cX12_outAgo 40 = .ok (.iadd, 1) := by decide +kernel
theorem dX12_outAgo_41 : decode cX12_outAgo 41 = .ok (.iaload, 1) := by decide +kernel
theorem dX12_outAgo_42 : decode cX12_outAgo 42 = .ok (.ireturn, 1) := by decide +kernel
theorem dX12_outAgo_15 : decode cX12_outAgo 15 = .ok (.iconst 0, 1) := by decide +kernel
theorem dX12_outAgo_16 : decode cX12_outAgo 16 = .ok (.goto 26, 3) := by decide +kernel
def D_X12_outAgo (N : Nat) (h : mh_H) (l0 : Nat) (l1 : Int32) (l2 : Int32) (l3 : Int32) : Option (Int32 × mh_H) :=
  (gR h 12 l0 0).bind fun v1 =>
  (aI h v1 (0 : Int32)).bind fun v2 =>
  if 0 ≤ (v2 - l3) then ((gR h 12 l0 0).bind fun v3 =>
  dN (24 : Int32) <|
  (aI h v3 (((5380 : Int32) + ((4 : Int32) * (((24 : Int32) * l1) + ((v2 - l3) - (v2 - l3) / (24 : Int32) * (24 : Int32))))) + l2)).bind fun v4 =>
  some (v4, h))
  else (some ((0 : Int32), h))
set_option maxHeartbeats 4000000 in
set_option maxRecDepth 100000 in
theorem T_X12_outAgo {P : mh_E → Prop} {N d : Nat} (hd : 1 ≤ d) {z : (Int32 × mh_H)} {h : mh_H} {l0 : Nat} {l1 : Int32} {l2 : Int32} {l3 : Int32} (hq : D_X12_outAgo N h l0 l1 l2 l3 = some z) : mh_go P d mX12_outAgo 0 [some (.ref l0), some (.int l1), some (.int l2), some (.int l3), none] [] h (some (.int z.1)) z.2 := by
  unfold D_X12_outAgo at hq
  refine st_aload_n (pc := 0) dX12_outAgo_0 rfl ?_
  refine bd_getr (pc := 1) hq dX12_outAgo_1 fl_12_9_12 rfl (fun v1 hq => ?_)
  refine st_iconst (pc := 4) (v := (0 : Int32)) dX12_outAgo_4 rfl ?_
  refine bd_iald (pc := 5) hq dX12_outAgo_5 (fun v2 hq => ?_)
  refine st_iload_n (pc := 6) dX12_outAgo_6 rfl ?_
  refine st_isub (pc := 7) dX12_outAgo_7 ?_
  refine st_istore (pc := 8) (lv' := [some (.ref l0), some (.int l1), some (.int l2), some (.int l3), some (.int (v2 - l3))]) dX12_outAgo_8 rfl (by decide) rfl ?_
  refine st_iload (pc := 10) dX12_outAgo_10 rfl ?_
  refine bd_if_ge (pc := 12) (tgt := 19) hq dX12_outAgo_12 (by decide) (fun _ hq => ?_) (fun _ hq => ?_)
  ·
    refine st_aload_n (pc := 19) dX12_outAgo_19 rfl ?_
    refine bd_getr (pc := 20) hq dX12_outAgo_20 fl_12_9_12 rfl (fun v3 hq => ?_)
    refine st_sipush (pc := 23) (v := (5380 : Int32)) dX12_outAgo_23 (by decide) ?_
    refine st_iconst (pc := 26) (v := (4 : Int32)) dX12_outAgo_26 rfl ?_
    refine st_bipush (pc := 27) (v := (24 : Int32)) dX12_outAgo_27 (by decide) ?_
    refine st_iload_n (pc := 29) dX12_outAgo_29 rfl ?_
    refine st_imul (pc := 30) dX12_outAgo_30 ?_
    refine st_iload (pc := 31) dX12_outAgo_31 rfl ?_
    refine st_bipush (pc := 33) (v := (24 : Int32)) dX12_outAgo_33 (by decide) ?_
    refine bd_irem (pc := 35) hq dX12_outAgo_35 (fun hq => ?_)
    refine st_iadd (pc := 36) dX12_outAgo_36 ?_
    refine st_imul (pc := 37) dX12_outAgo_37 ?_
    refine st_iadd (pc := 38) dX12_outAgo_38 ?_
    refine st_iload_n (pc := 39) dX12_outAgo_39 rfl ?_
    refine st_iadd (pc := 40) dX12_outAgo_40 ?_
    refine bd_iald (pc := 41) hq dX12_outAgo_41 (fun v4 hq => ?_)
    exact bd_iret (pc := 42) hq dX12_outAgo_42 rfl
  ·
    refine st_iconst (pc := 15) (v := (0 : Int32)) dX12_outAgo_15 rfl ?_
    refine st_goto (pc := 16) (tgt := 42) dX12_outAgo_16 (by decide) ?_
    exact bd_iret (pc := 42) hq dX12_outAgo_42 rfl
-- HoleWaterModel.out(III)I
theorem dX12_out_27 : decode cX12_out 27 = .ok (.aload_n 0, 1) := by decide +kernel
theorem dX12_out_28 : decode cX12_out 28 = .ok (.iconst 1, 1) := by decide +kernel
theorem dX12_out_29 : decode cX12_out 29 = .ok (.invokevirtual 80, 3) := by decide +kernel
theorem dX12_out_32 : decode cX12_out 32 = .ok (.ireturn, 1) := by decide +kernel
theorem dX12_out_0 : decode cX12_out 0 = .ok (.aload_n 0, 1) := by decide +kernel
theorem dX12_out_1 : decode cX12_out 1 = .ok (.iload_n 1, 1) := by decide +kernel
theorem dX12_out_2 : decode cX12_out 2 = .ok (.invokevirtual 83, 3) := by decide +kernel
theorem dX12_out_5 : decode cX12_out 5 = .ok (.ifCond .eq 22, 3) := by decide +kernel
theorem dX12_out_8 : decode cX12_out 8 = .ok (.iload_n 2, 1) := by decide +kernel
theorem dX12_out_9 : decode cX12_out 9 = .ok (.invokestatic 155, 3) := by decide +kernel
theorem dX12_out_12 : decode cX12_out 12 = .ok (.ifCond .eq 15, 3) := by decide +kernel
theorem dX12_out_15 : decode cX12_out 15 = .ok (.iload_n 3, 1) := by decide +kernel
theorem dX12_out_16 : decode cX12_out 16 = .ok (.i2l, 1) := by decide +kernel
theorem dX12_out_17 : decode cX12_out 17 = .ok (.lconst 1, 1) := by decide +kernel
theorem dX12_out_18 : decode cX12_out 18 = .ok (.ldc2_w 177, 3) := by decide +kernel
theorem dX12_out_21 : decode cX12_out 21 = .ok (.invokestatic 65, 3) := by decide +kernel
theorem dX12_out_24 : decode cX12_out 24 = .ok (.ifCond .ne 9, 3) := by decide +kernel
theorem dX12_out_33 : decode cX12_out 33 = .ok (.aload_n 0, 1) := by decide +kernel
theorem dX12_out_34 : decode cX12_out 34 = .ok (.iload_n 1, 1) := by decide +kernel
theorem dX12_out_35 : decode cX12_out 35 = .ok (.invokevirtual 93, 3) := by decide +kernel
theorem dX12_out_38 : decode cX12_out 38 = .ok (.ifCond .eq 13, 3) := by decide +kernel
theorem dX12_out_51 : decode cX12_out 51 = .ok (.aload_n 0, 1) := by decide +kernel
theorem dX12_out_52 : decode cX12_out 52 = .ok (.iconst 5, 1) := by decide +kernel
theorem dX12_out_53 : decode cX12_out 53 = .ok (.invokevirtual 80, 3) := by decide +kernel
theorem dX12_out_56 : decode cX12_out 56 = .ok (.ireturn, 1) := by decide +kernel
theorem dX12_out_41 : decode cX12_out 41 = .ok (.aload_n 0, 1) := by decide +kernel
theorem dX12_out_42 : decode cX12_out 42 = .ok (.iload_n 1, 1) := by decide +kernel
theorem dX12_out_43 : decode cX12_out 43 = .ok (.iload_n 2, 1) := by decide +kernel
theorem dX12_out_44 : decode cX12_out 44 = .ok (.iload_n 3, 1) := by decide +kernel
theorem dX12_out_45 : decode cX12_out 45 = .ok (.invokevirtual 179, 3) := by decide +kernel
theorem dX12_out_48 : decode cX12_out 48 = .ok (.goto 8, 3) := by decide +kernel
def D_X12_out_27 (N : Nat) (h : mh_H) (l0 : Nat) : Option (Int32 × mh_H) :=
  kO h 12 l0 <|
  (D_X12_error N h l0 (1 : Int32)).bind fun q1 =>
  some (q1.1, q1.2)
set_option maxHeartbeats 4000000 in
set_option maxRecDepth 100000 in
theorem T_X12_out_27 {P : mh_E → Prop} {N d : Nat} (hd : 4 ≤ d) {z : (Int32 × mh_H)} {h : mh_H} {l0 : Nat} (hq : D_X12_out_27 N h l0 = some z) : mh_go P d mX12_out 27 [some (.ref l0), none, none, none] [] h (some (.int z.1)) z.2 := by
  unfold D_X12_out_27 at hq
  refine st_aload_n (pc := 27) dX12_out_27 rfl ?_
  refine st_iconst (pc := 28) (v := (1 : Int32)) dX12_out_28 rfl ?_
  obtain ⟨⟨hbq1, hkq1⟩, hq⟩ := mh_oi hq
  obtain ⟨q1, e1, hq⟩ := mh_ob hq
  refine st_invV (pc := 29) (ci := 12) (vs := [.int (1 : Int32)]) (rest := []) (st2 := [.int q1.1]) dX12_out_29 okX12_error (by decide) hkq1 hbq1 wd_1274 wd_1276 wp_37 pdX12_error rfl rfl rfl rfl (Nat.le_trans (by decide) hd) (Nat.le_of_ble_eq_true rfl) (T_X12_error (Nat.le_refl _) e1) rfl ?_
  exact bd_iret (pc := 32) hq dX12_out_32 rfl
def D_X12_out (N : Nat) (h : mh_H) (l0 : Nat) (l1 : Int32) (l2 : Int32) (l3 : Int32) : Option (Int32 × mh_H) :=
  kO h 12 l0 <|
  (D_X12_isJoint N h l0 l1).bind fun q1 =>
  if q1.1 = 0 then (D_X12_out_27 N q1.2 l0)
  else ((D_X12_isColour N q1.2 l2).bind fun q2 =>
  if q2.1 = 0 then (D_X12_out_27 N q2.2 l0)
  else ((D_X12_in N q2.2 l3.toInt64 (1 : Int64) (24 : Int64)).bind fun q3 =>
  if q3.1 = 0 then (D_X12_out_27 N q3.2 l0)
  else (kO q3.2 12 l0 <|
  (D_X12_isEnd N q3.2 l0 l1).bind fun q4 =>
  if q4.1 = 0 then (kO q4.2 12 l0 <|
  (D_X12_error N q4.2 l0 (5 : Int32)).bind fun q5 =>
  some (q5.1, q5.2))
  else (kO q4.2 12 l0 <|
  (D_X12_outAgo N q4.2 l0 l1 l2 l3).bind fun q5 =>
  some (q5.1, q5.2)))))
set_option maxHeartbeats 4000000 in
set_option maxRecDepth 100000 in
theorem T_X12_out {P : mh_E → Prop} {N d : Nat} (hd : 4 ≤ d) {z : (Int32 × mh_H)} {h : mh_H} {l0 : Nat} {l1 : Int32} {l2 : Int32} {l3 : Int32} (hq : D_X12_out N h l0 l1 l2 l3 = some z) : mh_go P d mX12_out 0 [some (.ref l0), some (.int l1), some (.int l2), some (.int l3)] [] h (some (.int z.1)) z.2 := by
  unfold D_X12_out at hq
  refine st_aload_n (pc := 0) dX12_out_0 rfl ?_
  refine st_iload_n (pc := 1) dX12_out_1 rfl ?_
  obtain ⟨⟨hbq1, hkq1⟩, hq⟩ := mh_oi hq
  obtain ⟨q1, e1, hq⟩ := mh_ob hq
  refine st_invV (pc := 2) (ci := 12) (vs := [.int l1]) (rest := []) (st2 := [.int q1.1]) dX12_out_2 okX12_isJoint (by decide) hkq1 hbq1 wd_1286 wd_1288 wp_38 pdX12_isJoint rfl rfl rfl rfl (Nat.le_trans (by decide) hd) (Nat.le_of_ble_eq_true rfl) (T_X12_isJoint (Nat.le_refl _) e1) rfl ?_
  refine bd_if_eq (pc := 5) (tgt := 27) hq dX12_out_5 (by decide) (fun _ hq => ?_) (fun _ hq => ?_)
  ·
    refine st_lesS (lv' := [some (.ref l0), none, none, none]) ⟨Or.inr rfl, Or.inl rfl, Or.inl rfl, Or.inl rfl, trivial⟩ ?_
    exact T_X12_out_27 hd hq
  ·
    refine st_iload_n (pc := 8) dX12_out_8 rfl ?_
    obtain ⟨q2, e2, hq⟩ := mh_ob hq
    refine st_invS (pc := 9) (Y := mX12_isColour) (vs := [.int l2]) (rest := []) (st2 := [.int q2.1]) dX12_out_9 okX12_isColour wd_1358 wd_1359 pdX12_isColour rfl rfl rfl rfl (Nat.le_trans (by decide) hd) (Nat.le_of_ble_eq_true rfl) (T_X12_isColour (Nat.le_refl _) e2) rfl ?_
    refine bd_if_eq (pc := 12) (tgt := 27) hq dX12_out_12 (by decide) (fun _ hq => ?_) (fun _ hq => ?_)
    ·
      refine st_lesS (lv' := [some (.ref l0), none, none, none]) ⟨Or.inr rfl, Or.inl rfl, Or.inl rfl, Or.inl rfl, trivial⟩ ?_
      exact T_X12_out_27 hd hq
    ·
      refine st_iload_n (pc := 15) dX12_out_15 rfl ?_
      refine st_i2l (pc := 16) dX12_out_16 ?_
      refine st_lconst (pc := 17) (v := 1) dX12_out_17 rfl ?_
      refine st_ldc2 (pc := 18) (v := (24 : Int64)) dX12_out_18 wd_1460 ?_
      obtain ⟨q3, e3, hq⟩ := mh_ob hq
      refine st_invS (pc := 21) (Y := mX12_in) (vs := [.long l3.toInt64, .long (1 : Int64), .long (24 : Int64)]) (rest := []) (st2 := [.int q3.1]) dX12_out_21 okX12_in wd_1270 wd_1271 pdX12_in rfl rfl rfl rfl (Nat.le_trans (by decide) hd) (Nat.le_of_ble_eq_true rfl) (T_X12_in (Nat.le_refl _) e3) rfl ?_
      refine bd_if_ne (pc := 24) (tgt := 33) hq dX12_out_24 (by decide) (fun _ hq => ?_) (fun _ hq => ?_)
      ·
        refine st_lesS (lv' := [some (.ref l0), none, none, none]) ⟨Or.inr rfl, Or.inl rfl, Or.inl rfl, Or.inl rfl, trivial⟩ ?_
        exact T_X12_out_27 hd hq
      ·
        refine st_aload_n (pc := 33) dX12_out_33 rfl ?_
        refine st_iload_n (pc := 34) dX12_out_34 rfl ?_
        obtain ⟨⟨hbq4, hkq4⟩, hq⟩ := mh_oi hq
        obtain ⟨q4, e4, hq⟩ := mh_ob hq
        refine st_invV (pc := 35) (ci := 12) (vs := [.int l1]) (rest := []) (st2 := [.int q4.1]) dX12_out_35 okX12_isEnd (by decide) hkq4 hbq4 wd_1297 wd_1299 wp_39 pdX12_isEnd rfl rfl rfl rfl (Nat.le_trans (by decide) hd) (Nat.le_of_ble_eq_true rfl) (T_X12_isEnd (Nat.le_refl _) e4) rfl ?_
        refine bd_if_eq (pc := 38) (tgt := 51) hq dX12_out_38 (by decide) (fun _ hq => ?_) (fun _ hq => ?_)
        ·
          refine st_aload_n (pc := 51) dX12_out_51 rfl ?_
          refine st_iconst (pc := 52) (v := (5 : Int32)) dX12_out_52 rfl ?_
          obtain ⟨⟨hbq5, hkq5⟩, hq⟩ := mh_oi hq
          obtain ⟨q5, e5, hq⟩ := mh_ob hq
          refine st_invV (pc := 53) (ci := 12) (vs := [.int (5 : Int32)]) (rest := []) (st2 := [.int q5.1]) dX12_out_53 okX12_error (by decide) hkq5 hbq5 wd_1274 wd_1276 wp_37 pdX12_error rfl rfl rfl rfl (Nat.le_trans (by decide) hd) (Nat.le_of_ble_eq_true rfl) (T_X12_error (Nat.le_refl _) e5) rfl ?_
          exact bd_iret (pc := 56) hq dX12_out_56 rfl
        ·
          refine st_aload_n (pc := 41) dX12_out_41 rfl ?_
          refine st_iload_n (pc := 42) dX12_out_42 rfl ?_
          refine st_iload_n (pc := 43) dX12_out_43 rfl ?_
          refine st_iload_n (pc := 44) dX12_out_44 rfl ?_
          obtain ⟨⟨hbq5, hkq5⟩, hq⟩ := mh_oi hq
          obtain ⟨q5, e5, hq⟩ := mh_ob hq
          refine st_invV (pc := 45) (ci := 12) (vs := [.int l1, .int l2, .int l3]) (rest := []) (st2 := [.int q5.1]) dX12_out_45 okX12_outAgo (by decide) hkq5 hbq5 wd_1461 wd_1463 wp_60 pdX12_outAgo rfl rfl rfl rfl (Nat.le_trans (by decide) hd) (Nat.le_of_ble_eq_true rfl) (T_X12_outAgo (Nat.le_refl _) e5) rfl ?_
          refine st_goto (pc := 48) (tgt := 56) dX12_out_48 (by decide) ?_
          exact bd_iret (pc := 56) hq dX12_out_56 rfl
-- HoleWaterModel.laysAside()V
theorem dX12_laysAside_2 : decode cX12_laysAside 2 = .ok (.iload_n 1, 1) := by decide +kernel
theorem dX12_laysAside_3 : decode cX12_laysAside 3 = .ok (.sipush 7794, 3) := by decide +kernel
theorem dX12_laysAside_6 : decode cX12_laysAside 6 = .ok (.if_icmp .ge 21, 3) := by decide +kernel
theorem dX12_laysAside_27 : decode cX12_laysAside 27 = .ok (.return_, 1) := by decide +kernel
theorem dX12_laysAside_9 : decode cX12_laysAside 9 = .ok (.aload_n 0, 1) := by decide +kernel
theorem dX12_laysAside_10 : decode cX12_laysAside 10 = .ok (.getfield 16, 3) := by decide +kernel
theorem dX12_laysAside_13 : decode cX12_laysAside 13 = .ok (.iload_n 1, 1) := by decide +kernel
theorem dX12_laysAside_14 : decode cX12_laysAside 14 = .ok (.aload_n 0, 1) := by decide +kernel
theorem dX12_laysAside_15 : decode cX12_laysAside 15 = .ok (.getfield 9, 3) := by decide +kernel
theorem dX12_laysAside_18 : decode cX12_laysAside 18 = .ok (.iload_n 1, 1) := by decide +kernel
theorem dX12_laysAside_19 : decode cX12_laysAside 19 = .ok (.iaload, 1) := by decide +kernel
theorem dX12_laysAside_20 : decode cX12_laysAside 20 = .ok (.iastore, 1) := by decide +kernel
theorem dX12_laysAside_21 : decode cX12_laysAside 21 = .ok (.iinc 1 1, 3) := by decide +kernel
theorem dX12_laysAside_24 : decode cX12_laysAside 24 = .ok (.goto (-22), 3) := by decide +kernel
theorem dX12_laysAside_0 : decode cX12_laysAside 0 = .ok (.iconst 0, 1) := by decide +kernel
theorem dX12_laysAside_1 : decode cX12_laysAside 1 = .ok (.istore_n 1, 1) := by decide +kernel
def D_X12_laysAside_2 (N : Nat) : Nat → mh_H → Nat → Int32 → Option mh_H
  | 0, _, _, _ => none
  | F + 1, h, l0, l1 =>
    if (7794 : Int32) ≤ l1 then (some h)
    else ((gR h 12 l0 2).bind fun v1 =>
    (gR h 12 l0 0).bind fun v2 =>
    (aI h v2 l1).bind fun v3 =>
    (uI h v1 l1 v3).bind fun h4 =>
    (D_X12_laysAside_2 N F) h4 l0 (l1 + Int32.ofInt (1)))
set_option maxHeartbeats 4000000 in
set_option maxRecDepth 100000 in
theorem T_X12_laysAside_2 {P : mh_E → Prop} {N d : Nat} (hd : 1 ≤ d) {z : mh_H} : ∀ (F : Nat) (h : mh_H) (l0 : Nat) (l1 : Int32), D_X12_laysAside_2 N F h l0 l1 = some z → mh_go P d mX12_laysAside 2 [some (.ref l0), some (.int l1)] [] h none z := by
  intro F
  induction F with
  | zero => intro h l0 l1 hq; rw [D_X12_laysAside_2] at hq; cases hq
  | succ F ih =>
    intro h l0 l1 hq
    rw [D_X12_laysAside_2] at hq
    refine st_iload_n (pc := 2) dX12_laysAside_2 rfl ?_
    refine st_sipush (pc := 3) (v := (7794 : Int32)) dX12_laysAside_3 (by decide) ?_
    refine bd_icmp_ge (pc := 6) (tgt := 27) hq dX12_laysAside_6 (by decide) (fun _ hq => ?_) (fun _ hq => ?_)
    ·
      exact bd_vret (pc := 27) hq dX12_laysAside_27 rfl
    ·
      refine st_aload_n (pc := 9) dX12_laysAside_9 rfl ?_
      refine bd_getr (pc := 10) hq dX12_laysAside_10 fl_12_16_12 rfl (fun v1 hq => ?_)
      refine st_iload_n (pc := 13) dX12_laysAside_13 rfl ?_
      refine st_aload_n (pc := 14) dX12_laysAside_14 rfl ?_
      refine bd_getr (pc := 15) hq dX12_laysAside_15 fl_12_9_12 rfl (fun v2 hq => ?_)
      refine st_iload_n (pc := 18) dX12_laysAside_18 rfl ?_
      refine bd_iald (pc := 19) hq dX12_laysAside_19 (fun v3 hq => ?_)
      refine bd_iast (pc := 20) hq dX12_laysAside_20 (fun h4 hq => ?_)
      refine st_iinc (pc := 21) (lv' := [some (.ref l0), some (.int (l1 + Int32.ofInt (1)))]) dX12_laysAside_21 rfl rfl (by decide) rfl ?_
      refine st_goto (pc := 24) (tgt := 2) dX12_laysAside_24 (by decide) ?_
      exact ih _ _ _ hq
def D_X12_laysAside (N : Nat) (h : mh_H) (l0 : Nat) : Option mh_H :=
  D_X12_laysAside_2 N N h l0 (0 : Int32)
set_option maxHeartbeats 4000000 in
set_option maxRecDepth 100000 in
theorem T_X12_laysAside {P : mh_E → Prop} {N d : Nat} (hd : 1 ≤ d) {z : mh_H} {h : mh_H} {l0 : Nat} (hq : D_X12_laysAside N h l0 = some z) : mh_go P d mX12_laysAside 0 [some (.ref l0), none] [] h none z := by
  unfold D_X12_laysAside at hq
  refine st_iconst (pc := 0) (v := (0 : Int32)) dX12_laysAside_0 rfl ?_
  refine st_istore_n (pc := 1) (lv' := [some (.ref l0), some (.int (0 : Int32))]) dX12_laysAside_1 rfl (by decide) rfl ?_
  exact T_X12_laysAside_2 hd N _ _ _ hq
-- HoleWaterModel.laysBack()V
theorem dX12_laysBack_2 : decode cX12_laysBack 2 = .ok (.iload_n 1, 1) := by decide +kernel
theorem dX12_laysBack_3 : decode cX12_laysBack 3 = .ok (.sipush 7794, 3) := by decide +kernel
theorem dX12_laysBack_6 : decode cX12_laysBack 6 = .ok (.if_icmp .ge 21, 3) := by decide +kernel
theorem dX12_laysBack_27 : decode cX12_laysBack 27 = .ok (.return_, 1) := by decide +kernel
theorem dX12_laysBack_9 : decode cX12_laysBack 9 = .ok (.aload_n 0, 1) := by decide +kernel
theorem dX12_laysBack_10 : decode cX12_laysBack 10 = .ok (.getfield 9, 3) := by decide +kernel
theorem dX12_laysBack_13 : decode cX12_laysBack 13 = .ok (.iload_n 1, 1) := by decide +kernel
theorem dX12_laysBack_14 : decode cX12_laysBack 14 = .ok (.aload_n 0, 1) := by decide +kernel
theorem dX12_laysBack_15 : decode cX12_laysBack 15 = .ok (.getfield 16, 3) := by decide +kernel
theorem dX12_laysBack_18 : decode cX12_laysBack 18 = .ok (.iload_n 1, 1) := by decide +kernel
theorem dX12_laysBack_19 : decode cX12_laysBack 19 = .ok (.iaload, 1) := by decide +kernel
theorem dX12_laysBack_20 : decode cX12_laysBack 20 = .ok (.iastore, 1) := by decide +kernel
theorem dX12_laysBack_21 : decode cX12_laysBack 21 = .ok (.iinc 1 1, 3) := by decide +kernel
theorem dX12_laysBack_24 : decode cX12_laysBack 24 = .ok (.goto (-22), 3) := by decide +kernel
theorem dX12_laysBack_0 : decode cX12_laysBack 0 = .ok (.iconst 0, 1) := by decide +kernel
theorem dX12_laysBack_1 : decode cX12_laysBack 1 = .ok (.istore_n 1, 1) := by decide +kernel
def D_X12_laysBack_2 (N : Nat) : Nat → mh_H → Nat → Int32 → Option mh_H
  | 0, _, _, _ => none
  | F + 1, h, l0, l1 =>
    if (7794 : Int32) ≤ l1 then (some h)
    else ((gR h 12 l0 0).bind fun v1 =>
    (gR h 12 l0 2).bind fun v2 =>
    (aI h v2 l1).bind fun v3 =>
    (uI h v1 l1 v3).bind fun h4 =>
    (D_X12_laysBack_2 N F) h4 l0 (l1 + Int32.ofInt (1)))
set_option maxHeartbeats 4000000 in
set_option maxRecDepth 100000 in
theorem T_X12_laysBack_2 {P : mh_E → Prop} {N d : Nat} (hd : 1 ≤ d) {z : mh_H} : ∀ (F : Nat) (h : mh_H) (l0 : Nat) (l1 : Int32), D_X12_laysBack_2 N F h l0 l1 = some z → mh_go P d mX12_laysBack 2 [some (.ref l0), some (.int l1)] [] h none z := by
  intro F
  induction F with
  | zero => intro h l0 l1 hq; rw [D_X12_laysBack_2] at hq; cases hq
  | succ F ih =>
    intro h l0 l1 hq
    rw [D_X12_laysBack_2] at hq
    refine st_iload_n (pc := 2) dX12_laysBack_2 rfl ?_
    refine st_sipush (pc := 3) (v := (7794 : Int32)) dX12_laysBack_3 (by decide) ?_
    refine bd_icmp_ge (pc := 6) (tgt := 27) hq dX12_laysBack_6 (by decide) (fun _ hq => ?_) (fun _ hq => ?_)
    ·
      exact bd_vret (pc := 27) hq dX12_laysBack_27 rfl
    ·
      refine st_aload_n (pc := 9) dX12_laysBack_9 rfl ?_
      refine bd_getr (pc := 10) hq dX12_laysBack_10 fl_12_9_12 rfl (fun v1 hq => ?_)
      refine st_iload_n (pc := 13) dX12_laysBack_13 rfl ?_
      refine st_aload_n (pc := 14) dX12_laysBack_14 rfl ?_
      refine bd_getr (pc := 15) hq dX12_laysBack_15 fl_12_16_12 rfl (fun v2 hq => ?_)
      refine st_iload_n (pc := 18) dX12_laysBack_18 rfl ?_
      refine bd_iald (pc := 19) hq dX12_laysBack_19 (fun v3 hq => ?_)
      refine bd_iast (pc := 20) hq dX12_laysBack_20 (fun h4 hq => ?_)
      refine st_iinc (pc := 21) (lv' := [some (.ref l0), some (.int (l1 + Int32.ofInt (1)))]) dX12_laysBack_21 rfl rfl (by decide) rfl ?_
      refine st_goto (pc := 24) (tgt := 2) dX12_laysBack_24 (by decide) ?_
      exact ih _ _ _ hq
def D_X12_laysBack (N : Nat) (h : mh_H) (l0 : Nat) : Option mh_H :=
  D_X12_laysBack_2 N N h l0 (0 : Int32)
set_option maxHeartbeats 4000000 in
set_option maxRecDepth 100000 in
theorem T_X12_laysBack {P : mh_E → Prop} {N d : Nat} (hd : 1 ≤ d) {z : mh_H} {h : mh_H} {l0 : Nat} (hq : D_X12_laysBack N h l0 = some z) : mh_go P d mX12_laysBack 0 [some (.ref l0), none] [] h none z := by
  unfold D_X12_laysBack at hq
  refine st_iconst (pc := 0) (v := (0 : Int32)) dX12_laysBack_0 rfl ?_
  refine st_istore_n (pc := 1) (lv' := [some (.ref l0), some (.int (0 : Int32))]) dX12_laysBack_1 rfl (by decide) rfl ?_
  exact T_X12_laysBack_2 hd N _ _ _ hq
-- HoleWaterModel.spills(II)V
theorem dX12_spills_41 : decode cX12_spills 41 = .ok (.iastore, 1) := by decide +kernel
theorem dX12_spills_42 : decode cX12_spills 42 = .ok (.iinc 4 1, 3) := by decide +kernel
theorem dX12_spills_45 : decode cX12_spills 45 = .ok (.goto (-40), 3) := by decide +kernel
theorem dX12_spills_82 : decode cX12_spills 82 = .ok (.iload 5, 2) := by decide +kernel
theorem dX12_spills_84 : decode cX12_spills 84 = .ok (.bipush 41, 2) := by decide +kernel
theorem dX12_spills_86 : decode cX12_spills 86 = .ok (.if_icmp .ge 32, 3) := by decide +kernel
theorem dX12_spills_118 : decode cX12_spills 118 = .ok (.iinc 4 1, 3) := by decide +kernel
theorem dX12_spills_121 : decode cX12_spills 121 = .ok (.goto (-70), 3) := by decide +kernel
theorem dX12_spills_89 : decode cX12_spills 89 = .ok (.aload_n 0, 1) := by decide +kernel
theorem dX12_spills_90 : decode cX12_spills 90 = .ok (.getfield 9, 3) := by decide +kernel
theorem dX12_spills_93 : decode cX12_spills 93 = .ok (.iload 4, 2) := by decide +kernel
theorem dX12_spills_95 : decode cX12_spills 95 = .ok (.invokestatic 99, 3) := by decide +kernel
theorem dX12_spills_98 : decode cX12_spills 98 = .ok (.bipush 10, 2) := by decide +kernel
theorem dX12_spills_100 : decode cX12_spills 100 = .ok (.iadd, 1) := by decide +kernel
theorem dX12_spills_101 : decode cX12_spills 101 = .ok (.iconst 5, 1) := by decide +kernel
theorem dX12_spills_102 : decode cX12_spills 102 = .ok (.iload 5, 2) := by decide +kernel
theorem dX12_spills_104 : decode cX12_spills 104 = .ok (.imul, 1) := by decide +kernel
theorem dX12_spills_105 : decode cX12_spills 105 = .ok (.iadd, 1) := by decide +kernel
theorem dX12_spills_106 : decode cX12_spills 106 = .ok (.iconst 1, 1) := by decide +kernel
theorem dX12_spills_107 : decode cX12_spills 107 = .ok (.iadd, 1) := by decide +kernel
theorem dX12_spills_108 : decode cX12_spills 108 = .ok (.iload_n 3, 1) := by decide +kernel
theorem dX12_spills_109 : decode cX12_spills 109 = .ok (.iadd, 1) := by decide +kernel
theorem dX12_spills_110 : decode cX12_spills 110 = .ok (.iconst 0, 1) := by decide +kernel
theorem dX12_spills_111 : decode cX12_spills 111 = .ok (.iastore, 1) := by decide +kernel
theorem dX12_spills_112 : decode cX12_spills 112 = .ok (.iinc 5 1, 3) := by decide +kernel
theorem dX12_spills_115 : decode cX12_spills 115 = .ok (.goto (-33), 3) := by decide +kernel
theorem dX12_spills_51 : decode cX12_spills 51 = .ok (.iload 4, 2) := by decide +kernel
theorem dX12_spills_53 : decode cX12_spills 53 = .ok (.aload_n 0, 1) := by decide +kernel
theorem dX12_spills_54 : decode cX12_spills 54 = .ok (.getfield 9, 3) := by decide +kernel
theorem dX12_spills_57 : decode cX12_spills 57 = .ok (.iconst 2, 1) := by decide +kernel
theorem dX12_spills_58 : decode cX12_spills 58 = .ok (.iaload, 1) := by decide +kernel
theorem dX12_spills_59 : decode cX12_spills 59 = .ok (.if_icmp .ge 65, 3) := by decide +kernel
theorem dX12_spills_124 : decode cX12_spills 124 = .ok (.return_, 1) := by decide +kernel
theorem dX12_spills_62 : decode cX12_spills 62 = .ok (.aload_n 0, 1) := by decide +kernel
theorem dX12_spills_63 : decode cX12_spills 63 = .ok (.getfield 9, 3) := by decide +kernel
theorem dX12_spills_66 : decode cX12_spills 66 = .ok (.iload 4, 2) := by decide +kernel
theorem dX12_spills_68 : decode cX12_spills 68 = .ok (.invokestatic 99, 3) := by decide +kernel
theorem dX12_spills_71 : decode cX12_spills 71 = .ok (.iconst 5, 1) := by decide +kernel
theorem dX12_spills_72 : decode cX12_spills 72 = .ok (.iadd, 1) := by decide +kernel
theorem dX12_spills_73 : decode cX12_spills 73 = .ok (.iconst 1, 1) := by decide +kernel
theorem dX12_spills_74 : decode cX12_spills 74 = .ok (.iadd, 1) := by decide +kernel
theorem dX12_spills_75 : decode cX12_spills 75 = .ok (.iload_n 3, 1) := by decide +kernel
theorem dX12_spills_76 : decode cX12_spills 76 = .ok (.iadd, 1) := by decide +kernel
theorem dX12_spills_77 : decode cX12_spills 77 = .ok (.iconst 0, 1) := by decide +kernel
theorem dX12_spills_78 : decode cX12_spills 78 = .ok (.iastore, 1) := by decide +kernel
theorem dX12_spills_79 : decode cX12_spills 79 = .ok (.iconst 0, 1) := by decide +kernel
theorem dX12_spills_80 : decode cX12_spills 80 = .ok (.istore 5, 2) := by decide +kernel
theorem dX12_spills_5 : decode cX12_spills 5 = .ok (.iload 4, 2) := by decide +kernel
theorem dX12_spills_7 : decode cX12_spills 7 = .ok (.aload_n 0, 1) := by decide +kernel
theorem dX12_spills_8 : decode cX12_spills 8 = .ok (.getfield 9, 3) := by decide +kernel
theorem dX12_spills_11 : decode cX12_spills 11 = .ok (.iconst 1, 1) := by decide +kernel
theorem dX12_spills_12 : decode cX12_spills 12 = .ok (.iaload, 1) := by decide +kernel
theorem dX12_spills_13 : decode cX12_spills 13 = .ok (.if_icmp .ge 35, 3) := by decide +kernel
theorem dX12_spills_48 : decode cX12_spills 48 = .ok (.iconst 0, 1) := by decide +kernel
theorem dX12_spills_49 : decode cX12_spills 49 = .ok (.istore 4, 2) := by decide +kernel
theorem dX12_spills_16 : decode cX12_spills 16 = .ok (.aload_n 0, 1) := by decide +kernel
theorem dX12_spills_17 : decode cX12_spills 17 = .ok (.getfield 9, 3) := by decide +kernel
theorem dX12_spills_20 : decode cX12_spills 20 = .ok (.iload 4, 2) := by decide +kernel
theorem dX12_spills_22 : decode cX12_spills 22 = .ok (.invokestatic 71, 3) := by decide +kernel
theorem dX12_spills_25 : decode cX12_spills 25 = .ok (.bipush 7, 2) := by decide +kernel
theorem dX12_spills_27 : decode cX12_spills 27 = .ok (.iadd, 1) := by decide +kernel
theorem dX12_spills_28 : decode cX12_spills 28 = .ok (.iload_n 3, 1) := by decide +kernel
theorem dX12_spills_29 : decode cX12_spills 29 = .ok (.iadd, 1) := by decide +kernel
theorem dX12_spills_30 : decode cX12_spills 30 = .ok (.iload 4, 2) := by decide +kernel
theorem dX12_spills_32 : decode cX12_spills 32 = .ok (.iload_n 1, 1) := by decide +kernel
theorem dX12_spills_33 : decode cX12_spills 33 = .ok (.if_icmp .ne 7, 3) := by decide +kernel
theorem dX12_spills_36 : decode cX12_spills 36 = .ok (.iload_n 2, 1) := by decide +kernel
theorem dX12_spills_37 : decode cX12_spills 37 = .ok (.goto 4, 3) := by decide +kernel
theorem dX12_spills_40 : decode cX12_spills 40 = .ok (.iconst 0, 1) := by decide +kernel
theorem dX12_spills_0 : decode cX12_spills 0 = .ok (.iconst 3, 1) := by decide +kernel
theorem dX12_spills_1 : decode cX12_spills 1 = .ok (.istore_n 3, 1) := by decide +kernel
theorem dX12_spills_2 : decode cX12_spills 2 = .ok (.iconst 0, 1) := by decide +kernel
theorem dX12_spills_3 : decode cX12_spills 3 = .ok (.istore 4, 2) := by decide +kernel
def D_X12_spills_41 (N : Nat) (k5 : mh_H → Nat → Int32 → Int32 → Int32 → Int32 → Option mh_H) (h : mh_H) (l0 : Nat) (l1 : Int32) (l2 : Int32) (l3 : Int32) (l4 : Int32) (s0 : Nat) (s1 : Int32) (s2 : Int32) : Option mh_H :=
  (uI h s0 s1 s2).bind fun h1 =>
  k5 h1 l0 l1 l2 l3 (l4 + Int32.ofInt (1))
set_option maxHeartbeats 4000000 in
set_option maxRecDepth 100000 in
theorem T_X12_spills_41 {P : mh_E → Prop} {N d : Nat} (hd : 2 ≤ d) {z : mh_H} {k5 : mh_H → Nat → Int32 → Int32 → Int32 → Int32 → Option mh_H} (hk5 : ∀ (h : mh_H) (l0 : Nat) (l1 : Int32) (l2 : Int32) (l3 : Int32) (l4 : Int32), k5 h l0 l1 l2 l3 l4 = some z → mh_go P d mX12_spills 5 [some (.ref l0), some (.int l1), some (.int l2), some (.int l3), some (.int l4), none] [] h none z) {h : mh_H} {l0 : Nat} {l1 : Int32} {l2 : Int32} {l3 : Int32} {l4 : Int32} {s0 : Nat} {s1 : Int32} {s2 : Int32} (hq : D_X12_spills_41 N k5 h l0 l1 l2 l3 l4 s0 s1 s2 = some z) : mh_go P d mX12_spills 41 [some (.ref l0), some (.int l1), some (.int l2), some (.int l3), some (.int l4), none] [.int s2, .int s1, .ref s0] h none z := by
  unfold D_X12_spills_41 at hq
  refine bd_iast (pc := 41) hq dX12_spills_41 (fun h1 hq => ?_)
  refine st_iinc (pc := 42) (lv' := [some (.ref l0), some (.int l1), some (.int l2), some (.int l3), some (.int (l4 + Int32.ofInt (1))), none]) dX12_spills_42 rfl rfl (by decide) rfl ?_
  refine st_goto (pc := 45) (tgt := 5) dX12_spills_45 (by decide) ?_
  exact hk5 _ _ _ _ _ _ hq
def D_X12_spills_82 (N : Nat) (k51 : mh_H → Nat → Int32 → Int32 → Option mh_H) : Nat → mh_H → Nat → Int32 → Int32 → Int32 → Option mh_H
  | 0, _, _, _, _, _ => none
  | F + 1, h, l0, l3, l4, l5 =>
    if (41 : Int32) ≤ l5 then (k51 h l0 l3 (l4 + Int32.ofInt (1)))
    else ((gR h 12 l0 0).bind fun v1 =>
    (D_X12_way N h l4).bind fun q2 =>
    (uI q2.2 v1 ((((q2.1 + (10 : Int32)) + ((5 : Int32) * l5)) + (1 : Int32)) + l3) (0 : Int32)).bind fun h3 =>
    (D_X12_spills_82 N k51 F) h3 l0 l3 l4 (l5 + Int32.ofInt (1)))
set_option maxHeartbeats 4000000 in
set_option maxRecDepth 100000 in
theorem T_X12_spills_82 {P : mh_E → Prop} {N d : Nat} (hd : 2 ≤ d) {z : mh_H} {k51 : mh_H → Nat → Int32 → Int32 → Option mh_H} (hk51 : ∀ (h : mh_H) (l0 : Nat) (l3 : Int32) (l4 : Int32), k51 h l0 l3 l4 = some z → mh_go P d mX12_spills 51 [some (.ref l0), none, none, some (.int l3), some (.int l4), none] [] h none z) : ∀ (F : Nat) (h : mh_H) (l0 : Nat) (l3 : Int32) (l4 : Int32) (l5 : Int32), D_X12_spills_82 N k51 F h l0 l3 l4 l5 = some z → mh_go P d mX12_spills 82 [some (.ref l0), none, none, some (.int l3), some (.int l4), some (.int l5)] [] h none z := by
  intro F
  induction F with
  | zero => intro h l0 l3 l4 l5 hq; rw [D_X12_spills_82] at hq; cases hq
  | succ F ih =>
    intro h l0 l3 l4 l5 hq
    rw [D_X12_spills_82] at hq
    refine st_iload (pc := 82) dX12_spills_82 rfl ?_
    refine st_bipush (pc := 84) (v := (41 : Int32)) dX12_spills_84 (by decide) ?_
    refine bd_icmp_ge (pc := 86) (tgt := 118) hq dX12_spills_86 (by decide) (fun _ hq => ?_) (fun _ hq => ?_)
    ·
      refine st_iinc (pc := 118) (lv' := [some (.ref l0), none, none, some (.int l3), some (.int (l4 + Int32.ofInt (1))), some (.int l5)]) dX12_spills_118 rfl rfl (by decide) rfl ?_
      refine st_goto (pc := 121) (tgt := 51) dX12_spills_121 (by decide) ?_
      refine st_lesS (lv' := [some (.ref l0), none, none, some (.int l3), some (.int (l4 + Int32.ofInt (1))), none]) ⟨Or.inr rfl, Or.inr rfl, Or.inr rfl, Or.inr rfl, Or.inr rfl, Or.inl rfl, trivial⟩ ?_
      exact hk51 _ _ _ _ hq
    ·
      refine st_aload_n (pc := 89) dX12_spills_89 rfl ?_
      refine bd_getr (pc := 90) hq dX12_spills_90 fl_12_9_12 rfl (fun v1 hq => ?_)
      refine st_iload (pc := 93) dX12_spills_93 rfl ?_
      obtain ⟨q2, e2, hq⟩ := mh_ob hq
      refine st_invS (pc := 95) (Y := mX12_way) (vs := [.int l4]) (rest := [.ref v1]) (st2 := [.int q2.1, .ref v1]) dX12_spills_95 okX12_way wd_1309 wd_1310 pdX12_way rfl rfl rfl rfl (Nat.le_trans (by decide) hd) (Nat.le_of_ble_eq_true rfl) (T_X12_way (Nat.le_refl _) e2) rfl ?_
      refine st_bipush (pc := 98) (v := (10 : Int32)) dX12_spills_98 (by decide) ?_
      refine st_iadd (pc := 100) dX12_spills_100 ?_
      refine st_iconst (pc := 101) (v := (5 : Int32)) dX12_spills_101 rfl ?_
      refine st_iload (pc := 102) dX12_spills_102 rfl ?_
      refine st_imul (pc := 104) dX12_spills_104 ?_
      refine st_iadd (pc := 105) dX12_spills_105 ?_
      refine st_iconst (pc := 106) (v := (1 : Int32)) dX12_spills_106 rfl ?_
      refine st_iadd (pc := 107) dX12_spills_107 ?_
      refine st_iload_n (pc := 108) dX12_spills_108 rfl ?_
      refine st_iadd (pc := 109) dX12_spills_109 ?_
      refine st_iconst (pc := 110) (v := (0 : Int32)) dX12_spills_110 rfl ?_
      refine bd_iast (pc := 111) hq dX12_spills_111 (fun h3 hq => ?_)
      refine st_iinc (pc := 112) (lv' := [some (.ref l0), none, none, some (.int l3), some (.int l4), some (.int (l5 + Int32.ofInt (1)))]) dX12_spills_112 rfl rfl (by decide) rfl ?_
      refine st_goto (pc := 115) (tgt := 82) dX12_spills_115 (by decide) ?_
      exact ih _ _ _ _ _ hq
def D_X12_spills_51 (N : Nat) : Nat → mh_H → Nat → Int32 → Int32 → Option mh_H
  | 0, _, _, _, _ => none
  | F + 1, h, l0, l3, l4 =>
    (gR h 12 l0 0).bind fun v1 =>
    (aI h v1 (2 : Int32)).bind fun v2 =>
    if v2 ≤ l4 then (some h)
    else ((gR h 12 l0 0).bind fun v3 =>
    (D_X12_way N h l4).bind fun q4 =>
    (uI q4.2 v3 (((q4.1 + (5 : Int32)) + (1 : Int32)) + l3) (0 : Int32)).bind fun h5 =>
    D_X12_spills_82 N (D_X12_spills_51 N F) N h5 l0 l3 l4 (0 : Int32))
set_option maxHeartbeats 4000000 in
set_option maxRecDepth 100000 in
theorem T_X12_spills_51 {P : mh_E → Prop} {N d : Nat} (hd : 2 ≤ d) {z : mh_H} : ∀ (F : Nat) (h : mh_H) (l0 : Nat) (l3 : Int32) (l4 : Int32), D_X12_spills_51 N F h l0 l3 l4 = some z → mh_go P d mX12_spills 51 [some (.ref l0), none, none, some (.int l3), some (.int l4), none] [] h none z := by
  intro F
  induction F with
  | zero => intro h l0 l3 l4 hq; rw [D_X12_spills_51] at hq; cases hq
  | succ F ih =>
    intro h l0 l3 l4 hq
    rw [D_X12_spills_51] at hq
    refine st_iload (pc := 51) dX12_spills_51 rfl ?_
    refine st_aload_n (pc := 53) dX12_spills_53 rfl ?_
    refine bd_getr (pc := 54) hq dX12_spills_54 fl_12_9_12 rfl (fun v1 hq => ?_)
    refine st_iconst (pc := 57) (v := (2 : Int32)) dX12_spills_57 rfl ?_
    refine bd_iald (pc := 58) hq dX12_spills_58 (fun v2 hq => ?_)
    refine bd_icmp_ge (pc := 59) (tgt := 124) hq dX12_spills_59 (by decide) (fun _ hq => ?_) (fun _ hq => ?_)
    ·
      exact bd_vret (pc := 124) hq dX12_spills_124 rfl
    ·
      refine st_aload_n (pc := 62) dX12_spills_62 rfl ?_
      refine bd_getr (pc := 63) hq dX12_spills_63 fl_12_9_12 rfl (fun v3 hq => ?_)
      refine st_iload (pc := 66) dX12_spills_66 rfl ?_
      obtain ⟨q4, e4, hq⟩ := mh_ob hq
      refine st_invS (pc := 68) (Y := mX12_way) (vs := [.int l4]) (rest := [.ref v3]) (st2 := [.int q4.1, .ref v3]) dX12_spills_68 okX12_way wd_1309 wd_1310 pdX12_way rfl rfl rfl rfl (Nat.le_trans (by decide) hd) (Nat.le_of_ble_eq_true rfl) (T_X12_way (Nat.le_refl _) e4) rfl ?_
      refine st_iconst (pc := 71) (v := (5 : Int32)) dX12_spills_71 rfl ?_
      refine st_iadd (pc := 72) dX12_spills_72 ?_
      refine st_iconst (pc := 73) (v := (1 : Int32)) dX12_spills_73 rfl ?_
      refine st_iadd (pc := 74) dX12_spills_74 ?_
      refine st_iload_n (pc := 75) dX12_spills_75 rfl ?_
      refine st_iadd (pc := 76) dX12_spills_76 ?_
      refine st_iconst (pc := 77) (v := (0 : Int32)) dX12_spills_77 rfl ?_
      refine bd_iast (pc := 78) hq dX12_spills_78 (fun h5 hq => ?_)
      refine st_iconst (pc := 79) (v := (0 : Int32)) dX12_spills_79 rfl ?_
      refine st_istore (pc := 80) (lv' := [some (.ref l0), none, none, some (.int l3), some (.int l4), some (.int (0 : Int32))]) dX12_spills_80 rfl (by decide) rfl ?_
      exact T_X12_spills_82 hd ih N _ _ _ _ _ hq
def D_X12_spills_5 (N : Nat) : Nat → mh_H → Nat → Int32 → Int32 → Int32 → Int32 → Option mh_H
  | 0, _, _, _, _, _, _ => none
  | F + 1, h, l0, l1, l2, l3, l4 =>
    (gR h 12 l0 0).bind fun v1 =>
    (aI h v1 (1 : Int32)).bind fun v2 =>
    if v2 ≤ l4 then (D_X12_spills_51 N N h l0 l3 (0 : Int32))
    else ((gR h 12 l0 0).bind fun v3 =>
    (D_X12_joint N h l4).bind fun q4 =>
    if l4 = l1 then (D_X12_spills_41 N (D_X12_spills_5 N F) q4.2 l0 l1 l2 l3 l4 v3 ((q4.1 + (7 : Int32)) + l3) l2)
    else (D_X12_spills_41 N (D_X12_spills_5 N F) q4.2 l0 l1 l2 l3 l4 v3 ((q4.1 + (7 : Int32)) + l3) (0 : Int32)))
set_option maxHeartbeats 4000000 in
set_option maxRecDepth 100000 in
theorem T_X12_spills_5 {P : mh_E → Prop} {N d : Nat} (hd : 2 ≤ d) {z : mh_H} : ∀ (F : Nat) (h : mh_H) (l0 : Nat) (l1 : Int32) (l2 : Int32) (l3 : Int32) (l4 : Int32), D_X12_spills_5 N F h l0 l1 l2 l3 l4 = some z → mh_go P d mX12_spills 5 [some (.ref l0), some (.int l1), some (.int l2), some (.int l3), some (.int l4), none] [] h none z := by
  intro F
  induction F with
  | zero => intro h l0 l1 l2 l3 l4 hq; rw [D_X12_spills_5] at hq; cases hq
  | succ F ih =>
    intro h l0 l1 l2 l3 l4 hq
    rw [D_X12_spills_5] at hq
    refine st_iload (pc := 5) dX12_spills_5 rfl ?_
    refine st_aload_n (pc := 7) dX12_spills_7 rfl ?_
    refine bd_getr (pc := 8) hq dX12_spills_8 fl_12_9_12 rfl (fun v1 hq => ?_)
    refine st_iconst (pc := 11) (v := (1 : Int32)) dX12_spills_11 rfl ?_
    refine bd_iald (pc := 12) hq dX12_spills_12 (fun v2 hq => ?_)
    refine bd_icmp_ge (pc := 13) (tgt := 48) hq dX12_spills_13 (by decide) (fun _ hq => ?_) (fun _ hq => ?_)
    ·
      refine st_iconst (pc := 48) (v := (0 : Int32)) dX12_spills_48 rfl ?_
      refine st_istore (pc := 49) (lv' := [some (.ref l0), some (.int l1), some (.int l2), some (.int l3), some (.int (0 : Int32)), none]) dX12_spills_49 rfl (by decide) rfl ?_
      refine st_lesS (lv' := [some (.ref l0), none, none, some (.int l3), some (.int (0 : Int32)), none]) ⟨Or.inr rfl, Or.inl rfl, Or.inl rfl, Or.inr rfl, Or.inr rfl, Or.inr rfl, trivial⟩ ?_
      exact T_X12_spills_51 hd N _ _ _ _ hq
    ·
      refine st_aload_n (pc := 16) dX12_spills_16 rfl ?_
      refine bd_getr (pc := 17) hq dX12_spills_17 fl_12_9_12 rfl (fun v3 hq => ?_)
      refine st_iload (pc := 20) dX12_spills_20 rfl ?_
      obtain ⟨q4, e4, hq⟩ := mh_ob hq
      refine st_invS (pc := 22) (Y := mX12_joint) (vs := [.int l4]) (rest := [.ref v3]) (st2 := [.int q4.1, .ref v3]) dX12_spills_22 okX12_joint wd_1279 wd_1280 pdX12_joint rfl rfl rfl rfl (Nat.le_trans (by decide) hd) (Nat.le_of_ble_eq_true rfl) (T_X12_joint (Nat.le_refl _) e4) rfl ?_
      refine st_bipush (pc := 25) (v := (7 : Int32)) dX12_spills_25 (by decide) ?_
      refine st_iadd (pc := 27) dX12_spills_27 ?_
      refine st_iload_n (pc := 28) dX12_spills_28 rfl ?_
      refine st_iadd (pc := 29) dX12_spills_29 ?_
      refine st_iload (pc := 30) dX12_spills_30 rfl ?_
      refine st_iload_n (pc := 32) dX12_spills_32 rfl ?_
      refine bd_icmp_ne (pc := 33) (tgt := 40) hq dX12_spills_33 (by decide) (fun _ hq => ?_) (fun _ hq => ?_)
      ·
        refine st_iload_n (pc := 36) dX12_spills_36 rfl ?_
        refine st_goto (pc := 37) (tgt := 41) dX12_spills_37 (by decide) ?_
        exact T_X12_spills_41 hd ih hq
      ·
        refine st_iconst (pc := 40) (v := (0 : Int32)) dX12_spills_40 rfl ?_
        exact T_X12_spills_41 hd ih hq
def D_X12_spills (N : Nat) (h : mh_H) (l0 : Nat) (l1 : Int32) (l2 : Int32) : Option mh_H :=
  D_X12_spills_5 N N h l0 l1 l2 (3 : Int32) (0 : Int32)
set_option maxHeartbeats 4000000 in
set_option maxRecDepth 100000 in
theorem T_X12_spills {P : mh_E → Prop} {N d : Nat} (hd : 2 ≤ d) {z : mh_H} {h : mh_H} {l0 : Nat} {l1 : Int32} {l2 : Int32} (hq : D_X12_spills N h l0 l1 l2 = some z) : mh_go P d mX12_spills 0 [some (.ref l0), some (.int l1), some (.int l2), none, none, none] [] h none z := by
  unfold D_X12_spills at hq
  refine st_iconst (pc := 0) (v := (3 : Int32)) dX12_spills_0 rfl ?_
  refine st_istore_n (pc := 1) (lv' := [some (.ref l0), some (.int l1), some (.int l2), some (.int (3 : Int32)), none, none]) dX12_spills_1 rfl (by decide) rfl ?_
  refine st_iconst (pc := 2) (v := (0 : Int32)) dX12_spills_2 rfl ?_
  refine st_istore (pc := 3) (lv' := [some (.ref l0), some (.int l1), some (.int l2), some (.int (3 : Int32)), some (.int (0 : Int32)), none]) dX12_spills_3 rfl (by decide) rfl ?_
  exact T_X12_spills_5 hd N _ _ _ _ _ _ hq
-- HoleWaterModel.isWrongSpill(III)I
theorem dX12_isWrongSpill_0 : decode cX12_isWrongSpill 0 = .ok (.aload_n 0, 1) := by decide +kernel
theorem dX12_isWrongSpill_1 : decode cX12_isWrongSpill 1 = .ok (.iload_n 1, 1) := by decide +kernel
theorem dX12_isWrongSpill_2 : decode cX12_isWrongSpill 2 = .ok (.invokevirtual 83, 3) := by decide +kernel
theorem dX12_isWrongSpill_5 : decode cX12_isWrongSpill 5 = .ok (.ifCond .eq 23, 3) := by decide +kernel
theorem dX12_isWrongSpill_28 : decode cX12_isWrongSpill 28 = .ok (.iconst 1, 1) := by decide +kernel
theorem dX12_isWrongSpill_29 : decode cX12_isWrongSpill 29 = .ok (.ireturn, 1) := by decide +kernel
theorem dX12_isWrongSpill_8 : decode cX12_isWrongSpill 8 = .ok (.aload_n 0, 1) := by decide +kernel
theorem dX12_isWrongSpill_9 : decode cX12_isWrongSpill 9 = .ok (.iload_n 3, 1) := by decide +kernel
theorem dX12_isWrongSpill_10 : decode cX12_isWrongSpill 10 = .ok (.invokevirtual 83, 3) := by decide +kernel
theorem dX12_isWrongSpill_13 : decode cX12_isWrongSpill 13 = .ok (.ifCond .eq 15, 3) := by decide +kernel
theorem dX12_isWrongSpill_16 : decode cX12_isWrongSpill 16 = .ok (.iload_n 2, 1) := by decide +kernel
theorem dX12_isWrongSpill_17 : decode cX12_isWrongSpill 17 = .ok (.i2l, 1) := by decide +kernel
theorem dX12_isWrongSpill_18 : decode cX12_isWrongSpill 18 = .ok (.lconst 1, 1) := by decide +kernel
theorem dX12_isWrongSpill_19 : decode cX12_isWrongSpill 19 = .ok (.ldc2_w 163, 3) := by decide +kernel
theorem dX12_isWrongSpill_22 : decode cX12_isWrongSpill 22 = .ok (.invokestatic 65, 3) := by decide +kernel
theorem dX12_isWrongSpill_25 : decode cX12_isWrongSpill 25 = .ok (.ifCond .ne 5, 3) := by decide +kernel
theorem dX12_isWrongSpill_30 : decode cX12_isWrongSpill 30 = .ok (.aload_n 0, 1) := by decide +kernel
theorem dX12_isWrongSpill_31 : decode cX12_isWrongSpill 31 = .ok (.iload_n 1, 1) := by decide +kernel
theorem dX12_isWrongSpill_32 : decode cX12_isWrongSpill 32 = .ok (.invokevirtual 96, 3) := by decide +kernel
theorem dX12_isWrongSpill_35 : decode cX12_isWrongSpill 35 = .ok (.ifCond .eq 15, 3) := by decide +kernel
theorem dX12_isWrongSpill_50 : decode cX12_isWrongSpill 50 = .ok (.iconst 5, 1) := by decide +kernel
theorem dX12_isWrongSpill_51 : decode cX12_isWrongSpill 51 = .ok (.ireturn, 1) := by decide +kernel
theorem dX12_isWrongSpill_38 : decode cX12_isWrongSpill 38 = .ok (.aload_n 0, 1) := by decide +kernel
theorem dX12_isWrongSpill_39 : decode cX12_isWrongSpill 39 = .ok (.iload_n 3, 1) := by decide +kernel
theorem dX12_isWrongSpill_40 : decode cX12_isWrongSpill 40 = .ok (.invokevirtual 93, 3) := by decide +kernel
theorem dX12_isWrongSpill_43 : decode cX12_isWrongSpill 43 = .ok (.ifCond .eq 7, 3) := by decide +kernel
theorem dX12_isWrongSpill_46 : decode cX12_isWrongSpill 46 = .ok (.iconst 0, 1) := by decide +kernel
theorem dX12_isWrongSpill_47 : decode cX12_isWrongSpill 47 = .ok (.goto 4, 3) := by decide +kernel
def D_X12_isWrongSpill (N : Nat) (h : mh_H) (l0 : Nat) (l1 : Int32) (l2 : Int32) (l3 : Int32) : Option (Int32 × mh_H) :=
  kO h 12 l0 <|
  (D_X12_isJoint N h l0 l1).bind fun q1 =>
  if q1.1 = 0 then (some ((1 : Int32), q1.2))
  else (kO q1.2 12 l0 <|
  (D_X12_isJoint N q1.2 l0 l3).bind fun q2 =>
  if q2.1 = 0 then (some ((1 : Int32), q2.2))
  else ((D_X12_in N q2.2 l2.toInt64 (1 : Int64) (9999 : Int64)).bind fun q3 =>
  if q3.1 = 0 then (some ((1 : Int32), q3.2))
  else (kO q3.2 12 l0 <|
  (D_X12_isHole N q3.2 l0 l1).bind fun q4 =>
  if q4.1 = 0 then (some ((5 : Int32), q4.2))
  else (kO q4.2 12 l0 <|
  (D_X12_isEnd N q4.2 l0 l3).bind fun q5 =>
  if q5.1 = 0 then (some ((5 : Int32), q5.2))
  else (some ((0 : Int32), q5.2))))))
set_option maxHeartbeats 4000000 in
set_option maxRecDepth 100000 in
theorem T_X12_isWrongSpill {P : mh_E → Prop} {N d : Nat} (hd : 4 ≤ d) {z : (Int32 × mh_H)} {h : mh_H} {l0 : Nat} {l1 : Int32} {l2 : Int32} {l3 : Int32} (hq : D_X12_isWrongSpill N h l0 l1 l2 l3 = some z) : mh_go P d mX12_isWrongSpill 0 [some (.ref l0), some (.int l1), some (.int l2), some (.int l3)] [] h (some (.int z.1)) z.2 := by
  unfold D_X12_isWrongSpill at hq
  refine st_aload_n (pc := 0) dX12_isWrongSpill_0 rfl ?_
  refine st_iload_n (pc := 1) dX12_isWrongSpill_1 rfl ?_
  obtain ⟨⟨hbq1, hkq1⟩, hq⟩ := mh_oi hq
  obtain ⟨q1, e1, hq⟩ := mh_ob hq
  refine st_invV (pc := 2) (ci := 12) (vs := [.int l1]) (rest := []) (st2 := [.int q1.1]) dX12_isWrongSpill_2 okX12_isJoint (by decide) hkq1 hbq1 wd_1286 wd_1288 wp_38 pdX12_isJoint rfl rfl rfl rfl (Nat.le_trans (by decide) hd) (Nat.le_of_ble_eq_true rfl) (T_X12_isJoint (Nat.le_refl _) e1) rfl ?_
  refine bd_if_eq (pc := 5) (tgt := 28) hq dX12_isWrongSpill_5 (by decide) (fun _ hq => ?_) (fun _ hq => ?_)
  ·
    refine st_iconst (pc := 28) (v := (1 : Int32)) dX12_isWrongSpill_28 rfl ?_
    exact bd_iret (pc := 29) hq dX12_isWrongSpill_29 rfl
  ·
    refine st_aload_n (pc := 8) dX12_isWrongSpill_8 rfl ?_
    refine st_iload_n (pc := 9) dX12_isWrongSpill_9 rfl ?_
    obtain ⟨⟨hbq2, hkq2⟩, hq⟩ := mh_oi hq
    obtain ⟨q2, e2, hq⟩ := mh_ob hq
    refine st_invV (pc := 10) (ci := 12) (vs := [.int l3]) (rest := []) (st2 := [.int q2.1]) dX12_isWrongSpill_10 okX12_isJoint (by decide) hkq2 hbq2 wd_1286 wd_1288 wp_38 pdX12_isJoint rfl rfl rfl rfl (Nat.le_trans (by decide) hd) (Nat.le_of_ble_eq_true rfl) (T_X12_isJoint (Nat.le_refl _) e2) rfl ?_
    refine bd_if_eq (pc := 13) (tgt := 28) hq dX12_isWrongSpill_13 (by decide) (fun _ hq => ?_) (fun _ hq => ?_)
    ·
      refine st_iconst (pc := 28) (v := (1 : Int32)) dX12_isWrongSpill_28 rfl ?_
      exact bd_iret (pc := 29) hq dX12_isWrongSpill_29 rfl
    ·
      refine st_iload_n (pc := 16) dX12_isWrongSpill_16 rfl ?_
      refine st_i2l (pc := 17) dX12_isWrongSpill_17 ?_
      refine st_lconst (pc := 18) (v := 1) dX12_isWrongSpill_18 rfl ?_
      refine st_ldc2 (pc := 19) (v := (9999 : Int64)) dX12_isWrongSpill_19 wd_1427 ?_
      obtain ⟨q3, e3, hq⟩ := mh_ob hq
      refine st_invS (pc := 22) (Y := mX12_in) (vs := [.long l2.toInt64, .long (1 : Int64), .long (9999 : Int64)]) (rest := []) (st2 := [.int q3.1]) dX12_isWrongSpill_22 okX12_in wd_1270 wd_1271 pdX12_in rfl rfl rfl rfl (Nat.le_trans (by decide) hd) (Nat.le_of_ble_eq_true rfl) (T_X12_in (Nat.le_refl _) e3) rfl ?_
      refine bd_if_ne (pc := 25) (tgt := 30) hq dX12_isWrongSpill_25 (by decide) (fun _ hq => ?_) (fun _ hq => ?_)
      ·
        refine st_iconst (pc := 28) (v := (1 : Int32)) dX12_isWrongSpill_28 rfl ?_
        exact bd_iret (pc := 29) hq dX12_isWrongSpill_29 rfl
      ·
        refine st_aload_n (pc := 30) dX12_isWrongSpill_30 rfl ?_
        refine st_iload_n (pc := 31) dX12_isWrongSpill_31 rfl ?_
        obtain ⟨⟨hbq4, hkq4⟩, hq⟩ := mh_oi hq
        obtain ⟨q4, e4, hq⟩ := mh_ob hq
        refine st_invV (pc := 32) (ci := 12) (vs := [.int l1]) (rest := []) (st2 := [.int q4.1]) dX12_isWrongSpill_32 okX12_isHole (by decide) hkq4 hbq4 wd_1305 wd_1307 wp_41 pdX12_isHole rfl rfl rfl rfl (Nat.le_trans (by decide) hd) (Nat.le_of_ble_eq_true rfl) (T_X12_isHole (Nat.le_refl _) e4) rfl ?_
        refine bd_if_eq (pc := 35) (tgt := 50) hq dX12_isWrongSpill_35 (by decide) (fun _ hq => ?_) (fun _ hq => ?_)
        ·
          refine st_iconst (pc := 50) (v := (5 : Int32)) dX12_isWrongSpill_50 rfl ?_
          exact bd_iret (pc := 51) hq dX12_isWrongSpill_51 rfl
        ·
          refine st_aload_n (pc := 38) dX12_isWrongSpill_38 rfl ?_
          refine st_iload_n (pc := 39) dX12_isWrongSpill_39 rfl ?_
          obtain ⟨⟨hbq5, hkq5⟩, hq⟩ := mh_oi hq
          obtain ⟨q5, e5, hq⟩ := mh_ob hq
          refine st_invV (pc := 40) (ci := 12) (vs := [.int l3]) (rest := []) (st2 := [.int q5.1]) dX12_isWrongSpill_40 okX12_isEnd (by decide) hkq5 hbq5 wd_1297 wd_1299 wp_39 pdX12_isEnd rfl rfl rfl rfl (Nat.le_trans (by decide) hd) (Nat.le_of_ble_eq_true rfl) (T_X12_isEnd (Nat.le_refl _) e5) rfl ?_
          refine bd_if_eq (pc := 43) (tgt := 50) hq dX12_isWrongSpill_43 (by decide) (fun _ hq => ?_) (fun _ hq => ?_)
          ·
            refine st_iconst (pc := 50) (v := (5 : Int32)) dX12_isWrongSpill_50 rfl ?_
            exact bd_iret (pc := 51) hq dX12_isWrongSpill_51 rfl
          ·
            refine st_iconst (pc := 46) (v := (0 : Int32)) dX12_isWrongSpill_46 rfl ?_
            refine st_goto (pc := 47) (tgt := 51) dX12_isWrongSpill_47 (by decide) ?_
            exact bd_iret (pc := 51) hq dX12_isWrongSpill_51 rfl
-- HoleWaterModel.spill(IIII)I
theorem dX12_spill_54 : decode cX12_spill 54 = .ok (.iload 7, 2) := by decide +kernel
theorem dX12_spill_56 : decode cX12_spill 56 = .ok (.iload 4, 2) := by decide +kernel
theorem dX12_spill_58 : decode cX12_spill 58 = .ok (.if_icmp .ge 25, 3) := by decide +kernel
theorem dX12_spill_83 : decode cX12_spill 83 = .ok (.aload_n 0, 1) := by decide +kernel
theorem dX12_spill_84 : decode cX12_spill 84 = .ok (.invokevirtual 192, 3) := by decide +kernel
theorem dX12_spill_87 : decode cX12_spill 87 = .ok (.iload 6, 2) := by decide +kernel
theorem dX12_spill_89 : decode cX12_spill 89 = .ok (.ireturn, 1) := by decide +kernel
theorem dX12_spill_61 : decode cX12_spill 61 = .ok (.aload_n 0, 1) := by decide +kernel
theorem dX12_spill_62 : decode cX12_spill 62 = .ok (.invokevirtual 160, 3) := by decide +kernel
theorem dX12_spill_65 : decode cX12_spill 65 = .ok (.iload 6, 2) := by decide +kernel
theorem dX12_spill_67 : decode cX12_spill 67 = .ok (.aload_n 0, 1) := by decide +kernel
theorem dX12_spill_68 : decode cX12_spill 68 = .ok (.iload_n 3, 1) := by decide +kernel
theorem dX12_spill_69 : decode cX12_spill 69 = .ok (.iconst 3, 1) := by decide +kernel
theorem dX12_spill_70 : decode cX12_spill 70 = .ok (.iconst 1, 1) := by decide +kernel
theorem dX12_spill_71 : decode cX12_spill 71 = .ok (.invokevirtual 179, 3) := by decide +kernel
theorem dX12_spill_74 : decode cX12_spill 74 = .ok (.iadd, 1) := by decide +kernel
theorem dX12_spill_75 : decode cX12_spill 75 = .ok (.istore 6, 2) := by decide +kernel
theorem dX12_spill_77 : decode cX12_spill 77 = .ok (.iinc 7 1, 3) := by decide +kernel
theorem dX12_spill_80 : decode cX12_spill 80 = .ok (.goto (-26), 3) := by decide +kernel
theorem dX12_spill_24 : decode cX12_spill 24 = .ok (.istore 5, 2) := by decide +kernel
theorem dX12_spill_26 : decode cX12_spill 26 = .ok (.iload 5, 2) := by decide +kernel
theorem dX12_spill_28 : decode cX12_spill 28 = .ok (.ifCond .eq 10, 3) := by decide +kernel
theorem dX12_spill_38 : decode cX12_spill 38 = .ok (.iconst 0, 1) := by decide +kernel
theorem dX12_spill_39 : decode cX12_spill 39 = .ok (.istore 6, 2) := by decide +kernel
theorem dX12_spill_41 : decode cX12_spill 41 = .ok (.aload_n 0, 1) := by decide +kernel
theorem dX12_spill_42 : decode cX12_spill 42 = .ok (.invokevirtual 185, 3) := by decide +kernel
theorem dX12_spill_45 : decode cX12_spill 45 = .ok (.aload_n 0, 1) := by decide +kernel
theorem dX12_spill_46 : decode cX12_spill 46 = .ok (.iload_n 1, 1) := by decide +kernel
theorem dX12_spill_47 : decode cX12_spill 47 = .ok (.iload_n 2, 1) := by decide +kernel
theorem dX12_spill_48 : decode cX12_spill 48 = .ok (.invokevirtual 188, 3) := by decide +kernel
theorem dX12_spill_51 : decode cX12_spill 51 = .ok (.iconst 0, 1) := by decide +kernel
theorem dX12_spill_52 : decode cX12_spill 52 = .ok (.istore 7, 2) := by decide +kernel
theorem dX12_spill_31 : decode cX12_spill 31 = .ok (.aload_n 0, 1) := by decide +kernel
theorem dX12_spill_32 : decode cX12_spill 32 = .ok (.iload 5, 2) := by decide +kernel
theorem dX12_spill_34 : decode cX12_spill 34 = .ok (.invokevirtual 80, 3) := by decide +kernel
theorem dX12_spill_37 : decode cX12_spill 37 = .ok (.ireturn, 1) := by decide +kernel
theorem dX12_spill_0 : decode cX12_spill 0 = .ok (.iload 4, 2) := by decide +kernel
theorem dX12_spill_2 : decode cX12_spill 2 = .ok (.i2l, 1) := by decide +kernel
theorem dX12_spill_3 : decode cX12_spill 3 = .ok (.lconst 1, 1) := by decide +kernel
theorem dX12_spill_4 : decode cX12_spill 4 = .ok (.ldc2_w 158, 3) := by decide +kernel
theorem dX12_spill_7 : decode cX12_spill 7 = .ok (.invokestatic 65, 3) := by decide +kernel
theorem dX12_spill_10 : decode cX12_spill 10 = .ok (.ifCond .eq 13, 3) := by decide +kernel
theorem dX12_spill_23 : decode cX12_spill 23 = .ok (.iconst 1, 1) := by decide +kernel
theorem dX12_spill_13 : decode cX12_spill 13 = .ok (.aload_n 0, 1) := by decide +kernel
theorem dX12_spill_14 : decode cX12_spill 14 = .ok (.iload_n 1, 1) := by decide +kernel
theorem dX12_spill_15 : decode cX12_spill 15 = .ok (.iload_n 2, 1) := by decide +kernel
theorem dX12_spill_16 : decode cX12_spill 16 = .ok (.iload_n 3, 1) := by decide +kernel
theorem dX12_spill_17 : decode cX12_spill 17 = .ok (.invokevirtual 182, 3) := by decide +kernel
theorem dX12_spill_20 : decode cX12_spill 20 = .ok (.goto 4, 3) := by decide +kernel
def D_X12_spill_54 (N : Nat) : Nat → mh_H → Nat → Int32 → Int32 → Int32 → Int32 → Option (Int32 × mh_H)
  | 0, _, _, _, _, _, _ => none
  | F + 1, h, l0, l3, l4, l6, l7 =>
    if l4 ≤ l7 then (kO h 12 l0 <|
    (D_X12_laysBack N h l0).bind fun q1 =>
    some (l6, q1))
    else (kO h 12 l0 <|
    (D_X12_hour N h l0).bind fun q1 =>
    kO q1 12 l0 <|
    (D_X12_outAgo N q1 l0 l3 (3 : Int32) (1 : Int32)).bind fun q2 =>
    (D_X12_spill_54 N F) q2.2 l0 l3 l4 (l6 + q2.1) (l7 + Int32.ofInt (1)))
set_option maxHeartbeats 4000000 in
set_option maxRecDepth 100000 in
theorem T_X12_spill_54 {P : mh_E → Prop} {N d : Nat} (hd : 6 ≤ d) {z : (Int32 × mh_H)} : ∀ (F : Nat) (h : mh_H) (l0 : Nat) (l3 : Int32) (l4 : Int32) (l6 : Int32) (l7 : Int32), D_X12_spill_54 N F h l0 l3 l4 l6 l7 = some z → mh_go P d mX12_spill 54 [some (.ref l0), none, none, some (.int l3), some (.int l4), none, some (.int l6), some (.int l7)] [] h (some (.int z.1)) z.2 := by
  intro F
  induction F with
  | zero => intro h l0 l3 l4 l6 l7 hq; rw [D_X12_spill_54] at hq; cases hq
  | succ F ih =>
    intro h l0 l3 l4 l6 l7 hq
    rw [D_X12_spill_54] at hq
    refine st_iload (pc := 54) dX12_spill_54 rfl ?_
    refine st_iload (pc := 56) dX12_spill_56 rfl ?_
    refine bd_icmp_ge (pc := 58) (tgt := 83) hq dX12_spill_58 (by decide) (fun _ hq => ?_) (fun _ hq => ?_)
    ·
      refine st_aload_n (pc := 83) dX12_spill_83 rfl ?_
      obtain ⟨⟨hbq1, hkq1⟩, hq⟩ := mh_oi hq
      obtain ⟨q1, e1, hq⟩ := mh_ob hq
      refine st_invV (pc := 84) (ci := 12) (vs := []) (rest := []) (st2 := []) dX12_spill_84 okX12_laysBack (by decide) hkq1 hbq1 wd_1481 wd_1483 wp_64 pdX12_laysBack rfl rfl rfl rfl (Nat.le_trans (by decide) hd) (Nat.le_of_ble_eq_true rfl) (T_X12_laysBack (Nat.le_refl _) e1) rfl ?_
      refine st_iload (pc := 87) dX12_spill_87 rfl ?_
      exact bd_iret (pc := 89) hq dX12_spill_89 rfl
    ·
      refine st_aload_n (pc := 61) dX12_spill_61 rfl ?_
      obtain ⟨⟨hbq1, hkq1⟩, hq⟩ := mh_oi hq
      obtain ⟨q1, e1, hq⟩ := mh_ob hq
      refine st_invV (pc := 62) (ci := 12) (vs := []) (rest := []) (st2 := []) dX12_spill_62 okX12_hour (by decide) hkq1 hbq1 wd_1366 wd_1368 wp_46 pdX12_hour rfl rfl rfl rfl (Nat.le_trans (by decide) hd) (Nat.le_of_ble_eq_true rfl) (T_X12_hour (Nat.le_refl _) e1) rfl ?_
      refine st_iload (pc := 65) dX12_spill_65 rfl ?_
      refine st_aload_n (pc := 67) dX12_spill_67 rfl ?_
      refine st_iload_n (pc := 68) dX12_spill_68 rfl ?_
      refine st_iconst (pc := 69) (v := (3 : Int32)) dX12_spill_69 rfl ?_
      refine st_iconst (pc := 70) (v := (1 : Int32)) dX12_spill_70 rfl ?_
      obtain ⟨⟨hbq2, hkq2⟩, hq⟩ := mh_oi hq
      obtain ⟨q2, e2, hq⟩ := mh_ob hq
      refine st_invV (pc := 71) (ci := 12) (vs := [.int l3, .int (3 : Int32), .int (1 : Int32)]) (rest := [.int l6]) (st2 := [.int q2.1, .int l6]) dX12_spill_71 okX12_outAgo (by decide) hkq2 hbq2 wd_1461 wd_1463 wp_60 pdX12_outAgo rfl rfl rfl rfl (Nat.le_trans (by decide) hd) (Nat.le_of_ble_eq_true rfl) (T_X12_outAgo (Nat.le_refl _) e2) rfl ?_
      refine st_iadd (pc := 74) dX12_spill_74 ?_
      refine st_istore (pc := 75) (lv' := [some (.ref l0), none, none, some (.int l3), some (.int l4), none, some (.int (l6 + q2.1)), some (.int l7)]) dX12_spill_75 rfl (by decide) rfl ?_
      refine st_iinc (pc := 77) (lv' := [some (.ref l0), none, none, some (.int l3), some (.int l4), none, some (.int (l6 + q2.1)), some (.int (l7 + Int32.ofInt (1)))]) dX12_spill_77 rfl rfl (by decide) rfl ?_
      refine st_goto (pc := 80) (tgt := 54) dX12_spill_80 (by decide) ?_
      exact ih _ _ _ _ _ _ hq
def D_X12_spill_24 (N : Nat) (h : mh_H) (l0 : Nat) (l1 : Int32) (l2 : Int32) (l3 : Int32) (l4 : Int32) (s0 : Int32) : Option (Int32 × mh_H) :=
  if s0 = 0 then (kO h 12 l0 <|
  (D_X12_laysAside N h l0).bind fun q1 =>
  kO q1 12 l0 <|
  (D_X12_spills N q1 l0 l1 l2).bind fun q2 =>
  D_X12_spill_54 N N q2 l0 l3 l4 (0 : Int32) (0 : Int32))
  else (kO h 12 l0 <|
  (D_X12_error N h l0 s0).bind fun q1 =>
  some (q1.1, q1.2))
set_option maxHeartbeats 4000000 in
set_option maxRecDepth 100000 in
theorem T_X12_spill_24 {P : mh_E → Prop} {N d : Nat} (hd : 6 ≤ d) {z : (Int32 × mh_H)} {h : mh_H} {l0 : Nat} {l1 : Int32} {l2 : Int32} {l3 : Int32} {l4 : Int32} {s0 : Int32} (hq : D_X12_spill_24 N h l0 l1 l2 l3 l4 s0 = some z) : mh_go P d mX12_spill 24 [some (.ref l0), some (.int l1), some (.int l2), some (.int l3), some (.int l4), none, none, none] [.int s0] h (some (.int z.1)) z.2 := by
  unfold D_X12_spill_24 at hq
  refine st_istore (pc := 24) (lv' := [some (.ref l0), some (.int l1), some (.int l2), some (.int l3), some (.int l4), some (.int s0), none, none]) dX12_spill_24 rfl (by decide) rfl ?_
  refine st_iload (pc := 26) dX12_spill_26 rfl ?_
  refine bd_if_eq (pc := 28) (tgt := 38) hq dX12_spill_28 (by decide) (fun _ hq => ?_) (fun _ hq => ?_)
  ·
    refine st_iconst (pc := 38) (v := (0 : Int32)) dX12_spill_38 rfl ?_
    refine st_istore (pc := 39) (lv' := [some (.ref l0), some (.int l1), some (.int l2), some (.int l3), some (.int l4), some (.int s0), some (.int (0 : Int32)), none]) dX12_spill_39 rfl (by decide) rfl ?_
    refine st_aload_n (pc := 41) dX12_spill_41 rfl ?_
    obtain ⟨⟨hbq1, hkq1⟩, hq⟩ := mh_oi hq
    obtain ⟨q1, e1, hq⟩ := mh_ob hq
    refine st_invV (pc := 42) (ci := 12) (vs := []) (rest := []) (st2 := []) dX12_spill_42 okX12_laysAside (by decide) hkq1 hbq1 wd_1473 wd_1475 wp_62 pdX12_laysAside rfl rfl rfl rfl (Nat.le_trans (by decide) hd) (Nat.le_of_ble_eq_true rfl) (T_X12_laysAside (Nat.le_refl _) e1) rfl ?_
    refine st_aload_n (pc := 45) dX12_spill_45 rfl ?_
    refine st_iload_n (pc := 46) dX12_spill_46 rfl ?_
    refine st_iload_n (pc := 47) dX12_spill_47 rfl ?_
    obtain ⟨⟨hbq2, hkq2⟩, hq⟩ := mh_oi hq
    obtain ⟨q2, e2, hq⟩ := mh_ob hq
    refine st_invV (pc := 48) (ci := 12) (vs := [.int l1, .int l2]) (rest := []) (st2 := []) dX12_spill_48 okX12_spills (by decide) hkq2 hbq2 wd_1477 wd_1479 wp_63 pdX12_spills rfl rfl rfl rfl (Nat.le_trans (by decide) hd) (Nat.le_of_ble_eq_true rfl) (T_X12_spills (Nat.le_refl _) e2) rfl ?_
    refine st_iconst (pc := 51) (v := (0 : Int32)) dX12_spill_51 rfl ?_
    refine st_istore (pc := 52) (lv' := [some (.ref l0), some (.int l1), some (.int l2), some (.int l3), some (.int l4), some (.int s0), some (.int (0 : Int32)), some (.int (0 : Int32))]) dX12_spill_52 rfl (by decide) rfl ?_
    refine st_lesS (lv' := [some (.ref l0), none, none, some (.int l3), some (.int l4), none, some (.int (0 : Int32)), some (.int (0 : Int32))]) ⟨Or.inr rfl, Or.inl rfl, Or.inl rfl, Or.inr rfl, Or.inr rfl, Or.inl rfl, Or.inr rfl, Or.inr rfl, trivial⟩ ?_
    exact T_X12_spill_54 hd N _ _ _ _ _ _ hq
  ·
    refine st_aload_n (pc := 31) dX12_spill_31 rfl ?_
    refine st_iload (pc := 32) dX12_spill_32 rfl ?_
    obtain ⟨⟨hbq1, hkq1⟩, hq⟩ := mh_oi hq
    obtain ⟨q1, e1, hq⟩ := mh_ob hq
    refine st_invV (pc := 34) (ci := 12) (vs := [.int s0]) (rest := []) (st2 := [.int q1.1]) dX12_spill_34 okX12_error (by decide) hkq1 hbq1 wd_1274 wd_1276 wp_37 pdX12_error rfl rfl rfl rfl (Nat.le_trans (by decide) hd) (Nat.le_of_ble_eq_true rfl) (T_X12_error (Nat.le_refl _) e1) rfl ?_
    exact bd_iret (pc := 37) hq dX12_spill_37 rfl
def D_X12_spill (N : Nat) (h : mh_H) (l0 : Nat) (l1 : Int32) (l2 : Int32) (l3 : Int32) (l4 : Int32) : Option (Int32 × mh_H) :=
  (D_X12_in N h l4.toInt64 (1 : Int64) (60 : Int64)).bind fun q1 =>
  if q1.1 = 0 then (D_X12_spill_24 N q1.2 l0 l1 l2 l3 l4 (1 : Int32))
  else (kO q1.2 12 l0 <|
  (D_X12_isWrongSpill N q1.2 l0 l1 l2 l3).bind fun q2 =>
  D_X12_spill_24 N q2.2 l0 l1 l2 l3 l4 q2.1)
set_option maxHeartbeats 4000000 in
set_option maxRecDepth 100000 in
theorem T_X12_spill {P : mh_E → Prop} {N d : Nat} (hd : 6 ≤ d) {z : (Int32 × mh_H)} {h : mh_H} {l0 : Nat} {l1 : Int32} {l2 : Int32} {l3 : Int32} {l4 : Int32} (hq : D_X12_spill N h l0 l1 l2 l3 l4 = some z) : mh_go P d mX12_spill 0 [some (.ref l0), some (.int l1), some (.int l2), some (.int l3), some (.int l4), none, none, none] [] h (some (.int z.1)) z.2 := by
  unfold D_X12_spill at hq
  refine st_iload (pc := 0) dX12_spill_0 rfl ?_
  refine st_i2l (pc := 2) dX12_spill_2 ?_
  refine st_lconst (pc := 3) (v := 1) dX12_spill_3 rfl ?_
  refine st_ldc2 (pc := 4) (v := (60 : Int64)) dX12_spill_4 wd_1365 ?_
  obtain ⟨q1, e1, hq⟩ := mh_ob hq
  refine st_invS (pc := 7) (Y := mX12_in) (vs := [.long l4.toInt64, .long (1 : Int64), .long (60 : Int64)]) (rest := []) (st2 := [.int q1.1]) dX12_spill_7 okX12_in wd_1270 wd_1271 pdX12_in rfl rfl rfl rfl (Nat.le_trans (by decide) hd) (Nat.le_of_ble_eq_true rfl) (T_X12_in (Nat.le_refl _) e1) rfl ?_
  refine bd_if_eq (pc := 10) (tgt := 23) hq dX12_spill_10 (by decide) (fun _ hq => ?_) (fun _ hq => ?_)
  ·
    refine st_iconst (pc := 23) (v := (1 : Int32)) dX12_spill_23 rfl ?_
    exact T_X12_spill_24 hd hq
  ·
    refine st_aload_n (pc := 13) dX12_spill_13 rfl ?_
    refine st_iload_n (pc := 14) dX12_spill_14 rfl ?_
    refine st_iload_n (pc := 15) dX12_spill_15 rfl ?_
    refine st_iload_n (pc := 16) dX12_spill_16 rfl ?_
    obtain ⟨⟨hbq2, hkq2⟩, hq⟩ := mh_oi hq
    obtain ⟨q2, e2, hq⟩ := mh_ob hq
    refine st_invV (pc := 17) (ci := 12) (vs := [.int l1, .int l2, .int l3]) (rest := []) (st2 := [.int q2.1]) dX12_spill_17 okX12_isWrongSpill (by decide) hkq2 hbq2 wd_1469 wd_1471 wp_61 pdX12_isWrongSpill rfl rfl rfl rfl (Nat.le_trans (by decide) hd) (Nat.le_of_ble_eq_true rfl) (T_X12_isWrongSpill (Nat.le_refl _) e2) rfl ?_
    refine st_goto (pc := 20) (tgt := 24) dX12_spill_20 (by decide) ?_
    exact T_X12_spill_24 hd hq
-- HoleWaterModel.first(III)I
theorem dX12_first_69 : decode cX12_first 69 = .ok (.istore 5, 2) := by decide +kernel
theorem dX12_first_71 : decode cX12_first 71 = .ok (.iinc 6 1, 3) := by decide +kernel
theorem dX12_first_74 : decode cX12_first 74 = .ok (.goto (-37), 3) := by decide +kernel
theorem dX12_first_77 : decode cX12_first 77 = .ok (.aload_n 0, 1) := by decide +kernel
theorem dX12_first_78 : decode cX12_first 78 = .ok (.invokevirtual 192, 3) := by decide +kernel
theorem dX12_first_81 : decode cX12_first 81 = .ok (.iload 5, 2) := by decide +kernel
theorem dX12_first_83 : decode cX12_first 83 = .ok (.ifCond .le 8, 3) := by decide +kernel
theorem dX12_first_91 : decode cX12_first 91 = .ok (.aload_n 0, 1) := by decide +kernel
theorem dX12_first_92 : decode cX12_first 92 = .ok (.iconst 2, 1) := by decide +kernel
theorem dX12_first_93 : decode cX12_first 93 = .ok (.invokevirtual 80, 3) := by decide +kernel
theorem dX12_first_96 : decode cX12_first 96 = .ok (.ireturn, 1) := by decide +kernel
theorem dX12_first_86 : decode cX12_first 86 = .ok (.iload 5, 2) := by decide +kernel
theorem dX12_first_88 : decode cX12_first 88 = .ok (.goto 8, 3) := by decide +kernel
theorem dX12_first_37 : decode cX12_first 37 = .ok (.iload 6, 2) := by decide +kernel
theorem dX12_first_39 : decode cX12_first 39 = .ok (.bipush 60, 2) := by decide +kernel
theorem dX12_first_41 : decode cX12_first 41 = .ok (.if_icmp .gt 36, 3) := by decide +kernel
theorem dX12_first_44 : decode cX12_first 44 = .ok (.iload 5, 2) := by decide +kernel
theorem dX12_first_46 : decode cX12_first 46 = .ok (.ifCond .ne 31, 3) := by decide +kernel
theorem dX12_first_49 : decode cX12_first 49 = .ok (.aload_n 0, 1) := by decide +kernel
theorem dX12_first_50 : decode cX12_first 50 = .ok (.invokevirtual 160, 3) := by decide +kernel
theorem dX12_first_53 : decode cX12_first 53 = .ok (.aload_n 0, 1) := by decide +kernel
theorem dX12_first_54 : decode cX12_first 54 = .ok (.iload_n 3, 1) := by decide +kernel
theorem dX12_first_55 : decode cX12_first 55 = .ok (.iconst 3, 1) := by decide +kernel
theorem dX12_first_56 : decode cX12_first 56 = .ok (.iconst 1, 1) := by decide +kernel
theorem dX12_first_57 : decode cX12_first 57 = .ok (.invokevirtual 179, 3) := by decide +kernel
theorem dX12_first_60 : decode cX12_first 60 = .ok (.ifCond .le 8, 3) := by decide +kernel
theorem dX12_first_68 : decode cX12_first 68 = .ok (.iconst 0, 1) := by decide +kernel
theorem dX12_first_63 : decode cX12_first 63 = .ok (.iload 6, 2) := by decide +kernel
theorem dX12_first_65 : decode cX12_first 65 = .ok (.goto 4, 3) := by decide +kernel
theorem dX12_first_0 : decode cX12_first 0 = .ok (.aload_n 0, 1) := by decide +kernel
theorem dX12_first_1 : decode cX12_first 1 = .ok (.iload_n 1, 1) := by decide +kernel
theorem dX12_first_2 : decode cX12_first 2 = .ok (.iload_n 2, 1) := by decide +kernel
theorem dX12_first_3 : decode cX12_first 3 = .ok (.iload_n 3, 1) := by decide +kernel
theorem dX12_first_4 : decode cX12_first 4 = .ok (.invokevirtual 182, 3) := by decide +kernel
theorem dX12_first_7 : decode cX12_first 7 = .ok (.istore 4, 2) := by decide +kernel
theorem dX12_first_9 : decode cX12_first 9 = .ok (.iload 4, 2) := by decide +kernel
theorem dX12_first_11 : decode cX12_first 11 = .ok (.ifCond .eq 10, 3) := by decide +kernel
theorem dX12_first_21 : decode cX12_first 21 = .ok (.iconst 0, 1) := by decide +kernel
theorem dX12_first_22 : decode cX12_first 22 = .ok (.istore 5, 2) := by decide +kernel
theorem dX12_first_24 : decode cX12_first 24 = .ok (.aload_n 0, 1) := by decide +kernel
theorem dX12_first_25 : decode cX12_first 25 = .ok (.invokevirtual 185, 3) := by decide +kernel
theorem dX12_first_28 : decode cX12_first 28 = .ok (.aload_n 0, 1) := by decide +kernel
theorem dX12_first_29 : decode cX12_first 29 = .ok (.iload_n 1, 1) := by decide +kernel
theorem dX12_first_30 : decode cX12_first 30 = .ok (.iload_n 2, 1) := by decide +kernel
theorem dX12_first_31 : decode cX12_first 31 = .ok (.invokevirtual 188, 3) := by decide +kernel
theorem dX12_first_34 : decode cX12_first 34 = .ok (.iconst 1, 1) := by decide +kernel
theorem dX12_first_35 : decode cX12_first 35 = .ok (.istore 6, 2) := by decide +kernel
theorem dX12_first_14 : decode cX12_first 14 = .ok (.aload_n 0, 1) := by decide +kernel
theorem dX12_first_15 : decode cX12_first 15 = .ok (.iload 4, 2) := by decide +kernel
theorem dX12_first_17 : decode cX12_first 17 = .ok (.invokevirtual 80, 3) := by decide +kernel
theorem dX12_first_20 : decode cX12_first 20 = .ok (.ireturn, 1) := by decide +kernel
def D_X12_first_69 (N : Nat) (k37 : mh_H → Nat → Int32 → Int32 → Int32 → Option (Int32 × mh_H)) (h : mh_H) (l0 : Nat) (l3 : Int32) (l6 : Int32) (s0 : Int32) : Option (Int32 × mh_H) :=
  k37 h l0 l3 s0 (l6 + Int32.ofInt (1))
set_option maxHeartbeats 4000000 in
set_option maxRecDepth 100000 in
theorem T_X12_first_69 {P : mh_E → Prop} {N d : Nat} (hd : 6 ≤ d) {z : (Int32 × mh_H)} {k37 : mh_H → Nat → Int32 → Int32 → Int32 → Option (Int32 × mh_H)} (hk37 : ∀ (h : mh_H) (l0 : Nat) (l3 : Int32) (l5 : Int32) (l6 : Int32), k37 h l0 l3 l5 l6 = some z → mh_go P d mX12_first 37 [some (.ref l0), none, none, some (.int l3), none, some (.int l5), some (.int l6)] [] h (some (.int z.1)) z.2) {h : mh_H} {l0 : Nat} {l3 : Int32} {l6 : Int32} {s0 : Int32} (hq : D_X12_first_69 N k37 h l0 l3 l6 s0 = some z) : mh_go P d mX12_first 69 [some (.ref l0), none, none, some (.int l3), none, none, some (.int l6)] [.int s0] h (some (.int z.1)) z.2 := by
  unfold D_X12_first_69 at hq
  refine st_istore (pc := 69) (lv' := [some (.ref l0), none, none, some (.int l3), none, some (.int s0), some (.int l6)]) dX12_first_69 rfl (by decide) rfl ?_
  refine st_iinc (pc := 71) (lv' := [some (.ref l0), none, none, some (.int l3), none, some (.int s0), some (.int (l6 + Int32.ofInt (1)))]) dX12_first_71 rfl rfl (by decide) rfl ?_
  refine st_goto (pc := 74) (tgt := 37) dX12_first_74 (by decide) ?_
  exact hk37 _ _ _ _ _ hq
def D_X12_first_77 (N : Nat) (h : mh_H) (l0 : Nat) (l5 : Int32) : Option (Int32 × mh_H) :=
  kO h 12 l0 <|
  (D_X12_laysBack N h l0).bind fun q1 =>
  if l5 ≤ 0 then (kO q1 12 l0 <|
  (D_X12_error N q1 l0 (2 : Int32)).bind fun q2 =>
  some (q2.1, q2.2))
  else (some (l5, q1))
set_option maxHeartbeats 4000000 in
set_option maxRecDepth 100000 in
theorem T_X12_first_77 {P : mh_E → Prop} {N d : Nat} (hd : 6 ≤ d) {z : (Int32 × mh_H)} {h : mh_H} {l0 : Nat} {l5 : Int32} (hq : D_X12_first_77 N h l0 l5 = some z) : mh_go P d mX12_first 77 [some (.ref l0), none, none, none, none, some (.int l5), none] [] h (some (.int z.1)) z.2 := by
  unfold D_X12_first_77 at hq
  refine st_aload_n (pc := 77) dX12_first_77 rfl ?_
  obtain ⟨⟨hbq1, hkq1⟩, hq⟩ := mh_oi hq
  obtain ⟨q1, e1, hq⟩ := mh_ob hq
  refine st_invV (pc := 78) (ci := 12) (vs := []) (rest := []) (st2 := []) dX12_first_78 okX12_laysBack (by decide) hkq1 hbq1 wd_1481 wd_1483 wp_64 pdX12_laysBack rfl rfl rfl rfl (Nat.le_trans (by decide) hd) (Nat.le_of_ble_eq_true rfl) (T_X12_laysBack (Nat.le_refl _) e1) rfl ?_
  refine st_iload (pc := 81) dX12_first_81 rfl ?_
  refine bd_if_le (pc := 83) (tgt := 91) hq dX12_first_83 (by decide) (fun _ hq => ?_) (fun _ hq => ?_)
  ·
    refine st_aload_n (pc := 91) dX12_first_91 rfl ?_
    refine st_iconst (pc := 92) (v := (2 : Int32)) dX12_first_92 rfl ?_
    obtain ⟨⟨hbq2, hkq2⟩, hq⟩ := mh_oi hq
    obtain ⟨q2, e2, hq⟩ := mh_ob hq
    refine st_invV (pc := 93) (ci := 12) (vs := [.int (2 : Int32)]) (rest := []) (st2 := [.int q2.1]) dX12_first_93 okX12_error (by decide) hkq2 hbq2 wd_1274 wd_1276 wp_37 pdX12_error rfl rfl rfl rfl (Nat.le_trans (by decide) hd) (Nat.le_of_ble_eq_true rfl) (T_X12_error (Nat.le_refl _) e2) rfl ?_
    exact bd_iret (pc := 96) hq dX12_first_96 rfl
  ·
    refine st_iload (pc := 86) dX12_first_86 rfl ?_
    refine st_goto (pc := 88) (tgt := 96) dX12_first_88 (by decide) ?_
    exact bd_iret (pc := 96) hq dX12_first_96 rfl
def D_X12_first_37 (N : Nat) : Nat → mh_H → Nat → Int32 → Int32 → Int32 → Option (Int32 × mh_H)
  | 0, _, _, _, _, _ => none
  | F + 1, h, l0, l3, l5, l6 =>
    if (60 : Int32) < l6 then (D_X12_first_77 N h l0 l5)
    else (if l5 = 0 then (kO h 12 l0 <|
    (D_X12_hour N h l0).bind fun q1 =>
    kO q1 12 l0 <|
    (D_X12_outAgo N q1 l0 l3 (3 : Int32) (1 : Int32)).bind fun q2 =>
    if q2.1 ≤ 0 then (D_X12_first_69 N (D_X12_first_37 N F) q2.2 l0 l3 l6 (0 : Int32))
    else (D_X12_first_69 N (D_X12_first_37 N F) q2.2 l0 l3 l6 l6))
    else (D_X12_first_77 N h l0 l5))
set_option maxHeartbeats 4000000 in
set_option maxRecDepth 100000 in
theorem T_X12_first_37 {P : mh_E → Prop} {N d : Nat} (hd : 6 ≤ d) {z : (Int32 × mh_H)} : ∀ (F : Nat) (h : mh_H) (l0 : Nat) (l3 : Int32) (l5 : Int32) (l6 : Int32), D_X12_first_37 N F h l0 l3 l5 l6 = some z → mh_go P d mX12_first 37 [some (.ref l0), none, none, some (.int l3), none, some (.int l5), some (.int l6)] [] h (some (.int z.1)) z.2 := by
  intro F
  induction F with
  | zero => intro h l0 l3 l5 l6 hq; rw [D_X12_first_37] at hq; cases hq
  | succ F ih =>
    intro h l0 l3 l5 l6 hq
    rw [D_X12_first_37] at hq
    refine st_iload (pc := 37) dX12_first_37 rfl ?_
    refine st_bipush (pc := 39) (v := (60 : Int32)) dX12_first_39 (by decide) ?_
    refine bd_icmp_gt (pc := 41) (tgt := 77) hq dX12_first_41 (by decide) (fun _ hq => ?_) (fun _ hq => ?_)
    ·
      refine st_lesS (lv' := [some (.ref l0), none, none, none, none, some (.int l5), none]) ⟨Or.inr rfl, Or.inr rfl, Or.inr rfl, Or.inl rfl, Or.inr rfl, Or.inr rfl, Or.inl rfl, trivial⟩ ?_
      exact T_X12_first_77 hd hq
    ·
      refine st_iload (pc := 44) dX12_first_44 rfl ?_
      refine bd_if_ne (pc := 46) (tgt := 77) hq dX12_first_46 (by decide) (fun _ hq => ?_) (fun _ hq => ?_)
      ·
        refine st_aload_n (pc := 49) dX12_first_49 rfl ?_
        obtain ⟨⟨hbq1, hkq1⟩, hq⟩ := mh_oi hq
        obtain ⟨q1, e1, hq⟩ := mh_ob hq
        refine st_invV (pc := 50) (ci := 12) (vs := []) (rest := []) (st2 := []) dX12_first_50 okX12_hour (by decide) hkq1 hbq1 wd_1366 wd_1368 wp_46 pdX12_hour rfl rfl rfl rfl (Nat.le_trans (by decide) hd) (Nat.le_of_ble_eq_true rfl) (T_X12_hour (Nat.le_refl _) e1) rfl ?_
        refine st_aload_n (pc := 53) dX12_first_53 rfl ?_
        refine st_iload_n (pc := 54) dX12_first_54 rfl ?_
        refine st_iconst (pc := 55) (v := (3 : Int32)) dX12_first_55 rfl ?_
        refine st_iconst (pc := 56) (v := (1 : Int32)) dX12_first_56 rfl ?_
        obtain ⟨⟨hbq2, hkq2⟩, hq⟩ := mh_oi hq
        obtain ⟨q2, e2, hq⟩ := mh_ob hq
        refine st_invV (pc := 57) (ci := 12) (vs := [.int l3, .int (3 : Int32), .int (1 : Int32)]) (rest := []) (st2 := [.int q2.1]) dX12_first_57 okX12_outAgo (by decide) hkq2 hbq2 wd_1461 wd_1463 wp_60 pdX12_outAgo rfl rfl rfl rfl (Nat.le_trans (by decide) hd) (Nat.le_of_ble_eq_true rfl) (T_X12_outAgo (Nat.le_refl _) e2) rfl ?_
        refine bd_if_le (pc := 60) (tgt := 68) hq dX12_first_60 (by decide) (fun _ hq => ?_) (fun _ hq => ?_)
        ·
          refine st_iconst (pc := 68) (v := (0 : Int32)) dX12_first_68 rfl ?_
          refine st_lesS (lv' := [some (.ref l0), none, none, some (.int l3), none, none, some (.int l6)]) ⟨Or.inr rfl, Or.inr rfl, Or.inr rfl, Or.inr rfl, Or.inr rfl, Or.inl rfl, Or.inr rfl, trivial⟩ ?_
          exact T_X12_first_69 hd ih hq
        ·
          refine st_iload (pc := 63) dX12_first_63 rfl ?_
          refine st_goto (pc := 65) (tgt := 69) dX12_first_65 (by decide) ?_
          refine st_lesS (lv' := [some (.ref l0), none, none, some (.int l3), none, none, some (.int l6)]) ⟨Or.inr rfl, Or.inr rfl, Or.inr rfl, Or.inr rfl, Or.inr rfl, Or.inl rfl, Or.inr rfl, trivial⟩ ?_
          exact T_X12_first_69 hd ih hq
      ·
        refine st_lesS (lv' := [some (.ref l0), none, none, none, none, some (.int l5), none]) ⟨Or.inr rfl, Or.inr rfl, Or.inr rfl, Or.inl rfl, Or.inr rfl, Or.inr rfl, Or.inl rfl, trivial⟩ ?_
        exact T_X12_first_77 hd hq
def D_X12_first (N : Nat) (h : mh_H) (l0 : Nat) (l1 : Int32) (l2 : Int32) (l3 : Int32) : Option (Int32 × mh_H) :=
  kO h 12 l0 <|
  (D_X12_isWrongSpill N h l0 l1 l2 l3).bind fun q1 =>
  if q1.1 = 0 then (kO q1.2 12 l0 <|
  (D_X12_laysAside N q1.2 l0).bind fun q2 =>
  kO q2 12 l0 <|
  (D_X12_spills N q2 l0 l1 l2).bind fun q3 =>
  D_X12_first_37 N N q3 l0 l3 (0 : Int32) (1 : Int32))
  else (kO q1.2 12 l0 <|
  (D_X12_error N q1.2 l0 q1.1).bind fun q2 =>
  some (q2.1, q2.2))
set_option maxHeartbeats 4000000 in
set_option maxRecDepth 100000 in
theorem T_X12_first {P : mh_E → Prop} {N d : Nat} (hd : 6 ≤ d) {z : (Int32 × mh_H)} {h : mh_H} {l0 : Nat} {l1 : Int32} {l2 : Int32} {l3 : Int32} (hq : D_X12_first N h l0 l1 l2 l3 = some z) : mh_go P d mX12_first 0 [some (.ref l0), some (.int l1), some (.int l2), some (.int l3), none, none, none] [] h (some (.int z.1)) z.2 := by
  unfold D_X12_first at hq
  refine st_aload_n (pc := 0) dX12_first_0 rfl ?_
  refine st_iload_n (pc := 1) dX12_first_1 rfl ?_
  refine st_iload_n (pc := 2) dX12_first_2 rfl ?_
  refine st_iload_n (pc := 3) dX12_first_3 rfl ?_
  obtain ⟨⟨hbq1, hkq1⟩, hq⟩ := mh_oi hq
  obtain ⟨q1, e1, hq⟩ := mh_ob hq
  refine st_invV (pc := 4) (ci := 12) (vs := [.int l1, .int l2, .int l3]) (rest := []) (st2 := [.int q1.1]) dX12_first_4 okX12_isWrongSpill (by decide) hkq1 hbq1 wd_1469 wd_1471 wp_61 pdX12_isWrongSpill rfl rfl rfl rfl (Nat.le_trans (by decide) hd) (Nat.le_of_ble_eq_true rfl) (T_X12_isWrongSpill (Nat.le_refl _) e1) rfl ?_
  refine st_istore (pc := 7) (lv' := [some (.ref l0), some (.int l1), some (.int l2), some (.int l3), some (.int q1.1), none, none]) dX12_first_7 rfl (by decide) rfl ?_
  refine st_iload (pc := 9) dX12_first_9 rfl ?_
  refine bd_if_eq (pc := 11) (tgt := 21) hq dX12_first_11 (by decide) (fun _ hq => ?_) (fun _ hq => ?_)
  ·
    refine st_iconst (pc := 21) (v := (0 : Int32)) dX12_first_21 rfl ?_
    refine st_istore (pc := 22) (lv' := [some (.ref l0), some (.int l1), some (.int l2), some (.int l3), some (.int q1.1), some (.int (0 : Int32)), none]) dX12_first_22 rfl (by decide) rfl ?_
    refine st_aload_n (pc := 24) dX12_first_24 rfl ?_
    obtain ⟨⟨hbq2, hkq2⟩, hq⟩ := mh_oi hq
    obtain ⟨q2, e2, hq⟩ := mh_ob hq
    refine st_invV (pc := 25) (ci := 12) (vs := []) (rest := []) (st2 := []) dX12_first_25 okX12_laysAside (by decide) hkq2 hbq2 wd_1473 wd_1475 wp_62 pdX12_laysAside rfl rfl rfl rfl (Nat.le_trans (by decide) hd) (Nat.le_of_ble_eq_true rfl) (T_X12_laysAside (Nat.le_refl _) e2) rfl ?_
    refine st_aload_n (pc := 28) dX12_first_28 rfl ?_
    refine st_iload_n (pc := 29) dX12_first_29 rfl ?_
    refine st_iload_n (pc := 30) dX12_first_30 rfl ?_
    obtain ⟨⟨hbq3, hkq3⟩, hq⟩ := mh_oi hq
    obtain ⟨q3, e3, hq⟩ := mh_ob hq
    refine st_invV (pc := 31) (ci := 12) (vs := [.int l1, .int l2]) (rest := []) (st2 := []) dX12_first_31 okX12_spills (by decide) hkq3 hbq3 wd_1477 wd_1479 wp_63 pdX12_spills rfl rfl rfl rfl (Nat.le_trans (by decide) hd) (Nat.le_of_ble_eq_true rfl) (T_X12_spills (Nat.le_refl _) e3) rfl ?_
    refine st_iconst (pc := 34) (v := (1 : Int32)) dX12_first_34 rfl ?_
    refine st_istore (pc := 35) (lv' := [some (.ref l0), some (.int l1), some (.int l2), some (.int l3), some (.int q1.1), some (.int (0 : Int32)), some (.int (1 : Int32))]) dX12_first_35 rfl (by decide) rfl ?_
    refine st_lesS (lv' := [some (.ref l0), none, none, some (.int l3), none, some (.int (0 : Int32)), some (.int (1 : Int32))]) ⟨Or.inr rfl, Or.inl rfl, Or.inl rfl, Or.inr rfl, Or.inl rfl, Or.inr rfl, Or.inr rfl, trivial⟩ ?_
    exact T_X12_first_37 hd N _ _ _ _ _ hq
  ·
    refine st_aload_n (pc := 14) dX12_first_14 rfl ?_
    refine st_iload (pc := 15) dX12_first_15 rfl ?_
    obtain ⟨⟨hbq2, hkq2⟩, hq⟩ := mh_oi hq
    obtain ⟨q2, e2, hq⟩ := mh_ob hq
    refine st_invV (pc := 17) (ci := 12) (vs := [.int q1.1]) (rest := []) (st2 := [.int q2.1]) dX12_first_17 okX12_error (by decide) hkq2 hbq2 wd_1274 wd_1276 wp_37 pdX12_error rfl rfl rfl rfl (Nat.le_trans (by decide) hd) (Nat.le_of_ble_eq_true rfl) (T_X12_error (Nat.le_refl _) e2) rfl ?_
    exact bd_iret (pc := 20) hq dX12_first_20 rfl
-- HoleWaterModel.feed(JI)I
theorem dX12_feed_41 : decode cX12_feed 41 = .ok (.iload 4, 2) := by decide +kernel
theorem dX12_feed_43 : decode cX12_feed 43 = .ok (.iload_n 3, 1) := by decide +kernel
theorem dX12_feed_44 : decode cX12_feed 44 = .ok (.if_icmp .ge 48, 3) := by decide +kernel
theorem dX12_feed_92 : decode cX12_feed 92 = .ok (.aload_n 0, 1) := by decide +kernel
theorem dX12_feed_93 : decode cX12_feed 93 = .ok (.getfield 9, 3) := by decide +kernel
theorem dX12_feed_96 : decode cX12_feed 96 = .ok (.bipush 6, 2) := by decide +kernel
theorem dX12_feed_98 : decode cX12_feed 98 = .ok (.iaload, 1) := by decide +kernel
theorem dX12_feed_99 : decode cX12_feed 99 = .ok (.ireturn, 1) := by decide +kernel
theorem dX12_feed_47 : decode cX12_feed 47 = .ok (.aload_n 0, 1) := by decide +kernel
theorem dX12_feed_48 : decode cX12_feed 48 = .ok (.getfield 9, 3) := by decide +kernel
theorem dX12_feed_51 : decode cX12_feed 51 = .ok (.sipush 7710, 3) := by decide +kernel
theorem dX12_feed_54 : decode cX12_feed 54 = .ok (.aload_n 0, 1) := by decide +kernel
theorem dX12_feed_55 : decode cX12_feed 55 = .ok (.getfield 9, 3) := by decide +kernel
theorem dX12_feed_58 : decode cX12_feed 58 = .ok (.bipush 6, 2) := by decide +kernel
theorem dX12_feed_60 : decode cX12_feed 60 = .ok (.iaload, 1) := by decide +kernel
theorem dX12_feed_61 : decode cX12_feed 61 = .ok (.iadd, 1) := by decide +kernel
theorem dX12_feed_62 : decode cX12_feed 62 = .ok (.lload_n 1, 1) := by decide +kernel
theorem dX12_feed_63 : decode cX12_feed 63 = .ok (.bipush 8, 2) := by decide +kernel
theorem dX12_feed_65 : decode cX12_feed 65 = .ok (.iload 4, 2) := by decide +kernel
theorem dX12_feed_67 : decode cX12_feed 67 = .ok (.imul, 1) := by decide +kernel
theorem dX12_feed_68 : decode cX12_feed 68 = .ok (.lshr, 1) := by decide +kernel
theorem dX12_feed_69 : decode cX12_feed 69 = .ok (.ldc2_w 197, 3) := by decide +kernel
theorem dX12_feed_72 : decode cX12_feed 72 = .ok (.land, 1) := by decide +kernel
theorem dX12_feed_73 : decode cX12_feed 73 = .ok (.l2i, 1) := by decide +kernel
theorem dX12_feed_74 : decode cX12_feed 74 = .ok (.iastore, 1) := by decide +kernel
theorem dX12_feed_75 : decode cX12_feed 75 = .ok (.aload_n 0, 1) := by decide +kernel
theorem dX12_feed_76 : decode cX12_feed 76 = .ok (.getfield 9, 3) := by decide +kernel
theorem dX12_feed_79 : decode cX12_feed 79 = .ok (.bipush 6, 2) := by decide +kernel
theorem dX12_feed_81 : decode cX12_feed 81 = .ok (.dup2, 1) := by decide +kernel
theorem dX12_feed_82 : decode cX12_feed 82 = .ok (.iaload, 1) := by decide +kernel
theorem dX12_feed_83 : decode cX12_feed 83 = .ok (.iconst 1, 1) := by decide +kernel
theorem dX12_feed_84 : decode cX12_feed 84 = .ok (.iadd, 1) := by decide +kernel
theorem dX12_feed_85 : decode cX12_feed 85 = .ok (.iastore, 1) := by decide +kernel
theorem dX12_feed_86 : decode cX12_feed 86 = .ok (.iinc 4 1, 3) := by decide +kernel
theorem dX12_feed_89 : decode cX12_feed 89 = .ok (.goto (-48), 3) := by decide +kernel
theorem dX12_feed_0 : decode cX12_feed 0 = .ok (.iload_n 3, 1) := by decide +kernel
theorem dX12_feed_1 : decode cX12_feed 1 = .ok (.i2l, 1) := by decide +kernel
theorem dX12_feed_2 : decode cX12_feed 2 = .ok (.lconst 1, 1) := by decide +kernel
theorem dX12_feed_3 : decode cX12_feed 3 = .ok (.ldc2_w 195, 3) := by decide +kernel
theorem dX12_feed_6 : decode cX12_feed 6 = .ok (.invokestatic 65, 3) := by decide +kernel
theorem dX12_feed_9 : decode cX12_feed 9 = .ok (.ifCond .ne 9, 3) := by decide +kernel
theorem dX12_feed_12 : decode cX12_feed 12 = .ok (.aload_n 0, 1) := by decide +kernel
theorem dX12_feed_13 : decode cX12_feed 13 = .ok (.iconst 1, 1) := by decide +kernel
theorem dX12_feed_14 : decode cX12_feed 14 = .ok (.invokevirtual 80, 3) := by decide +kernel
theorem dX12_feed_17 : decode cX12_feed 17 = .ok (.ireturn, 1) := by decide +kernel
theorem dX12_feed_18 : decode cX12_feed 18 = .ok (.aload_n 0, 1) := by decide +kernel
theorem dX12_feed_19 : decode cX12_feed 19 = .ok (.getfield 9, 3) := by decide +kernel
theorem dX12_feed_22 : decode cX12_feed 22 = .ok (.bipush 6, 2) := by decide +kernel
theorem dX12_feed_24 : decode cX12_feed 24 = .ok (.iaload, 1) := by decide +kernel
theorem dX12_feed_25 : decode cX12_feed 25 = .ok (.iload_n 3, 1) := by decide +kernel
theorem dX12_feed_26 : decode cX12_feed 26 = .ok (.iadd, 1) := by decide +kernel
theorem dX12_feed_27 : decode cX12_feed 27 = .ok (.bipush 60, 2) := by decide +kernel
theorem dX12_feed_29 : decode cX12_feed 29 = .ok (.if_icmp .le 9, 3) := by decide +kernel
theorem dX12_feed_38 : decode cX12_feed 38 = .ok (.iconst 0, 1) := by decide +kernel
theorem dX12_feed_39 : decode cX12_feed 39 = .ok (.istore 4, 2) := by decide +kernel
theorem dX12_feed_32 : decode cX12_feed 32 = .ok (.aload_n 0, 1) := by decide +kernel
theorem dX12_feed_33 : decode cX12_feed 33 = .ok (.iconst 4, 1) := by decide +kernel
theorem dX12_feed_34 : decode cX12_feed 34 = .ok (.invokevirtual 80, 3) := by decide +kernel
theorem dX12_feed_37 : decode cX12_feed 37 = .ok (.ireturn, 1) := by decide +kernel
def D_X12_feed_41 (N : Nat) : Nat → mh_H → Nat → Int64 → Int32 → Int32 → Option (Int32 × mh_H)
  | 0, _, _, _, _, _ => none
  | F + 1, h, l0, l1, l3, l4 =>
    if l3 ≤ l4 then ((gR h 12 l0 0).bind fun v1 =>
    (aI h v1 (6 : Int32)).bind fun v2 =>
    some (v2, h))
    else ((gR h 12 l0 0).bind fun v1 =>
    (gR h 12 l0 0).bind fun v2 =>
    (aI h v2 (6 : Int32)).bind fun v3 =>
    (uI h v1 ((7710 : Int32) + v3) (((l1 >>> (((8 : Int32) * l4).toInt64 &&& 63)) &&& (255 : Int64)).toInt32)).bind fun h4 =>
    (gR h4 12 l0 0).bind fun v5 =>
    (aI h4 v5 (6 : Int32)).bind fun v6 =>
    (uI h4 v5 (6 : Int32) (v6 + (1 : Int32))).bind fun h7 =>
    (D_X12_feed_41 N F) h7 l0 l1 l3 (l4 + Int32.ofInt (1)))
set_option maxHeartbeats 4000000 in
set_option maxRecDepth 100000 in
theorem T_X12_feed_41 {P : mh_E → Prop} {N d : Nat} (hd : 2 ≤ d) {z : (Int32 × mh_H)} : ∀ (F : Nat) (h : mh_H) (l0 : Nat) (l1 : Int64) (l3 : Int32) (l4 : Int32), D_X12_feed_41 N F h l0 l1 l3 l4 = some z → mh_go P d mX12_feed 41 [some (.ref l0), some (.long l1), none, some (.int l3), some (.int l4)] [] h (some (.int z.1)) z.2 := by
  intro F
  induction F with
  | zero => intro h l0 l1 l3 l4 hq; rw [D_X12_feed_41] at hq; cases hq
  | succ F ih =>
    intro h l0 l1 l3 l4 hq
    rw [D_X12_feed_41] at hq
    refine st_iload (pc := 41) dX12_feed_41 rfl ?_
    refine st_iload_n (pc := 43) dX12_feed_43 rfl ?_
    refine bd_icmp_ge (pc := 44) (tgt := 92) hq dX12_feed_44 (by decide) (fun _ hq => ?_) (fun _ hq => ?_)
    ·
      refine st_aload_n (pc := 92) dX12_feed_92 rfl ?_
      refine bd_getr (pc := 93) hq dX12_feed_93 fl_12_9_12 rfl (fun v1 hq => ?_)
      refine st_bipush (pc := 96) (v := (6 : Int32)) dX12_feed_96 (by decide) ?_
      refine bd_iald (pc := 98) hq dX12_feed_98 (fun v2 hq => ?_)
      exact bd_iret (pc := 99) hq dX12_feed_99 rfl
    ·
      refine st_aload_n (pc := 47) dX12_feed_47 rfl ?_
      refine bd_getr (pc := 48) hq dX12_feed_48 fl_12_9_12 rfl (fun v1 hq => ?_)
      refine st_sipush (pc := 51) (v := (7710 : Int32)) dX12_feed_51 (by decide) ?_
      refine st_aload_n (pc := 54) dX12_feed_54 rfl ?_
      refine bd_getr (pc := 55) hq dX12_feed_55 fl_12_9_12 rfl (fun v2 hq => ?_)
      refine st_bipush (pc := 58) (v := (6 : Int32)) dX12_feed_58 (by decide) ?_
      refine bd_iald (pc := 60) hq dX12_feed_60 (fun v3 hq => ?_)
      refine st_iadd (pc := 61) dX12_feed_61 ?_
      refine st_lload_n (pc := 62) dX12_feed_62 rfl ?_
      refine st_bipush (pc := 63) (v := (8 : Int32)) dX12_feed_63 (by decide) ?_
      refine st_iload (pc := 65) dX12_feed_65 rfl ?_
      refine st_imul (pc := 67) dX12_feed_67 ?_
      refine st_lshr (pc := 68) dX12_feed_68 ?_
      refine st_ldc2 (pc := 69) (v := (255 : Int64)) dX12_feed_69 wd_1494 ?_
      refine st_land (pc := 72) dX12_feed_72 ?_
      refine st_l2i (pc := 73) dX12_feed_73 ?_
      refine bd_iast (pc := 74) hq dX12_feed_74 (fun h4 hq => ?_)
      refine st_aload_n (pc := 75) dX12_feed_75 rfl ?_
      refine bd_getr (pc := 76) hq dX12_feed_76 fl_12_9_12 rfl (fun v5 hq => ?_)
      refine st_bipush (pc := 79) (v := (6 : Int32)) dX12_feed_79 (by decide) ?_
      refine st_dup2 (pc := 81) dX12_feed_81 rfl rfl ?_
      refine bd_iald (pc := 82) hq dX12_feed_82 (fun v6 hq => ?_)
      refine st_iconst (pc := 83) (v := (1 : Int32)) dX12_feed_83 rfl ?_
      refine st_iadd (pc := 84) dX12_feed_84 ?_
      refine bd_iast (pc := 85) hq dX12_feed_85 (fun h7 hq => ?_)
      refine st_iinc (pc := 86) (lv' := [some (.ref l0), some (.long l1), none, some (.int l3), some (.int (l4 + Int32.ofInt (1)))]) dX12_feed_86 rfl rfl (by decide) rfl ?_
      refine st_goto (pc := 89) (tgt := 41) dX12_feed_89 (by decide) ?_
      exact ih _ _ _ _ _ hq
def D_X12_feed (N : Nat) (h : mh_H) (l0 : Nat) (l1 : Int64) (l3 : Int32) : Option (Int32 × mh_H) :=
  (D_X12_in N h l3.toInt64 (1 : Int64) (8 : Int64)).bind fun q1 =>
  if q1.1 = 0 then (kO q1.2 12 l0 <|
  (D_X12_error N q1.2 l0 (1 : Int32)).bind fun q2 =>
  some (q2.1, q2.2))
  else ((gR q1.2 12 l0 0).bind fun v2 =>
  (aI q1.2 v2 (6 : Int32)).bind fun v3 =>
  if (v3 + l3) ≤ (60 : Int32) then (D_X12_feed_41 N N q1.2 l0 l1 l3 (0 : Int32))
  else (kO q1.2 12 l0 <|
  (D_X12_error N q1.2 l0 (4 : Int32)).bind fun q4 =>
  some (q4.1, q4.2)))
set_option maxHeartbeats 4000000 in
set_option maxRecDepth 100000 in
theorem T_X12_feed {P : mh_E → Prop} {N d : Nat} (hd : 2 ≤ d) {z : (Int32 × mh_H)} {h : mh_H} {l0 : Nat} {l1 : Int64} {l3 : Int32} (hq : D_X12_feed N h l0 l1 l3 = some z) : mh_go P d mX12_feed 0 [some (.ref l0), some (.long l1), none, some (.int l3), none] [] h (some (.int z.1)) z.2 := by
  unfold D_X12_feed at hq
  refine st_iload_n (pc := 0) dX12_feed_0 rfl ?_
  refine st_i2l (pc := 1) dX12_feed_1 ?_
  refine st_lconst (pc := 2) (v := 1) dX12_feed_2 rfl ?_
  refine st_ldc2 (pc := 3) (v := (8 : Int64)) dX12_feed_3 wd_1493 ?_
  obtain ⟨q1, e1, hq⟩ := mh_ob hq
  refine st_invS (pc := 6) (Y := mX12_in) (vs := [.long l3.toInt64, .long (1 : Int64), .long (8 : Int64)]) (rest := []) (st2 := [.int q1.1]) dX12_feed_6 okX12_in wd_1270 wd_1271 pdX12_in rfl rfl rfl rfl (Nat.le_trans (by decide) hd) (Nat.le_of_ble_eq_true rfl) (T_X12_in (Nat.le_refl _) e1) rfl ?_
  refine bd_if_ne (pc := 9) (tgt := 18) hq dX12_feed_9 (by decide) (fun _ hq => ?_) (fun _ hq => ?_)
  ·
    refine st_aload_n (pc := 12) dX12_feed_12 rfl ?_
    refine st_iconst (pc := 13) (v := (1 : Int32)) dX12_feed_13 rfl ?_
    obtain ⟨⟨hbq2, hkq2⟩, hq⟩ := mh_oi hq
    obtain ⟨q2, e2, hq⟩ := mh_ob hq
    refine st_invV (pc := 14) (ci := 12) (vs := [.int (1 : Int32)]) (rest := []) (st2 := [.int q2.1]) dX12_feed_14 okX12_error (by decide) hkq2 hbq2 wd_1274 wd_1276 wp_37 pdX12_error rfl rfl rfl rfl (Nat.le_trans (by decide) hd) (Nat.le_of_ble_eq_true rfl) (T_X12_error (Nat.le_refl _) e2) rfl ?_
    exact bd_iret (pc := 17) hq dX12_feed_17 rfl
  ·
    refine st_aload_n (pc := 18) dX12_feed_18 rfl ?_
    refine bd_getr (pc := 19) hq dX12_feed_19 fl_12_9_12 rfl (fun v2 hq => ?_)
    refine st_bipush (pc := 22) (v := (6 : Int32)) dX12_feed_22 (by decide) ?_
    refine bd_iald (pc := 24) hq dX12_feed_24 (fun v3 hq => ?_)
    refine st_iload_n (pc := 25) dX12_feed_25 rfl ?_
    refine st_iadd (pc := 26) dX12_feed_26 ?_
    refine st_bipush (pc := 27) (v := (60 : Int32)) dX12_feed_27 (by decide) ?_
    refine bd_icmp_le (pc := 29) (tgt := 38) hq dX12_feed_29 (by decide) (fun _ hq => ?_) (fun _ hq => ?_)
    ·
      refine st_iconst (pc := 38) (v := (0 : Int32)) dX12_feed_38 rfl ?_
      refine st_istore (pc := 39) (lv' := [some (.ref l0), some (.long l1), none, some (.int l3), some (.int (0 : Int32))]) dX12_feed_39 rfl (by decide) rfl ?_
      exact T_X12_feed_41 hd N _ _ _ _ _ hq
    ·
      refine st_aload_n (pc := 32) dX12_feed_32 rfl ?_
      refine st_iconst (pc := 33) (v := (4 : Int32)) dX12_feed_33 rfl ?_
      obtain ⟨⟨hbq4, hkq4⟩, hq⟩ := mh_oi hq
      obtain ⟨q4, e4, hq⟩ := mh_ob hq
      refine st_invV (pc := 34) (ci := 12) (vs := [.int (4 : Int32)]) (rest := []) (st2 := [.int q4.1]) dX12_feed_34 okX12_error (by decide) hkq4 hbq4 wd_1274 wd_1276 wp_37 pdX12_error rfl rfl rfl rfl (Nat.le_trans (by decide) hd) (Nat.le_of_ble_eq_true rfl) (T_X12_error (Nat.le_refl _) e4) rfl ?_
      exact bd_iret (pc := 37) hq dX12_feed_37 rfl
-- HoleWaterModel.here()I
theorem dX12_here_0 : decode cX12_here 0 = .ok (.aload_n 0, 1) := by decide +kernel
theorem dX12_here_1 : decode cX12_here 1 = .ok (.getfield 199, 3) := by decide +kernel
theorem dX12_here_4 : decode cX12_here 4 = .ok (.ifCond .ne 33, 3) := by decide +kernel
theorem dX12_here_7 : decode cX12_here 7 = .ok (.aload_n 0, 1) := by decide +kernel
theorem dX12_here_8 : decode cX12_here 8 = .ok (.getfield 203, 3) := by decide +kernel
theorem dX12_here_11 : decode cX12_here 11 = .ok (.aload_n 0, 1) := by decide +kernel
theorem dX12_here_12 : decode cX12_here 12 = .ok (.getfield 9, 3) := by decide +kernel
theorem dX12_here_15 : decode cX12_here 15 = .ok (.bipush 6, 2) := by decide +kernel
theorem dX12_here_17 : decode cX12_here 17 = .ok (.iaload, 1) := by decide +kernel
theorem dX12_here_18 : decode cX12_here 18 = .ok (.if_icmp .ge 19, 3) := by decide +kernel
theorem dX12_here_37 : decode cX12_here 37 = .ok (.iconst (-1), 1) := by decide +kernel
theorem dX12_here_38 : decode cX12_here 38 = .ok (.ireturn, 1) := by decide +kernel
theorem dX12_here_21 : decode cX12_here 21 = .ok (.aload_n 0, 1) := by decide +kernel
theorem dX12_here_22 : decode cX12_here 22 = .ok (.getfield 9, 3) := by decide +kernel
theorem dX12_here_25 : decode cX12_here 25 = .ok (.sipush 7710, 3) := by decide +kernel
theorem dX12_here_28 : decode cX12_here 28 = .ok (.aload_n 0, 1) := by decide +kernel
theorem dX12_here_29 : decode cX12_here 29 = .ok (.getfield 203, 3) := by decide +kernel
theorem dX12_here_32 : decode cX12_here 32 = .ok (.iadd, 1) := by decide +kernel
theorem dX12_here_33 : decode cX12_here 33 = .ok (.iaload, 1) := by decide +kernel
theorem dX12_here_34 : decode cX12_here 34 = .ok (.goto 4, 3) := by decide +kernel
def D_X12_here (N : Nat) (h : mh_H) (l0 : Nat) : Option (Int32 × mh_H) :=
  (gI h 12 l0 14).bind fun v1 =>
  if v1 = 0 then ((gI h 12 l0 11).bind fun v2 =>
  (gR h 12 l0 0).bind fun v3 =>
  (aI h v3 (6 : Int32)).bind fun v4 =>
  if v4 ≤ v2 then (some ((-1 : Int32), h))
  else ((gR h 12 l0 0).bind fun v5 =>
  (gI h 12 l0 11).bind fun v6 =>
  (aI h v5 ((7710 : Int32) + v6)).bind fun v7 =>
  some (v7, h)))
  else (some ((-1 : Int32), h))
set_option maxHeartbeats 4000000 in
set_option maxRecDepth 100000 in
theorem T_X12_here {P : mh_E → Prop} {N d : Nat} (hd : 1 ≤ d) {z : (Int32 × mh_H)} {h : mh_H} {l0 : Nat} (hq : D_X12_here N h l0 = some z) : mh_go P d mX12_here 0 [some (.ref l0)] [] h (some (.int z.1)) z.2 := by
  unfold D_X12_here at hq
  refine st_aload_n (pc := 0) dX12_here_0 rfl ?_
  refine bd_geti (pc := 1) hq dX12_here_1 fl_12_199_12 rfl (fun v1 hq => ?_)
  refine bd_if_ne (pc := 4) (tgt := 37) hq dX12_here_4 (by decide) (fun _ hq => ?_) (fun _ hq => ?_)
  ·
    refine st_aload_n (pc := 7) dX12_here_7 rfl ?_
    refine bd_geti (pc := 8) hq dX12_here_8 fl_12_203_12 rfl (fun v2 hq => ?_)
    refine st_aload_n (pc := 11) dX12_here_11 rfl ?_
    refine bd_getr (pc := 12) hq dX12_here_12 fl_12_9_12 rfl (fun v3 hq => ?_)
    refine st_bipush (pc := 15) (v := (6 : Int32)) dX12_here_15 (by decide) ?_
    refine bd_iald (pc := 17) hq dX12_here_17 (fun v4 hq => ?_)
    refine bd_icmp_ge (pc := 18) (tgt := 37) hq dX12_here_18 (by decide) (fun _ hq => ?_) (fun _ hq => ?_)
    ·
      refine st_iconst (pc := 37) (v := (-1 : Int32)) dX12_here_37 rfl ?_
      exact bd_iret (pc := 38) hq dX12_here_38 rfl
    ·
      refine st_aload_n (pc := 21) dX12_here_21 rfl ?_
      refine bd_getr (pc := 22) hq dX12_here_22 fl_12_9_12 rfl (fun v5 hq => ?_)
      refine st_sipush (pc := 25) (v := (7710 : Int32)) dX12_here_25 (by decide) ?_
      refine st_aload_n (pc := 28) dX12_here_28 rfl ?_
      refine bd_geti (pc := 29) hq dX12_here_29 fl_12_203_12 rfl (fun v6 hq => ?_)
      refine st_iadd (pc := 32) dX12_here_32 ?_
      refine bd_iald (pc := 33) hq dX12_here_33 (fun v7 hq => ?_)
      refine st_goto (pc := 34) (tgt := 38) dX12_here_34 (by decide) ?_
      exact bd_iret (pc := 38) hq dX12_here_38 rfl
  ·
    refine st_iconst (pc := 37) (v := (-1 : Int32)) dX12_here_37 rfl ?_
    exact bd_iret (pc := 38) hq dX12_here_38 rfl
-- HoleWaterModel.takes(C)Z
theorem dX12_takes__0 : decode cX12_takes_ 0 = .ok (.aload_n 0, 1) := by decide +kernel
theorem dX12_takes__1 : decode cX12_takes_ 1 = .ok (.invokevirtual 207, 3) := by decide +kernel
theorem dX12_takes__4 : decode cX12_takes_ 4 = .ok (.iload_n 1, 1) := by decide +kernel
theorem dX12_takes__5 : decode cX12_takes_ 5 = .ok (.if_icmp .eq 5, 3) := by decide +kernel
theorem dX12_takes__10 : decode cX12_takes_ 10 = .ok (.aload_n 0, 1) := by decide +kernel
theorem dX12_takes__11 : decode cX12_takes_ 11 = .ok (.dup, 1) := by decide +kernel
theorem dX12_takes__12 : decode cX12_takes_ 12 = .ok (.getfield 203, 3) := by decide +kernel
theorem dX12_takes__15 : decode cX12_takes_ 15 = .ok (.iconst 1, 1) := by decide +kernel
theorem dX12_takes__16 : decode cX12_takes_ 16 = .ok (.iadd, 1) := by decide +kernel
theorem dX12_takes__17 : decode cX12_takes_ 17 = .ok (.putfield 203, 3) := by decide +kernel
theorem dX12_takes__20 : decode cX12_takes_ 20 = .ok (.iconst 1, 1) := by decide +kernel
theorem dX12_takes__21 : decode cX12_takes_ 21 = .ok (.ireturn, 1) := by decide +kernel
theorem dX12_takes__8 : decode cX12_takes_ 8 = .ok (.iconst 0, 1) := by decide +kernel
theorem dX12_takes__9 : decode cX12_takes_ 9 = .ok (.ireturn, 1) := by decide +kernel
def D_X12_takes_ (N : Nat) (h : mh_H) (l0 : Nat) (l1 : Int32) : Option (Int32 × mh_H) :=
  kO h 12 l0 <|
  (D_X12_here N h l0).bind fun q1 =>
  if q1.1 = l1 then ((gI q1.2 12 l0 11).bind fun v2 =>
  (pI q1.2 12 l0 11 (v2 + (1 : Int32))).bind fun h3 =>
  zB (1 : Int32) h3)
  else (zB (0 : Int32) q1.2)
set_option maxHeartbeats 4000000 in
set_option maxRecDepth 100000 in
theorem T_X12_takes_ {P : mh_E → Prop} {N d : Nat} (hd : 2 ≤ d) {z : (Int32 × mh_H)} {h : mh_H} {l0 : Nat} {l1 : Int32} (hq : D_X12_takes_ N h l0 l1 = some z) : mh_go P d mX12_takes_ 0 [some (.ref l0), some (.int l1)] [] h (some (.int z.1)) z.2 := by
  unfold D_X12_takes_ at hq
  refine st_aload_n (pc := 0) dX12_takes__0 rfl ?_
  obtain ⟨⟨hbq1, hkq1⟩, hq⟩ := mh_oi hq
  obtain ⟨q1, e1, hq⟩ := mh_ob hq
  refine st_invV (pc := 1) (ci := 12) (vs := []) (rest := []) (st2 := [.int q1.1]) dX12_takes__1 okX12_here (by decide) hkq1 hbq1 wd_1515 wd_1517 wp_69 pdX12_here rfl rfl rfl rfl (Nat.le_trans (by decide) hd) (Nat.le_of_ble_eq_true rfl) (T_X12_here (Nat.le_refl _) e1) rfl ?_
  refine st_iload_n (pc := 4) dX12_takes__4 rfl ?_
  refine bd_icmp_eq (pc := 5) (tgt := 10) hq dX12_takes__5 (by decide) (fun _ hq => ?_) (fun _ hq => ?_)
  ·
    refine st_aload_n (pc := 10) dX12_takes__10 rfl ?_
    refine st_dup (pc := 11) dX12_takes__11 rfl ?_
    refine bd_geti (pc := 12) hq dX12_takes__12 fl_12_203_12 rfl (fun v2 hq => ?_)
    refine st_iconst (pc := 15) (v := (1 : Int32)) dX12_takes__15 rfl ?_
    refine st_iadd (pc := 16) dX12_takes__16 ?_
    refine bd_puti (pc := 17) hq dX12_takes__17 fl_12_203_12 (Or.inl rfl) rfl (fun h3 hq => ?_)
    refine st_iconst (pc := 20) (v := (1 : Int32)) dX12_takes__20 rfl ?_
    exact bd_zret (pc := 21) hq dX12_takes__21 rfl
  ·
    refine st_iconst (pc := 8) (v := (0 : Int32)) dX12_takes__8 rfl ?_
    exact bd_zret (pc := 9) hq dX12_takes__9 rfl
-- HoleWaterModel.puts(I)V
theorem dX12_puts__0 : decode cX12_puts_ 0 = .ok (.aload_n 0, 1) := by decide +kernel
theorem dX12_puts__1 : decode cX12_puts_ 1 = .ok (.getfield 199, 3) := by decide +kernel
theorem dX12_puts__4 : decode cX12_puts_ 4 = .ok (.ifCond .eq 4, 3) := by decide +kernel
theorem dX12_puts__8 : decode cX12_puts_ 8 = .ok (.aload_n 0, 1) := by decide +kernel
theorem dX12_puts__9 : decode cX12_puts_ 9 = .ok (.getfield 28, 3) := by decide +kernel
theorem dX12_puts__12 : decode cX12_puts_ 12 = .ok (.aload_n 0, 1) := by decide +kernel
theorem dX12_puts__13 : decode cX12_puts_ 13 = .ok (.getfield 211, 3) := by decide +kernel
theorem dX12_puts__16 : decode cX12_puts_ 16 = .ok (.iload_n 1, 1) := by decide +kernel
theorem dX12_puts__17 : decode cX12_puts_ 17 = .ok (.iastore, 1) := by decide +kernel
theorem dX12_puts__18 : decode cX12_puts_ 18 = .ok (.aload_n 0, 1) := by decide +kernel
theorem dX12_puts__19 : decode cX12_puts_ 19 = .ok (.dup, 1) := by decide +kernel
theorem dX12_puts__20 : decode cX12_puts_ 20 = .ok (.getfield 211, 3) := by decide +kernel
theorem dX12_puts__23 : decode cX12_puts_ 23 = .ok (.iconst 1, 1) := by decide +kernel
theorem dX12_puts__24 : decode cX12_puts_ 24 = .ok (.iadd, 1) := by decide +kernel
theorem dX12_puts__25 : decode cX12_puts_ 25 = .ok (.putfield 211, 3) := by decide +kernel
theorem dX12_puts__28 : decode cX12_puts_ 28 = .ok (.return_, 1) := by decide +kernel
theorem dX12_puts__7 : decode cX12_puts_ 7 = .ok (.return_, 1) := by decide +kernel
def D_X12_puts_ (N : Nat) (h : mh_H) (l0 : Nat) (l1 : Int32) : Option mh_H :=
  (gI h 12 l0 14).bind fun v1 =>
  if v1 = 0 then ((gR h 12 l0 7).bind fun v2 =>
  (gI h 12 l0 9).bind fun v3 =>
  (uI h v2 v3 l1).bind fun h4 =>
  (gI h4 12 l0 9).bind fun v5 =>
  (pI h4 12 l0 9 (v5 + (1 : Int32))).bind fun h6 =>
  some h6)
  else (some h)
set_option maxHeartbeats 4000000 in
set_option maxRecDepth 100000 in
theorem T_X12_puts_ {P : mh_E → Prop} {N d : Nat} (hd : 1 ≤ d) {z : mh_H} {h : mh_H} {l0 : Nat} {l1 : Int32} (hq : D_X12_puts_ N h l0 l1 = some z) : mh_go P d mX12_puts_ 0 [some (.ref l0), some (.int l1)] [] h none z := by
  unfold D_X12_puts_ at hq
  refine st_aload_n (pc := 0) dX12_puts__0 rfl ?_
  refine bd_geti (pc := 1) hq dX12_puts__1 fl_12_199_12 rfl (fun v1 hq => ?_)
  refine bd_if_eq (pc := 4) (tgt := 8) hq dX12_puts__4 (by decide) (fun _ hq => ?_) (fun _ hq => ?_)
  ·
    refine st_aload_n (pc := 8) dX12_puts__8 rfl ?_
    refine bd_getr (pc := 9) hq dX12_puts__9 fl_12_28_12 rfl (fun v2 hq => ?_)
    refine st_aload_n (pc := 12) dX12_puts__12 rfl ?_
    refine bd_geti (pc := 13) hq dX12_puts__13 fl_12_211_12 rfl (fun v3 hq => ?_)
    refine st_iload_n (pc := 16) dX12_puts__16 rfl ?_
    refine bd_iast (pc := 17) hq dX12_puts__17 (fun h4 hq => ?_)
    refine st_aload_n (pc := 18) dX12_puts__18 rfl ?_
    refine st_dup (pc := 19) dX12_puts__19 rfl ?_
    refine bd_geti (pc := 20) hq dX12_puts__20 fl_12_211_12 rfl (fun v5 hq => ?_)
    refine st_iconst (pc := 23) (v := (1 : Int32)) dX12_puts__23 rfl ?_
    refine st_iadd (pc := 24) dX12_puts__24 ?_
    refine bd_puti (pc := 25) hq dX12_puts__25 fl_12_211_12 (Or.inl rfl) rfl (fun h6 hq => ?_)
    exact bd_vret (pc := 28) hq dX12_puts__28 rfl
  ·
    exact bd_vret (pc := 7) hq dX12_puts__7 rfl
-- HoleWaterModel.nameOf(II)I
theorem dX12_nameOf_0 : decode cX12_nameOf 0 = .ok (.iload_n 0, 1) := by decide +kernel
theorem dX12_nameOf_1 : decode cX12_nameOf 1 = .ok (.ifCond .ne 45, 3) := by decide +kernel
theorem dX12_nameOf_4 : decode cX12_nameOf 4 = .ok (.iload_n 1, 1) := by decide +kernel
theorem dX12_nameOf_5 : decode cX12_nameOf 5 = .ok (.bipush 104, 2) := by decide +kernel
theorem dX12_nameOf_7 : decode cX12_nameOf 7 = .ok (.if_icmp .ne 7, 3) := by decide +kernel
theorem dX12_nameOf_10 : decode cX12_nameOf 10 = .ok (.iconst 0, 1) := by decide +kernel
theorem dX12_nameOf_11 : decode cX12_nameOf 11 = .ok (.goto 34, 3) := by decide +kernel
theorem dX12_nameOf_45 : decode cX12_nameOf 45 = .ok (.ireturn, 1) := by decide +kernel
theorem dX12_nameOf_14 : decode cX12_nameOf 14 = .ok (.iload_n 1, 1) := by decide +kernel
theorem dX12_nameOf_15 : decode cX12_nameOf 15 = .ok (.bipush 100, 2) := by decide +kernel
theorem dX12_nameOf_17 : decode cX12_nameOf 17 = .ok (.if_icmp .ne 7, 3) := by decide +kernel
theorem dX12_nameOf_20 : decode cX12_nameOf 20 = .ok (.iconst 1, 1) := by decide +kernel
theorem dX12_nameOf_21 : decode cX12_nameOf 21 = .ok (.goto 24, 3) := by decide +kernel
theorem dX12_nameOf_24 : decode cX12_nameOf 24 = .ok (.iload_n 1, 1) := by decide +kernel
theorem dX12_nameOf_25 : decode cX12_nameOf 25 = .ok (.bipush 107, 2) := by decide +kernel
theorem dX12_nameOf_27 : decode cX12_nameOf 27 = .ok (.if_icmp .ne 7, 3) := by decide +kernel
theorem dX12_nameOf_30 : decode cX12_nameOf 30 = .ok (.iconst 2, 1) := by decide +kernel
theorem dX12_nameOf_31 : decode cX12_nameOf 31 = .ok (.goto 14, 3) := by decide +kernel
theorem dX12_nameOf_34 : decode cX12_nameOf 34 = .ok (.iload_n 1, 1) := by decide +kernel
theorem dX12_nameOf_35 : decode cX12_nameOf 35 = .ok (.bipush 102, 2) := by decide +kernel
theorem dX12_nameOf_37 : decode cX12_nameOf 37 = .ok (.if_icmp .ne 7, 3) := by decide +kernel
theorem dX12_nameOf_40 : decode cX12_nameOf 40 = .ok (.iconst 3, 1) := by decide +kernel
theorem dX12_nameOf_41 : decode cX12_nameOf 41 = .ok (.goto 4, 3) := by decide +kernel
theorem dX12_nameOf_44 : decode cX12_nameOf 44 = .ok (.iconst (-1), 1) := by decide +kernel
theorem dX12_nameOf_46 : decode cX12_nameOf 46 = .ok (.iload_n 1, 1) := by decide +kernel
theorem dX12_nameOf_47 : decode cX12_nameOf 47 = .ok (.bipush 119, 2) := by decide +kernel
theorem dX12_nameOf_49 : decode cX12_nameOf 49 = .ok (.if_icmp .ne 7, 3) := by decide +kernel
theorem dX12_nameOf_52 : decode cX12_nameOf 52 = .ok (.iconst 0, 1) := by decide +kernel
theorem dX12_nameOf_53 : decode cX12_nameOf 53 = .ok (.goto 24, 3) := by decide +kernel
theorem dX12_nameOf_77 : decode cX12_nameOf 77 = .ok (.ireturn, 1) := by decide +kernel
theorem dX12_nameOf_56 : decode cX12_nameOf 56 = .ok (.iload_n 1, 1) := by decide +kernel
theorem dX12_nameOf_57 : decode cX12_nameOf 57 = .ok (.bipush 99, 2) := by decide +kernel
theorem dX12_nameOf_59 : decode cX12_nameOf 59 = .ok (.if_icmp .ne 7, 3) := by decide +kernel
theorem dX12_nameOf_62 : decode cX12_nameOf 62 = .ok (.iconst 1, 1) := by decide +kernel
theorem dX12_nameOf_63 : decode cX12_nameOf 63 = .ok (.goto 14, 3) := by decide +kernel
theorem dX12_nameOf_66 : decode cX12_nameOf 66 = .ok (.iload_n 1, 1) := by decide +kernel
theorem dX12_nameOf_67 : decode cX12_nameOf 67 = .ok (.bipush 115, 2) := by decide +kernel
theorem dX12_nameOf_69 : decode cX12_nameOf 69 = .ok (.if_icmp .ne 7, 3) := by decide +kernel
theorem dX12_nameOf_72 : decode cX12_nameOf 72 = .ok (.iconst 2, 1) := by decide +kernel
theorem dX12_nameOf_73 : decode cX12_nameOf 73 = .ok (.goto 4, 3) := by decide +kernel
theorem dX12_nameOf_76 : decode cX12_nameOf 76 = .ok (.iconst (-1), 1) := by decide +kernel
def D_X12_nameOf (N : Nat) (h : mh_H) (l0 : Int32) (l1 : Int32) : Option (Int32 × mh_H) :=
  if l0 = 0 then (if l1 = (104 : Int32) then (some ((0 : Int32), h))
  else (if l1 = (100 : Int32) then (some ((1 : Int32), h))
  else (if l1 = (107 : Int32) then (some ((2 : Int32), h))
  else (if l1 = (102 : Int32) then (some ((3 : Int32), h))
  else (some ((-1 : Int32), h))))))
  else (if l1 = (119 : Int32) then (some ((0 : Int32), h))
  else (if l1 = (99 : Int32) then (some ((1 : Int32), h))
  else (if l1 = (115 : Int32) then (some ((2 : Int32), h))
  else (some ((-1 : Int32), h)))))
set_option maxHeartbeats 4000000 in
set_option maxRecDepth 100000 in
theorem T_X12_nameOf {P : mh_E → Prop} {N d : Nat} (hd : 1 ≤ d) {z : (Int32 × mh_H)} {h : mh_H} {l0 : Int32} {l1 : Int32} (hq : D_X12_nameOf N h l0 l1 = some z) : mh_go P d mX12_nameOf 0 [some (.int l0), some (.int l1)] [] h (some (.int z.1)) z.2 := by
  unfold D_X12_nameOf at hq
  refine st_iload_n (pc := 0) dX12_nameOf_0 rfl ?_
  refine bd_if_ne (pc := 1) (tgt := 46) hq dX12_nameOf_1 (by decide) (fun _ hq => ?_) (fun _ hq => ?_)
  ·
    refine st_iload_n (pc := 4) dX12_nameOf_4 rfl ?_
    refine st_bipush (pc := 5) (v := (104 : Int32)) dX12_nameOf_5 (by decide) ?_
    refine bd_icmp_ne (pc := 7) (tgt := 14) hq dX12_nameOf_7 (by decide) (fun _ hq => ?_) (fun _ hq => ?_)
    ·
      refine st_iconst (pc := 10) (v := (0 : Int32)) dX12_nameOf_10 rfl ?_
      refine st_goto (pc := 11) (tgt := 45) dX12_nameOf_11 (by decide) ?_
      exact bd_iret (pc := 45) hq dX12_nameOf_45 rfl
    ·
      refine st_iload_n (pc := 14) dX12_nameOf_14 rfl ?_
      refine st_bipush (pc := 15) (v := (100 : Int32)) dX12_nameOf_15 (by decide) ?_
      refine bd_icmp_ne (pc := 17) (tgt := 24) hq dX12_nameOf_17 (by decide) (fun _ hq => ?_) (fun _ hq => ?_)
      ·
        refine st_iconst (pc := 20) (v := (1 : Int32)) dX12_nameOf_20 rfl ?_
        refine st_goto (pc := 21) (tgt := 45) dX12_nameOf_21 (by decide) ?_
        exact bd_iret (pc := 45) hq dX12_nameOf_45 rfl
      ·
        refine st_iload_n (pc := 24) dX12_nameOf_24 rfl ?_
        refine st_bipush (pc := 25) (v := (107 : Int32)) dX12_nameOf_25 (by decide) ?_
        refine bd_icmp_ne (pc := 27) (tgt := 34) hq dX12_nameOf_27 (by decide) (fun _ hq => ?_) (fun _ hq => ?_)
        ·
          refine st_iconst (pc := 30) (v := (2 : Int32)) dX12_nameOf_30 rfl ?_
          refine st_goto (pc := 31) (tgt := 45) dX12_nameOf_31 (by decide) ?_
          exact bd_iret (pc := 45) hq dX12_nameOf_45 rfl
        ·
          refine st_iload_n (pc := 34) dX12_nameOf_34 rfl ?_
          refine st_bipush (pc := 35) (v := (102 : Int32)) dX12_nameOf_35 (by decide) ?_
          refine bd_icmp_ne (pc := 37) (tgt := 44) hq dX12_nameOf_37 (by decide) (fun _ hq => ?_) (fun _ hq => ?_)
          ·
            refine st_iconst (pc := 40) (v := (3 : Int32)) dX12_nameOf_40 rfl ?_
            refine st_goto (pc := 41) (tgt := 45) dX12_nameOf_41 (by decide) ?_
            exact bd_iret (pc := 45) hq dX12_nameOf_45 rfl
          ·
            refine st_iconst (pc := 44) (v := (-1 : Int32)) dX12_nameOf_44 rfl ?_
            exact bd_iret (pc := 45) hq dX12_nameOf_45 rfl
  ·
    refine st_iload_n (pc := 46) dX12_nameOf_46 rfl ?_
    refine st_bipush (pc := 47) (v := (119 : Int32)) dX12_nameOf_47 (by decide) ?_
    refine bd_icmp_ne (pc := 49) (tgt := 56) hq dX12_nameOf_49 (by decide) (fun _ hq => ?_) (fun _ hq => ?_)
    ·
      refine st_iconst (pc := 52) (v := (0 : Int32)) dX12_nameOf_52 rfl ?_
      refine st_goto (pc := 53) (tgt := 77) dX12_nameOf_53 (by decide) ?_
      exact bd_iret (pc := 77) hq dX12_nameOf_77 rfl
    ·
      refine st_iload_n (pc := 56) dX12_nameOf_56 rfl ?_
      refine st_bipush (pc := 57) (v := (99 : Int32)) dX12_nameOf_57 (by decide) ?_
      refine bd_icmp_ne (pc := 59) (tgt := 66) hq dX12_nameOf_59 (by decide) (fun _ hq => ?_) (fun _ hq => ?_)
      ·
        refine st_iconst (pc := 62) (v := (1 : Int32)) dX12_nameOf_62 rfl ?_
        refine st_goto (pc := 63) (tgt := 77) dX12_nameOf_63 (by decide) ?_
        exact bd_iret (pc := 77) hq dX12_nameOf_77 rfl
      ·
        refine st_iload_n (pc := 66) dX12_nameOf_66 rfl ?_
        refine st_bipush (pc := 67) (v := (115 : Int32)) dX12_nameOf_67 (by decide) ?_
        refine bd_icmp_ne (pc := 69) (tgt := 76) hq dX12_nameOf_69 (by decide) (fun _ hq => ?_) (fun _ hq => ?_)
        ·
          refine st_iconst (pc := 72) (v := (2 : Int32)) dX12_nameOf_72 rfl ?_
          refine st_goto (pc := 73) (tgt := 77) dX12_nameOf_73 (by decide) ?_
          exact bd_iret (pc := 77) hq dX12_nameOf_77 rfl
        ·
          refine st_iconst (pc := 76) (v := (-1 : Int32)) dX12_nameOf_76 rfl ?_
          exact bd_iret (pc := 77) hq dX12_nameOf_77 rfl
